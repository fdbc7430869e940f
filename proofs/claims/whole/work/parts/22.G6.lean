-- ===== same =====
def gPn (g : Gr) (u : Nat) : Nat := if u < g.length then gN g u / 10 else 6
theorem gP_nI {g : Gr} {u : Nat} (h : u < 2 ^ 31) : gP g (nI u) = nI (gPn g u) := by
  unfold gP gPn
  rw [nI_toInt h]
  by_cases q : u < g.length
  · rw [if_pos ⟨by omega, by omega⟩, if_pos q]; simp
  · rw [if_neg (by omega), if_neg q]; rfl
theorem gPn_lt {g : Gr} (hg : GrOK g) (u : Nat) : gPn g u < 7 := by
  unfold gPn
  split
  · next h => have := (hg.2.1 u h).1; omega
  · omega
/-- all targets, by their numbers, that have the package of one of the list -/
def sameS (g : Gr) (L : List Nat) : List Nat := (List.range g.length).filter (fun t => L.any (fun u => decide (gPn g u = gPn g t)))
theorem any_take {L : List Nat} {p : Nat → Bool} {i : Nat} (h : i < L.length) : (L.take (i + 1)).any p = ((L.take i).any p || p L[i]) := by
  rw [List.take_succ_eq_append_getElem h, List.any_append]; simp

set_option maxHeartbeats 4000000 in
set_option maxRecDepth 100000 in
/-- Graph.findSame(list) -/
theorem cG_findSame (l : Launch) (D : va_G) (tys : List (ClassId × FieldType)) (A : Nat → Prop) (ws : va_W) (cI : ClassId) (hI : tys[0]? = some (cI, .int)) (ad : Nat → Nat) (kg k : Nat) (hd : kg + 9 ≤ k) (g : Gr) (L : List Nat) (hG : GraphAt cI ad ws kg g) (h : RowAt cI ad ws k L) : x_Mv l yG_findSame wG_findSame (xR 2) D xCl tys A [.ref (ad kg), .ref (ad k)] ws (fun ws1 => x_two k ws ws1 ∧ RowAt cI ad ws1 k (sameS g L)) := by
  obtain ⟨FF, ⟨hg0, hg1, hg2, hg3, hg4, hg5, hg6, hg7, hg8⟩, hRR⟩ := id hG
  obtain ⟨hokk, hrr1, hrr2, hrr3, hrr4, hrr5, hrr6, hrr7⟩ := id hRR
  have hle := hG.ok.1
  obtain ⟨fsR, hRo⟩ := h.obj
  obtain ⟨f1, hR1⟩ := id h
  refine x_enter (by decide) rfl (Nat.le_of_ble_eq_true rfl) (fun p e s m args below meth c ls hx hb hr hlk hml hown hnm hts hK hP hD hS hA hN hl => ?_)
  have hl : lv_has ls 4 [(0, .ref (ad kg)), (1, .ref (ad k))] := hl
  have loop_38 : ∀ (n : Nat) (w0 : Int32) (i : Nat) (hi : i ≤ g.length) (ws1 : va_W) (H : Heap) (locs : List Loc) (ls : Array Slot), (∀ x, x < 32 → bt w0 x = L.any (fun u => decide (gPn g u = x))) → x_two k ws ws1 → RowAt cI ad ws1 k (addL [] ((List.range i).filter (fun t => L.any (fun u => decide (gPn g u = gPn g t))))) → GraphAt cI ad ws1 kg g → g.length - i < n → va_P D xCl ws1 H → va_D A ws1 → va_S A s.heap H locs → lv_has ls 4 [(0, .ref (ad kg)), (1, .ref (ad k)), (2, .int w0), (3, .int (nI i))] → W p l e (xR 2) s m args below meth c H locs 0 0 (MQ below (va_Qv (fun ws1 => x_two k ws ws1 ∧ RowAt cI ad ws1 k (sameS g L)) (x_B D xCl tys A) A) args s 0 0 A) (F0 m 38 ls []) := by
    intro n
    induction n with
    | zero => intro w0 i hi ws1 H locs ls hw1 hT hrow hG1 hme; exact absurd hme (Nat.not_lt_zero _)
    | succ n ih =>
      intro w0 i hi ws1 H locs ls hw1 hT hrow hG1 hme hP hD hS hl
      obtain ⟨fsR2, hRo2⟩ := hrow.obj
      obtain ⟨f2, hR2⟩ := id hrow
      obtain ⟨FG, ⟨hgg0, -⟩, -⟩ := id hG1
      refine lv_iload_n hx hb dG_findSame_38 rfl (lv_at hl 3 rfl) ?_
      refine lv_aload_n hx hb dG_findSame_39 rfl (lv_at hl 0 rfl) ?_
      refine va_get (D := D) (cl := xCl) (ci := 0) (v := .int (nI g.length)) (C := rnG) (T := tbG) (N := 9) hx hb hts inG hown hK hP kg hgg0 rfl 8 (by decide) (hts _ tw_37) (fun _ h9 => h9) rfl dG_findSame_40 ?_
      refine lv_icmp_ge (tgt := 69) hx hb dG_findSame_43 (by decide) (fun c43 => ?_) (fun c43 => ?_)
      · exact x_vret hx hb hr hlk hK hP hD hS dG_findSame_69 ⟨hT, by have e : i = g.length := (by rw [nI_leI (by omega) (by omega)] at c43; omega); rw [e, addL_flt] at hrow; exact hrow⟩
      · have hi2 : i < g.length := by rw [nI_leI (by omega) (by omega)] at c43; omega
        refine lv_iload_n hx hb dG_findSame_46 rfl (lv_at hl 2 rfl) ?_
        refine lv_aload_n hx hb dG_findSame_47 rfl (lv_at hl 0 rfl) ?_
        refine lv_iload_n hx hb dG_findSame_48 rfl (lv_at hl 3 rfl) ?_
        refine x_calli (x_runV (n := 1) (As := [.int (nI i)]) (rest := [.int w0]) ⟨hx, hb, hml, hown, hts⟩ (cG_packOf l D tys A ws1 cI hI ad kg g (nI i) hG1) tw_551 tw_553 ts_G_packOf tw_2 tw_554 (by decide +kernel) rfl rfl ⟨by decide, by decide⟩ ⟨Nat.zero_le _, Nat.zero_le _⟩ (va_recv hK hP (ci := 0) (q0 := kg) rfl hgg0) hK hP hD hS hA hN rfl hl.1 rfl (lv_room (Nat.le_of_ble_eq_true rfl)) dG_findSame_49) hS (fun rpk ws_1 H locs hpk hP hD hS => ?_)
        obtain ⟨hpk, rfl⟩ := hpk
        refine lv_iushr (v := ((w0).toUInt32 >>> ((rpk).toUInt32 &&& Int32.toUInt32 31)).toInt32) hx hb dG_findSame_52 rfl ?_
        refine lv_topi (fun v_2 ev_2 => ?_)
        refine lv_iconst (v := 1) hx hb dG_findSame_53 (by decide) ?_
        refine lv_iand hx hb dG_findSame_54 ?_
        refine lv_topi (fun v_3 ev_3 => ?_)
        refine lv_if_eq (tgt := 63) hx hb dG_findSame_55 (by decide) (fun c55 => ?_) (fun c55 => ?_)
        · refine lv_iinc (v := (nI (i + 1))) (lv' := [(3, .int (nI (i + 1))), (0, .ref (ad kg)), (1, .ref (ad k)), (2, .int w0)]) hx hb dG_findSame_63 hl (k := 3) rfl (nI_1 _) (by decide) rfl (fun ls hl => ?_)
          refine lv_goto (tgt := 38) hx hb dG_findSame_66 (by decide) ?_
          exact ih w0 (i + 1) (by omega) ws1 _ _ _ hw1 hT (by have q7 := gPn_lt hokk i; rw [ev_3, ev_2, hpk, gP_nI (by omega), b_test w0 (by omega), hw1 _ (by omega)] at c55; rw [List.range_succ, List.filter_append, List.filter_cons, if_neg (by rw [c55]; decide)]; simpa using hrow) hG1 (by omega) hP hD hS (lv_sub hl [1, 2, 3, 0] rfl)
        · refine lv_aload_n hx hb dG_findSame_58 rfl (lv_at hl 1 rfl) ?_
          refine lv_iload_n hx hb dG_findSame_59 rfl (lv_at hl 3 rfl) ?_
          refine x_callv (x_runV (n := 1) (As := [.int (nI i)]) (rest := []) ⟨hx, hb, hml, hown, hts⟩ (cR_add l D tys A ws1 cI hI ad k _ ((nI i)) f2 hR2) tw_488 tw_451 tw_452 tw_7 tw_453 (by decide +kernel) rfl rfl ⟨by decide, by decide⟩ ⟨Nat.zero_le _, Nat.zero_le _⟩ (va_recv hK hP (ci := 2) (q0 := k) rfl hRo2) hK hP hD hS hA hN rfl hl.1 rfl (lv_room (Nat.le_of_ble_eq_true rfl)) dG_findSame_60) hS (fun ws_4 H locs hadd hP hD hS => ?_)
          obtain ⟨ht2, f9, hr2, -⟩ := hadd
          have hG2 := hG1.keep ht2.fr (by omega)
          refine lv_iinc (v := (nI (i + 1))) (lv' := [(3, .int (nI (i + 1))), (0, .ref (ad kg)), (1, .ref (ad k)), (2, .int w0)]) hx hb dG_findSame_63 hl (k := 3) rfl (nI_1 _) (by decide) rfl (fun ls hl => ?_)
          refine lv_goto (tgt := 38) hx hb dG_findSame_66 (by decide) ?_
          exact ih w0 (i + 1) (by omega) ws_4 _ _ _ hw1 (hT.tr ht2) (by have q7 := gPn_lt hokk i; rw [ev_3, ev_2, hpk, gP_nI (by omega), b_test w0 (by omega), hw1 _ (by omega)] at c55; rw [List.range_succ, List.filter_append, List.filter_cons, if_pos (ts_nf9 c55)]; unfold addL; rw [List.foldl_append]; show RowAt cI ad _ k (addN (addL [] _) i); rw [← addI_N _ (by omega)]; exact ⟨_, hr2⟩) hG2 (by omega) hP hD hS (lv_sub hl [1, 2, 3, 0] rfl)
  have loop_4 : ∀ (n : Nat) (i : Nat) (w0 : Int32) (hi : i ≤ L.length) (ws1 : va_W) (H : Heap) (locs : List Loc) (ls : Array Slot), (∀ x, x < 32 → bt w0 x = (L.take i).any (fun u => decide (gPn g u = x))) → ws = ws1 → L.length - i < n → va_P D xCl ws1 H → va_D A ws1 → va_S A s.heap H locs → lv_has ls 4 [(0, .ref (ad kg)), (1, .ref (ad k)), (2, .int w0), (3, .int (nI i))] → W p l e (xR 2) s m args below meth c H locs 0 0 (MQ below (va_Qv (fun ws1 => x_two k ws ws1 ∧ RowAt cI ad ws1 k (sameS g L)) (x_B D xCl tys A) A) args s 0 0 A) (F0 m 4 ls []) := by
    intro n
    induction n with
    | zero => intro i w0 hi ws1 H locs ls hw0 hws hme; exact absurd hme (Nat.not_lt_zero _)
    | succ n ih =>
      intro i w0 hi ws1 H locs ls hw0 hws hme hP hD hS hl
      subst hws
      have hle9 := h.le
      refine lv_iload_n hx hb dG_findSame_4 rfl (lv_at hl 3 rfl) ?_
      refine lv_aload_n hx hb dG_findSame_5 rfl (lv_at hl 1 rfl) ?_
      refine x_calli (x_runV (n := 0) (As := []) (rest := [.int (nI i)]) ⟨hx, hb, hml, hown, hts⟩ (cR_size l D tys A ws cI hI ad k _ h) tw_477 tw_443 tw_444 tw_7 tw_445 (by decide +kernel) rfl rfl ⟨by decide, by decide⟩ ⟨Nat.zero_le _, Nat.zero_le _⟩ (va_recv hK hP (ci := 2) (q0 := k) rfl hRo) hK hP hD hS hA hN rfl hl.1 rfl (lv_room (Nat.le_of_ble_eq_true rfl)) dG_findSame_6) hS (fun r_6 ws_5 H locs hz hP hD hS => ?_)
      obtain ⟨hz, rfl⟩ := hz
      refine lv_icmp_ge (tgt := 32) hx hb dG_findSame_9 (by decide) (fun c9 => ?_) (fun c9 => ?_)
      · refine lv_aload_n hx hb dG_findSame_32 rfl (lv_at hl 1 rfl) ?_
        refine x_callv (x_runV (n := 0) (As := []) (rest := []) ⟨hx, hb, hml, hown, hts⟩ (cR_clear l D tys A ws cI hI ad k L f1 hR1) tw_489 tw_435 tw_436 tw_7 tw_437 (by decide +kernel) rfl rfl ⟨by decide, by decide⟩ ⟨Nat.zero_le _, Nat.zero_le _⟩ (va_recv hK hP (ci := 2) (q0 := k) rfl hRo) hK hP hD hS hA hN rfl hl.1 rfl (lv_room (Nat.le_of_ble_eq_true rfl)) dG_findSame_33) hS (fun ws_7 H locs hcl hP hD hS => ?_)
        have hG3 := hG.keep hcl.1.fr (by omega)
        refine lv_iconst (v := 0) hx hb dG_findSame_36 (by decide) ?_
        refine lv_istore_n (lv' := [(3, .int 0), (0, .ref (ad kg)), (1, .ref (ad k)), (2, .int w0)]) hx hb dG_findSame_37 rfl hl (by decide) rfl (fun ls hl => ?_)
        exact loop_38 _ w0 0 (Nat.zero_le _) ws_7 _ _ _ (fun x hx => by rw [hw0 x hx]; have e : i = L.length := (by rw [hz, nI_leI (by omega) (by omega)] at c9; omega); rw [e, List.take_length]) hcl.1 ⟨_, hcl.2⟩ hG3 (Nat.lt_succ_self _) hP hD hS (lv_sub hl [1, 2, 3, 0] rfl)
      · have hi2 : i < L.length := by rw [hz, nI_leI (by omega) (by omega)] at c9; omega
        refine lv_iload_n hx hb dG_findSame_12 rfl (lv_at hl 2 rfl) ?_
        refine lv_iconst (v := 1) hx hb dG_findSame_13 (by decide) ?_
        refine lv_aload_n hx hb dG_findSame_14 rfl (lv_at hl 0 rfl) ?_
        refine lv_aload_n hx hb dG_findSame_15 rfl (lv_at hl 1 rfl) ?_
        refine lv_iload_n hx hb dG_findSame_16 rfl (lv_at hl 3 rfl) ?_
        refine x_calli (x_runV (n := 1) (As := [.int (nI i)]) (rest := [.ref (ad kg), .int 1, .int w0]) ⟨hx, hb, hml, hown, hts⟩ (cR_at l D tys A ws cI hI ad k _ ((nI i)) h) tw_478 tw_447 tw_448 tw_7 tw_449 (by decide +kernel) rfl rfl ⟨by decide, by decide⟩ ⟨Nat.zero_le _, Nat.zero_le _⟩ (va_recv hK hP (ci := 2) (q0 := k) rfl hRo) hK hP hD hS hA hN rfl hl.1 rfl (lv_room (Nat.le_of_ble_eq_true rfl)) dG_findSame_17) hS (fun rat ws_8 H locs hat hP hD hS => ?_)
        obtain ⟨hat, rfl⟩ := hat
        obtain rfl : rat = nI L[i] := by rw [hat, atI_nI hi2 (by omega)]
        refine x_calli (x_runV (n := 1) (As := [.int (nI L[i])]) (rest := [.int 1, .int w0]) ⟨hx, hb, hml, hown, hts⟩ (cG_packOf l D tys A ws cI hI ad kg g (nI L[i]) hG) tw_551 tw_553 ts_G_packOf tw_2 tw_554 (by decide +kernel) rfl rfl ⟨by decide, by decide⟩ ⟨Nat.zero_le _, Nat.zero_le _⟩ (va_recv hK hP (ci := 0) (q0 := kg) rfl hg0) hK hP hD hS hA hN rfl hl.1 rfl (lv_room (Nat.le_of_ble_eq_true rfl)) dG_findSame_20) hS (fun rpk ws_9 H locs hpk hP hD hS => ?_)
        obtain ⟨hpk, rfl⟩ := hpk
        refine lv_ishl hx hb dG_findSame_23 ?_
        refine lv_topi (fun v_10 ev_10 => ?_)
        refine lv_ior hx hb dG_findSame_24 ?_
        refine lv_topi (fun v_11 ev_11 => ?_)
        refine lv_istore_n (lv' := [(2, .int v_11), (0, .ref (ad kg)), (1, .ref (ad k)), (3, .int (nI i))]) hx hb dG_findSame_25 rfl hl (by decide) rfl (fun ls hl => ?_)
        refine lv_iinc (v := (nI (i + 1))) (lv' := [(3, .int (nI (i + 1))), (2, .int v_11), (0, .ref (ad kg)), (1, .ref (ad k))]) hx hb dG_findSame_26 hl (k := 3) rfl (nI_1 _) (by decide) rfl (fun ls hl => ?_)
        refine lv_goto (tgt := 4) hx hb dG_findSame_29 (by decide) ?_
        exact ih (i + 1) v_11 (by omega) ws _ _ _ (fun x hx => by have q7 := gPn_lt hokk L[i]; rw [ev_11, ev_10, hpk, gP_nI (by have := h.lt L[i] (List.getElem_mem hi2); omega), b_or, hw0 x hx, b_sh1 (by omega) hx, any_take hi2]; congr 1; exact decide_eq_decide.mpr ⟨Eq.symm, Eq.symm⟩) rfl (by omega) hP hD hS (lv_sub hl [2, 3, 1, 0] rfl)
  refine lv_iconst (v := 0) hx hb dG_findSame_0 (by decide) ?_
  refine lv_istore_n (lv' := [(2, .int 0), (0, .ref (ad kg)), (1, .ref (ad k))]) hx hb dG_findSame_1 rfl hl (by decide) rfl (fun ls hl => ?_)
  refine lv_iconst (v := 0) hx hb dG_findSame_2 (by decide) ?_
  refine lv_istore_n (lv' := [(3, .int 0), (2, .int 0), (0, .ref (ad kg)), (1, .ref (ad k))]) hx hb dG_findSame_3 rfl hl (by decide) rfl (fun ls hl => ?_)
  exact loop_4 _ 0 0 (Nat.zero_le _) ws _ _ _ (fun x _ => by rw [b_0]; rfl) rfl (Nat.lt_succ_self _) hP hD hS (lv_sub hl [2, 3, 1, 0] rfl)

-- ===== ways =====
/-- a Graph whose row cameBy is cb -/
def GraphC (cI : ClassId) (ad : Nat → Nat) (ws : va_W) (k : Nat) (g : Gr) (cb : Nat → Int32) : Prop := ∃ F, GraphF cI ad ws k F g.length ∧ GrRel g F ∧ F 8 = cb
theorem GraphC.at {cI : ClassId} {ad : Nat → Nat} {ws : va_W} {k : Nat} {g : Gr} {cb : Nat → Int32} (h : GraphC cI ad ws k g cb) : GraphAt cI ad ws k g := by
  obtain ⟨F, h1, h2, -⟩ := h
  exact ⟨F, h1, h2⟩
theorem GraphAt.c {cI : ClassId} {ad : Nat → Nat} {ws : va_W} {k : Nat} {g : Gr} (h : GraphAt cI ad ws k g) : ∃ cb, GraphC cI ad ws k g cb := by
  obtain ⟨F, h1, h2⟩ := h
  exact ⟨F 8, F, h1, h2, rfl⟩
theorem GraphC.keep {cI : ClassId} {ad : Nat → Nat} {ws ws1 : va_W} {k a b : Nat} {g : Gr} {cb : Nat → Int32} (h : GraphC cI ad ws k g cb) (hf : x_fr a b ws ws1) (hd : k + 9 ≤ a ∨ b ≤ k) : GraphC cI ad ws1 k g cb := by
  obtain ⟨F, ⟨h0, h1, h2, h3, h4, h5, h6, h7, h8⟩, r⟩ := h
  exact ⟨F, ⟨(hf _ (by omega)).trans h0, (hf _ (by omega)).trans h1, (hf _ (by omega)).trans h2, (hf _ (by omega)).trans h3, (hf _ (by omega)).trans h4, (hf _ (by omega)).trans h5, (hf _ (by omega)).trans h6, (hf _ (by omega)).trans h7, (hf _ (by omega)).trans h8⟩, r⟩
theorem GrRel.c8 {g : Gr} {F : Nat → Nat → Int32} (h : GrRel g F) (f : Nat → Int32) : GrRel g (setF F 8 f) := h
/-- nothing changed but cameBy and the row k -/
def x_nt (kg k : Nat) (ws ws1 : va_W) : Prop := ∀ j, j ≠ kg + 8 → j ≠ k → j ≠ k + 1 → ws1[j]? = ws[j]?
theorem x_nt.rf {kg k : Nat} {ws : va_W} : x_nt kg k ws ws := fun _ _ _ _ => rfl
theorem x_nt.tr {kg k : Nat} {a b c : va_W} (h1 : x_nt kg k a b) (h2 : x_nt kg k b c) : x_nt kg k a c := fun j h h' h'' => (h2 j h h' h'').trans (h1 j h h' h'')
theorem x_two.nt {kg k : Nat} {a b : va_W} (h : x_two k a b) : x_nt kg k a b := fun j _ h1 h2 => h j h1 h2
theorem x_upd.nt {kg k : Nat} {a b : va_W} {q : Nat × va_E} (h : x_upd a (kg + 8) q b) : x_nt kg k a b := fun j h1 _ _ => h.2 j h1
theorem RowAt.keepN {cI : ClassId} {ad : Nat → Nat} {ws ws1 : va_W} {kg k k2 : Nat} {L : List Nat} (h : RowAt cI ad ws k2 L) (hf : x_nt kg k ws ws1) (h1 : kg + 9 ≤ k2) (h2 : k2 + 2 ≤ k ∨ k + 2 ≤ k2) : RowAt cI ad ws1 k2 L := by
  obtain ⟨f, mk, h0, h1, r⟩ := h
  exact ⟨f, mk, (hf _ (by omega) (by omega) (by omega)).trans h0, (hf _ (by omega) (by omega) (by omega)).trans h1, r⟩
/-- u comes by t, if it isn't there -/
def note1 (t : Nat) (x : List Nat × (Nat → Int32)) (u : Nat) : List Nat × (Nat → Int32) := if u ∈ x.1 then x else (x.1 ++ [u], upd x.2 u (nI t))
def noteL (t : Nat) (x : List Nat × (Nat → Int32)) (R : List Nat) : List Nat × (Nat → Int32) := R.foldl (note1 t) x
theorem noteL_s (t : Nat) (x : List Nat × (Nat → Int32)) (R : List Nat) {i : Nat} (h : i < R.length) : noteL t x (R.take (i + 1)) = note1 t (noteL t x (R.take i)) R[i] := take_foldl _ x R h

theorem note_no {g : Gr} {ta i : Nat} (hta : ta < 30) (hi : i < 8) (x : List Nat × (Nat → Int32)) {r : Int32} (e : r = b2i (blw (gAt g (nI ta) (nI i)) 30)) (h : r = 0) (hg : GrOK g) : noteL ta x ((gD g ta).take (i + 1)) = noteL ta x ((gD g ta).take i) := by
  by_cases hl : i < (gD g ta).length
  · exfalso
    have q := blw_no (n := 30) (by omega) e h
    rw [gAt_nI g (by omega) hl (by omega)] at q
    have q2 := (hg.2.2.2 ta).2.2 ((gD g ta).getD i 0) (by rw [List.getD_eq_getElem?_getD, List.getElem?_eq_getElem hl]; exact List.getElem_mem hl)
    have := hg.1
    rw [nI_toInt (by omega)] at q
    omega
  · rw [List.take_of_length_le (by omega), List.take_of_length_le (by omega)]
theorem note_in {g : Gr} {ta i : Nat} (hta : ta < 30) (hi : i < 8) {r : Int32} (e : r = b2i (blw (gAt g (nI ta) (nI i)) 30)) (h : ¬ r = 0) (hg : GrOK g) : ∃ hl : i < (gD g ta).length, gAt g (nI ta) (nI i) = nI (gD g ta)[i] ∧ (gD g ta)[i] < 30 := by
  by_cases hl : i < (gD g ta).length
  · refine ⟨hl, ?_, ?_⟩
    · rw [gAt_nI g (by omega) hl (by omega)]; simp [hl]
    · have := (hg.2.2.2 ta).2.2 _ (List.getElem_mem hl)
      have := hg.1
      omega
  · exfalso
    rw [e, gAt_no (by rw [nI_toInt (by omega), nI_toInt (by omega)]; simp; omega)] at h
    exact h (by decide)

set_option maxHeartbeats 4000000 in
set_option maxRecDepth 100000 in
/-- Graph.noteNeedsOf(t, list) -/
theorem cG_noteNeedsOf (l : Launch) (D : va_G) (tys : List (ClassId × FieldType)) (A : Nat → Prop) (ws : va_W) (cI : ClassId) (hI : tys[0]? = some (cI, .int)) (ad : Nat → Nat) (kg k : Nat) (hd : kg + 9 ≤ k) (g : Gr) (L : List Nat) (ta : Nat) (hta : ta < 30) (cb : Nat → Int32) (hC : GraphC cI ad ws kg g cb) (h : RowAt cI ad ws k L) : x_Mv l yG_noteNeedsOf wG_noteNeedsOf (xR 2) D xCl tys A [.ref (ad kg), .int (nI ta), .ref (ad k)] ws (fun ws1 => x_nt kg k ws ws1 ∧ RowAt cI ad ws1 k (noteL ta (L, cb) (gD g ta)).1 ∧ GraphC cI ad ws1 kg g (noteL ta (L, cb) (gD g ta)).2) := by
  refine x_enter (by decide) rfl (Nat.le_of_ble_eq_true rfl) (fun p e s m args below meth c ls hx hb hr hlk hml hown hnm hts hK hP hD hS hA hN hl => ?_)
  have hl : lv_has ls 5 [(0, .ref (ad kg)), (1, .int (nI ta)), (2, .ref (ad k))] := hl
  have loop_2 : ∀ (n : Nat) (i : Nat) (hi : i ≤ 8) (ws1 : va_W) (H : Heap) (locs : List Loc) (ls : Array Slot), x_nt kg k ws ws1 → RowAt cI ad ws1 k (noteL ta (L, cb) ((gD g ta).take i)).1 → GraphC cI ad ws1 kg g (noteL ta (L, cb) ((gD g ta).take i)).2 → 8 - i < n → va_P D xCl ws1 H → va_D A ws1 → va_S A s.heap H locs → lv_has ls 5 [(0, .ref (ad kg)), (1, .int (nI ta)), (2, .ref (ad k)), (3, .int (nI i))] → W p l e (xR 2) s m args below meth c H locs 0 0 (MQ below (va_Qv (fun ws1 => x_nt kg k ws ws1 ∧ RowAt cI ad ws1 k (noteL ta (L, cb) (gD g ta)).1 ∧ GraphC cI ad ws1 kg g (noteL ta (L, cb) (gD g ta)).2) (x_B D xCl tys A) A) args s 0 0 A) (F0 m 2 ls []) := by
    intro n
    induction n with
    | zero => intro i hi ws1 H locs ls hT hrow hC1 hme; exact absurd hme (Nat.not_lt_zero _)
    | succ n ih =>
      intro i hi ws1 H locs ls hT hrow hC1 hme hP hD hS hl
      obtain ⟨fsR, hRo⟩ := hrow.obj
      have hG1 := hC1.at
      obtain ⟨FF, ⟨hg0, hg1, hg2, hg3, hg4, hg5, hg6, hg7, hg8⟩, hRR, hc8⟩ := id hC1
      have hle := hG1.ok.1
      refine lv_iload_n hx hb dG_noteNeedsOf_2 rfl (lv_at hl 3 rfl) ?_
      refine lv_bipush (v := 8) hx hb dG_noteNeedsOf_3 (by decide) ?_
      refine lv_icmp_ge (tgt := 58) hx hb dG_noteNeedsOf_5 (by decide) (fun c5 => ?_) (fun c5 => ?_)
      · exact x_vret hx hb hr hlk hK hP hD hS dG_noteNeedsOf_58 ⟨hT, (by have e : (gD g ta).take i = gD g ta := List.take_of_length_le (by have c5 : nI 8 ≤ nI i := c5; rw [nI_leI (by omega) (by omega)] at c5; have := (hG1.ok.2.2.2 ta).2.1; omega); rw [e] at hrow; exact hrow), (by have e : (gD g ta).take i = gD g ta := List.take_of_length_le (by have c5 : nI 8 ≤ nI i := c5; rw [nI_leI (by omega) (by omega)] at c5; have := (hG1.ok.2.2.2 ta).2.1; omega); rw [e] at hC1; exact hC1)⟩
      · have hi2 : i < 8 := by have c5 : ¬ nI 8 ≤ nI i := c5; rw [nI_leI (by omega) (by omega)] at c5; omega
        refine lv_aload_n hx hb dG_noteNeedsOf_8 rfl (lv_at hl 0 rfl) ?_
        refine lv_iload_n hx hb dG_noteNeedsOf_9 rfl (lv_at hl 1 rfl) ?_
        refine lv_iload_n hx hb dG_noteNeedsOf_10 rfl (lv_at hl 3 rfl) ?_
        refine x_calli (x_runV (n := 2) (As := [.int (nI ta), .int (nI i)]) (rest := []) ⟨hx, hb, hml, hown, hts⟩ (cG_needAt l D tys A ws1 cI hI ad kg g ((nI ta)) ((nI i)) hG1) tw_487 tw_197 tw_198 tw_2 tw_199 (by decide +kernel) rfl rfl ⟨by decide, by decide⟩ ⟨Nat.zero_le _, Nat.zero_le _⟩ (va_recv hK hP (ci := 0) (q0 := kg) rfl hg0) hK hP hD hS hA hN rfl hl.1 rfl (lv_room (Nat.le_of_ble_eq_true rfl)) dG_noteNeedsOf_11) hS (fun rna ws_1 H locs hna hP hD hS => ?_)
        obtain ⟨hna, rfl⟩ := hna
        refine lv_istore (lv' := [(4, .int rna), (0, .ref (ad kg)), (1, .int (nI ta)), (2, .ref (ad k)), (3, .int (nI i))]) hx hb dG_noteNeedsOf_14 hl (by decide) rfl (fun ls hl => ?_)
        refine lv_iload hx hb dG_noteNeedsOf_16 (lv_at hl 0 rfl) ?_
        refine lv_aload_n hx hb dG_noteNeedsOf_18 rfl (lv_at hl 1 rfl) ?_
        refine va_get (D := D) (cl := xCl) (ci := 0) (v := .ref (ad (kg + 8))) (C := rnG) (T := tbG) (N := 9) hx hb hts inG hown hK hP kg hg0 rfl 7 (by decide) (hts _ tw_36) (fun _ h9 => h9) rfl dG_noteNeedsOf_19 ?_
        refine va_alen (v := 30) hx hb hK hP (kg + 8) 0 hg8 hI (by rfl) dG_noteNeedsOf_22 ?_
        refine x_calli (x_runS (n := 2) (As := [.int rna, .int 30]) (rest := []) ⟨hx, hb, hml, hown, hts⟩ (cG_below l D tys A ws1 rna 30) tw_178 tw_179 tw_2 tw_180 (by decide +kernel) rfl rfl ⟨by decide, by decide⟩ ⟨Nat.zero_le _, Nat.zero_le _⟩ hK hP hD hS hA hN rfl hl.1 rfl (lv_room (Nat.le_of_ble_eq_true rfl)) dG_noteNeedsOf_23) hS (fun rhb1 ws_2 H locs hb1 hP hD hS => ?_)
        obtain ⟨hb1, rfl⟩ := hb1
        refine lv_if_eq (tgt := 52) hx hb dG_noteNeedsOf_26 (by decide) (fun c26 => ?_) (fun c26 => ?_)
        · refine lv_iinc (v := (nI (i + 1))) (lv' := [(3, .int (nI (i + 1))), (4, .int rna), (0, .ref (ad kg)), (1, .int (nI ta)), (2, .ref (ad k))]) hx hb dG_noteNeedsOf_52 hl (k := 4) rfl (nI_1 _) (by decide) rfl (fun ls hl => ?_)
          refine lv_goto (tgt := 2) hx hb dG_noteNeedsOf_55 (by decide) ?_
          exact ih (i + 1) (by omega) ws1 _ _ _ hT (by rw [note_no hta hi2 _ (by rw [hb1, hna]) c26 hG1.ok]; exact hrow) (by rw [note_no hta hi2 _ (by rw [hb1, hna]) c26 hG1.ok]; exact hC1) (by omega) hP hD hS (lv_sub hl [2, 3, 4, 0] rfl)
        · obtain ⟨hl9, hx1, hx2⟩ := note_in hta hi2 (by rw [hb1, hna]) c26 hG1.ok
          refine lv_aload_n hx hb dG_noteNeedsOf_29 rfl (lv_at hl 3 rfl) ?_
          refine lv_iload hx hb dG_noteNeedsOf_30 (lv_at hl 0 rfl) ?_
          refine x_calli (x_runV (n := 1) (As := [.int rna]) (rest := []) ⟨hx, hb, hml, hown, hts⟩ (cR_has l D tys A ws1 cI hI ad k _ rna hrow) tw_479 tw_480 tw_481 tw_7 tw_482 (by decide +kernel) rfl rfl ⟨by decide, by decide⟩ ⟨Nat.zero_le _, Nat.zero_le _⟩ (va_recv hK hP (ci := 2) (q0 := k) rfl hRo) hK hP hD hS hA hN rfl hl.1 rfl (lv_room (Nat.le_of_ble_eq_true rfl)) dG_noteNeedsOf_32) hS (fun rhs ws_3 H locs hhs hP hD hS => ?_)
          obtain ⟨hhs, rfl⟩ := hhs
          refine lv_if_ne (tgt := 52) hx hb dG_noteNeedsOf_35 (by decide) (fun c35 => ?_) (fun c35 => ?_)
          · refine lv_iinc (v := (nI (i + 1))) (lv' := [(3, .int (nI (i + 1))), (4, .int rna), (0, .ref (ad kg)), (1, .int (nI ta)), (2, .ref (ad k))]) hx hb dG_noteNeedsOf_52 hl (k := 4) rfl (nI_1 _) (by decide) rfl (fun ls hl => ?_)
            refine lv_goto (tgt := 2) hx hb dG_noteNeedsOf_55 (by decide) ?_
            exact ih (i + 1) (by omega) ws1 _ _ _ hT (by have e : noteL ta (L, cb) ((gD g ta).take (i + 1)) = noteL ta (L, cb) ((gD g ta).take i) := (by rw [noteL_s _ _ _ hl9]; rw [hhs, hna, hx1, hasI_nI _ hx2, b2i_n0, decide_eq_true_eq] at c35; exact if_pos c35); rw [e]; exact hrow) (by have e : noteL ta (L, cb) ((gD g ta).take (i + 1)) = noteL ta (L, cb) ((gD g ta).take i) := (by rw [noteL_s _ _ _ hl9]; rw [hhs, hna, hx1, hasI_nI _ hx2, b2i_n0, decide_eq_true_eq] at c35; exact if_pos c35); rw [e]; exact hC1) (by omega) hP hD hS (lv_sub hl [2, 3, 4, 0] rfl)
          · have hx3 : (gD g ta)[i] ∉ (noteL ta (L, cb) ((gD g ta).take i)).1 := by rw [hhs, hna, hx1, hasI_nI _ hx2, b2i_0, decide_eq_false_iff_not] at c35; exact c35
            refine lv_aload_n hx hb dG_noteNeedsOf_38 rfl (lv_at hl 1 rfl) ?_
            refine va_get (D := D) (cl := xCl) (ci := 0) (v := .ref (ad (kg + 8))) (C := rnG) (T := tbG) (N := 9) hx hb hts inG hown hK hP kg hg0 rfl 7 (by decide) (hts _ tw_36) (fun _ h9 => h9) rfl dG_noteNeedsOf_39 ?_
            refine lv_iload hx hb dG_noteNeedsOf_42 (lv_at hl 0 rfl) ?_
            refine lv_iload_n hx hb dG_noteNeedsOf_44 rfl (lv_at hl 2 rfl) ?_
            refine va_iast hx hb hK hP hD hS (kg + 8) 0 hg8 hI (by rw [hna, hx1]; exact vp_in_nI (by omega) (by omega)) dG_noteNeedsOf_45 (fun H locs hP hD hS => ?_)
            obtain ⟨ws_5, hu_4, hP, hD⟩ := x_gen hg8 hP hD
            have h_6 : ws_5[kg + 8]? = some (ad (kg + 8), .inl (cI, 30, .inl (upd (FF 8) (rna).toNatClampNeg ((nI ta))))) := hu_4.1
            have h_7 := (hu_4.2 kg (by omega)).trans hg0
            have h_8 := (hu_4.2 (kg + 1) (by omega)).trans hg1
            have h_9 := (hu_4.2 (kg + 2) (by omega)).trans hg2
            have h_10 := (hu_4.2 (kg + 3) (by omega)).trans hg3
            have h_11 := (hu_4.2 (kg + 4) (by omega)).trans hg4
            have h_12 := (hu_4.2 (kg + 5) (by omega)).trans hg5
            have h_13 := (hu_4.2 (kg + 6) (by omega)).trans hg6
            have h_14 := (hu_4.2 (kg + 7) (by omega)).trans hg7
            have h_15 := (hu_4.2 k (by omega)).trans hRo
            refine lv_aload_n hx hb dG_noteNeedsOf_46 rfl (lv_at hl 3 rfl) ?_
            refine lv_iload hx hb dG_noteNeedsOf_47 (lv_at hl 0 rfl) ?_
            have hrow2 := hrow.keepF (hu_4.fr (a := kg + 8) (b := kg + 9) (by omega) (by omega)) (by omega)
            obtain ⟨f2, hR2⟩ := id hrow2
            have hC2 : GraphC cI ad ws_5 kg g (upd (FF 8) (rna).toNatClampNeg ((nI ta))) := ⟨setF FF 8 (upd (FF 8) (rna).toNatClampNeg ((nI ta))), ⟨h_7, h_8, h_9, h_10, h_11, h_12, h_13, h_14, h_6⟩, hRR.c8 _, rfl⟩
            refine x_callv (x_runV (n := 1) (As := [.int rna]) (rest := []) ⟨hx, hb, hml, hown, hts⟩ (cR_add l D tys A ws_5 cI hI ad k _ rna f2 hR2) tw_488 tw_451 tw_452 tw_7 tw_453 (by decide +kernel) rfl rfl ⟨by decide, by decide⟩ ⟨Nat.zero_le _, Nat.zero_le _⟩ (va_recv hK hP (ci := 2) (q0 := k) rfl h_15) hK hP hD hS hA hN rfl hl.1 rfl (lv_room (Nat.le_of_ble_eq_true rfl)) dG_noteNeedsOf_49) hS (fun ws_16 H locs hadd hP hD hS => ?_)
            obtain ⟨ht2, f9, hr2, -⟩ := hadd
            have hC3 := hC2.keep ht2.fr (by omega)
            refine lv_iinc (v := (nI (i + 1))) (lv' := [(3, .int (nI (i + 1))), (4, .int rna), (0, .ref (ad kg)), (1, .int (nI ta)), (2, .ref (ad k))]) hx hb dG_noteNeedsOf_52 hl (k := 4) rfl (nI_1 _) (by decide) rfl (fun ls hl => ?_)
            refine lv_goto (tgt := 2) hx hb dG_noteNeedsOf_55 (by decide) ?_
            exact ih (i + 1) (by omega) ws_16 _ _ _ (hT.tr (hu_4.nt.tr ht2.nt)) (by have e : noteL ta (L, cb) ((gD g ta).take (i + 1)) = ((noteL ta (L, cb) ((gD g ta).take i)).1 ++ [(gD g ta)[i]], upd (noteL ta (L, cb) ((gD g ta).take i)).2 (gD g ta)[i] (nI ta)) := (by rw [noteL_s _ _ _ hl9]; exact if_neg hx3); rw [e]; rw [hna, hx1, addI_nI _ hx2, if_neg hx3] at hr2; exact ⟨_, hr2⟩) (by have e : noteL ta (L, cb) ((gD g ta).take (i + 1)) = ((noteL ta (L, cb) ((gD g ta).take i)).1 ++ [(gD g ta)[i]], upd (noteL ta (L, cb) ((gD g ta).take i)).2 (gD g ta)[i] (nI ta)) := (by rw [noteL_s _ _ _ hl9]; exact if_neg hx3); rw [e]; rw [hna, hx1, nI_clamp (by omega), hc8] at hC3; exact hC3) (by omega) hP hD hS (lv_sub hl [2, 3, 4, 0] rfl)
  refine lv_iconst (v := 0) hx hb dG_noteNeedsOf_0 (by decide) ?_
  refine lv_istore_n (lv' := [(3, .int 0), (0, .ref (ad kg)), (1, .int (nI ta)), (2, .ref (ad k))]) hx hb dG_noteNeedsOf_1 rfl hl (by decide) rfl (fun ls hl => ?_)
  exact loop_2 _ 0 (Nat.zero_le _) ws _ _ _ x_nt.rf h hC (Nat.lt_succ_self _) hP hD hS (lv_sub hl [1, 2, 3, 0] rfl)
