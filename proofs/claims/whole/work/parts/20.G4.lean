set_option maxHeartbeats 4000000 in
set_option maxRecDepth 100000 in
/-- Graph.listAll(list) -/
theorem cG_listAll (l : Launch) (D : va_G) (tys : List (ClassId × FieldType)) (A : Nat → Prop) (ws : va_W) (cI : ClassId) (hI : tys[0]? = some (cI, .int)) (ad : Nat → Nat) (kg k : Nat) (hd : kg + 9 ≤ k) (g : Gr) (L : List Nat) (hG : GraphAt cI ad ws kg g) (h : RowAt cI ad ws k L) : x_Mv l yG_listAll wG_listAll (xR 2) D xCl tys A [.ref (ad kg), .ref (ad k)] ws (fun ws1 => x_two k ws ws1 ∧ RowAt cI ad ws1 k (addL L (List.range g.length))) := by
  refine x_enter (by decide) rfl (Nat.le_of_ble_eq_true rfl) (fun p e s m args below meth c ls hx hb hr hlk hml hown hnm hts hK hP hD hS hA hN hl => ?_)
  have hl : lv_has ls 3 [(0, .ref (ad kg)), (1, .ref (ad k))] := hl
  have loop_2 : ∀ (n : Nat) (i : Nat) (hi : i ≤ g.length) (ws1 : va_W) (H : Heap) (locs : List Loc) (ls : Array Slot), x_two k ws ws1 → RowAt cI ad ws1 k (addL L (List.range i)) → GraphAt cI ad ws1 kg g → g.length - i < n → va_P D xCl ws1 H → va_D A ws1 → va_S A s.heap H locs → lv_has ls 3 [(0, .ref (ad kg)), (1, .ref (ad k)), (2, .int (nI i))] → W p l e (xR 2) s m args below meth c H locs 0 0 (MQ below (va_Qv (fun ws1 => x_two k ws ws1 ∧ RowAt cI ad ws1 k (addL L (List.range g.length))) (x_B D xCl tys A) A) args s 0 0 A) (F0 m 2 ls []) := by
    intro n
    induction n with
    | zero => intro i hi ws1 H locs ls hT hrow hG1 hme; exact absurd hme (Nat.not_lt_zero _)
    | succ n ih =>
      intro i hi ws1 H locs ls hT hrow hG1 hme hP hD hS hl
      obtain ⟨fsR, hRo⟩ := hrow.obj
      obtain ⟨f1, hR1⟩ := id hrow
      obtain ⟨FF, ⟨hg0, -⟩, -⟩ := id hG1
      have hle := hG1.ok.1
      refine lv_iload_n hx hb dG_listAll_2 rfl (lv_at hl 2 rfl) ?_
      refine lv_aload_n hx hb dG_listAll_3 rfl (lv_at hl 0 rfl) ?_
      refine va_get (D := D) (cl := xCl) (ci := 0) (v := .int (nI g.length)) (C := rnG) (T := tbG) (N := 9) hx hb hts inG hown hK hP kg hg0 rfl 8 (by decide) (hts _ tw_37) (fun _ h9 => h9) rfl dG_listAll_4 ?_
      refine lv_icmp_ge (tgt := 21) hx hb dG_listAll_7 (by decide) (fun c7 => ?_) (fun c7 => ?_)
      · exact x_vret hx hb hr hlk hK hP hD hS dG_listAll_21 ⟨hT, by have e : i = g.length := (by rw [nI_leI (by omega) (by omega)] at c7; omega); rw [e] at hrow; exact hrow⟩
      · have hi2 : i < g.length := by rw [nI_leI (by omega) (by omega)] at c7; omega
        refine lv_aload_n hx hb dG_listAll_10 rfl (lv_at hl 1 rfl) ?_
        refine lv_iload_n hx hb dG_listAll_11 rfl (lv_at hl 2 rfl) ?_
        refine x_callv (x_runV (n := 1) (As := [.int (nI i)]) (rest := []) ⟨hx, hb, hml, hown, hts⟩ (cR_add l D tys A ws1 cI hI ad k _ ((nI i)) f1 hR1) tw_488 tw_451 tw_452 tw_7 tw_453 (by decide +kernel) rfl rfl ⟨by decide, by decide⟩ ⟨Nat.zero_le _, Nat.zero_le _⟩ (va_recv hK hP (ci := 2) (q0 := k) rfl hRo) hK hP hD hS hA hN rfl hl.1 rfl (lv_room (Nat.le_of_ble_eq_true rfl)) dG_listAll_12) hS (fun ws_1 H locs hadd hP hD hS => ?_)
        obtain ⟨ht2, f9, hr2, -⟩ := hadd
        have hG2 := hG1.keep ht2.fr (by omega)
        refine lv_iinc (v := (nI (i + 1))) (lv' := [(2, .int (nI (i + 1))), (0, .ref (ad kg)), (1, .ref (ad k))]) hx hb dG_listAll_15 hl (k := 2) rfl (nI_1 _) (by decide) rfl (fun ls hl => ?_)
        refine lv_goto (tgt := 2) hx hb dG_listAll_18 (by decide) ?_
        exact ih (i + 1) (by omega) ws_1 _ _ _ (hT.tr ht2) (by rw [List.range_succ, addL, List.foldl_append]; show RowAt cI ad _ k (addN ((List.range i).foldl addN L) i); rw [← addI_N _ (by omega)]; exact ⟨_, hr2⟩) hG2 (by omega) hP hD hS (lv_sub hl [1, 2, 0] rfl)
  refine lv_iconst (v := 0) hx hb dG_listAll_0 (by decide) ?_
  refine lv_istore_n (lv' := [(2, .int 0), (0, .ref (ad kg)), (1, .ref (ad k))]) hx hb dG_listAll_1 rfl hl (by decide) rfl (fun ls hl => ?_)
  exact loop_2 _ 0 (Nat.zero_le _) ws _ _ _ x_two.rf h hG (Nat.lt_succ_self _) hP hD hS (lv_sub hl [1, 2, 0] rfl)

theorem addNeeds_s {g : Gr} {ta i : Nat} (hg : GrOK g) (hta : ta < 30) (hi : i < 8) (L : List Nat) : addL L ((gD g ta).take (i + 1)) = addI (addL L ((gD g ta).take i)) (gAt g (nI ta) (nI i)) := by
  by_cases h : i < (gD g ta).length
  · rw [gAt_nI g (by omega) h (by omega), addI_N _ (by
      have := (hg.2.2.2 ta).2.2 ((gD g ta).getD i 0) (by rw [List.getD_eq_getElem?_getD, List.getElem?_eq_getElem h]; exact List.getElem_mem h)
      have := hg.1
      omega)]
    unfold addL
    rw [take_foldl addN L _ h]
    simp [h]
  · rw [gAt_no (by rw [nI_toInt (by omega), nI_toInt (by omega)]; simp; omega), addI_m1, List.take_of_length_le (by omega), List.take_of_length_le (by omega)]

set_option maxHeartbeats 4000000 in
set_option maxRecDepth 100000 in
/-- Graph.addNeedsOf(t, list) -/
theorem cG_addNeedsOf (l : Launch) (D : va_G) (tys : List (ClassId × FieldType)) (A : Nat → Prop) (ws : va_W) (cI : ClassId) (hI : tys[0]? = some (cI, .int)) (ad : Nat → Nat) (kg k : Nat) (hd : kg + 9 ≤ k) (g : Gr) (L : List Nat) (ta : Nat) (hta : ta < 30) (hG : GraphAt cI ad ws kg g) (h : RowAt cI ad ws k L) : x_Mv l yG_addNeedsOf wG_addNeedsOf (xR 2) D xCl tys A [.ref (ad kg), .int (nI ta), .ref (ad k)] ws (fun ws1 => x_two k ws ws1 ∧ RowAt cI ad ws1 k (addL L (gD g ta))) := by
  refine x_enter (by decide) rfl (Nat.le_of_ble_eq_true rfl) (fun p e s m args below meth c ls hx hb hr hlk hml hown hnm hts hK hP hD hS hA hN hl => ?_)
  have hl : lv_has ls 4 [(0, .ref (ad kg)), (1, .int (nI ta)), (2, .ref (ad k))] := hl
  have loop_2 : ∀ (n : Nat) (i : Nat) (hi : i ≤ 8) (ws1 : va_W) (H : Heap) (locs : List Loc) (ls : Array Slot), x_two k ws ws1 → RowAt cI ad ws1 k (addL L ((gD g ta).take i)) → GraphAt cI ad ws1 kg g → 8 - i < n → va_P D xCl ws1 H → va_D A ws1 → va_S A s.heap H locs → lv_has ls 4 [(0, .ref (ad kg)), (1, .int (nI ta)), (2, .ref (ad k)), (3, .int (nI i))] → W p l e (xR 2) s m args below meth c H locs 0 0 (MQ below (va_Qv (fun ws1 => x_two k ws ws1 ∧ RowAt cI ad ws1 k (addL L (gD g ta))) (x_B D xCl tys A) A) args s 0 0 A) (F0 m 2 ls []) := by
    intro n
    induction n with
    | zero => intro i hi ws1 H locs ls hT hrow hG1 hme; exact absurd hme (Nat.not_lt_zero _)
    | succ n ih =>
      intro i hi ws1 H locs ls hT hrow hG1 hme hP hD hS hl
      obtain ⟨fsR, hRo⟩ := hrow.obj
      obtain ⟨f1, hR1⟩ := id hrow
      obtain ⟨FF, ⟨hg0, -⟩, -⟩ := id hG1
      have hle := hG1.ok.1
      refine lv_iload_n hx hb dG_addNeedsOf_2 rfl (lv_at hl 3 rfl) ?_
      refine lv_bipush (v := 8) hx hb dG_addNeedsOf_3 (by decide) ?_
      refine lv_icmp_ge (tgt := 24) hx hb dG_addNeedsOf_5 (by decide) (fun c5 => ?_) (fun c5 => ?_)
      · exact x_vret hx hb hr hlk hK hP hD hS dG_addNeedsOf_24 ⟨hT, by have e : i = 8 := (by have c5 : nI 8 ≤ nI i := c5; rw [nI_leI (by omega) (by omega)] at c5; omega); rw [e, List.take_of_length_le (hG1.ok.2.2.2 ta).2.1] at hrow; exact hrow⟩
      · have hi2 : i < 8 := by have c5 : ¬ nI 8 ≤ nI i := c5; rw [nI_leI (by omega) (by omega)] at c5; omega
        refine lv_aload_n hx hb dG_addNeedsOf_8 rfl (lv_at hl 2 rfl) ?_
        refine lv_aload_n hx hb dG_addNeedsOf_9 rfl (lv_at hl 0 rfl) ?_
        refine lv_iload_n hx hb dG_addNeedsOf_10 rfl (lv_at hl 1 rfl) ?_
        refine lv_iload_n hx hb dG_addNeedsOf_11 rfl (lv_at hl 3 rfl) ?_
        refine x_calli (x_runV (n := 2) (As := [.int (nI ta), .int (nI i)]) (rest := [.ref (ad k)]) ⟨hx, hb, hml, hown, hts⟩ (cG_needAt l D tys A ws1 cI hI ad kg g ((nI ta)) ((nI i)) hG1) tw_487 tw_197 tw_198 tw_2 tw_199 (by decide +kernel) rfl rfl ⟨by decide, by decide⟩ ⟨Nat.zero_le _, Nat.zero_le _⟩ (va_recv hK hP (ci := 0) (q0 := kg) rfl hg0) hK hP hD hS hA hN rfl hl.1 rfl (lv_room (Nat.le_of_ble_eq_true rfl)) dG_addNeedsOf_12) hS (fun rna ws_1 H locs hna hP hD hS => ?_)
        obtain ⟨hna, rfl⟩ := hna
        refine x_callv (x_runV (n := 1) (As := [.int rna]) (rest := []) ⟨hx, hb, hml, hown, hts⟩ (cR_add l D tys A ws1 cI hI ad k _ rna f1 hR1) tw_488 tw_451 tw_452 tw_7 tw_453 (by decide +kernel) rfl rfl ⟨by decide, by decide⟩ ⟨Nat.zero_le _, Nat.zero_le _⟩ (va_recv hK hP (ci := 2) (q0 := k) rfl hRo) hK hP hD hS hA hN rfl hl.1 rfl (lv_room (Nat.le_of_ble_eq_true rfl)) dG_addNeedsOf_15) hS (fun ws_2 H locs hadd hP hD hS => ?_)
        obtain ⟨ht2, f9, hr2, -⟩ := hadd
        have hG2 := hG1.keep ht2.fr (by omega)
        refine lv_iinc (v := (nI (i + 1))) (lv' := [(3, .int (nI (i + 1))), (0, .ref (ad kg)), (1, .int (nI ta)), (2, .ref (ad k))]) hx hb dG_addNeedsOf_18 hl (k := 3) rfl (nI_1 _) (by decide) rfl (fun ls hl => ?_)
        refine lv_goto (tgt := 2) hx hb dG_addNeedsOf_21 (by decide) ?_
        exact ih (i + 1) (by omega) ws_2 _ _ _ (hT.tr ht2) (by rw [addNeeds_s hG1.ok hta hi2, ← hna]; exact ⟨_, hr2⟩) hG2 (by omega) hP hD hS (lv_sub hl [1, 2, 3, 0] rfl)
  refine lv_iconst (v := 0) hx hb dG_addNeedsOf_0 (by decide) ?_
  refine lv_istore_n (lv' := [(3, .int 0), (0, .ref (ad kg)), (1, .int (nI ta)), (2, .ref (ad k))]) hx hb dG_addNeedsOf_1 rfl hl (by decide) rfl (fun ls hl => ?_)
  exact loop_2 _ 0 (Nat.zero_le _) ws _ _ _ x_two.rf h hG (Nat.lt_succ_self _) hP hD hS (lv_sub hl [1, 2, 3, 0] rfl)

theorem fm_congr {w : Int32} {L : List Nat} {P : Nat → Prop} [DecidablePred P] (h : ∀ i, i < 32 → bt w i = decide (P i)) (hL : ∀ t ∈ L, t < 30) : fm w L = L.filter (fun t => decide (P t)) := by
  unfold fm
  exact List.filter_congr (fun t ht => h t (by have := hL t ht; omega))

set_option maxHeartbeats 4000000 in
set_option maxRecDepth 100000 in
/-- Graph.keepKind(list, kind) -/
theorem cG_keepKind (l : Launch) (D : va_G) (tys : List (ClassId × FieldType)) (A : Nat → Prop) (ws : va_W) (cI : ClassId) (hI : tys[0]? = some (cI, .int)) (ad : Nat → Nat) (kg k : Nat) (hd : kg + 9 ≤ k) (g : Gr) (L : List Nat) (kk : Int32) (hG : GraphAt cI ad ws kg g) (h : RowAt cI ad ws k L) : x_Mv l yG_keepKind wG_keepKind (xR 3) D xCl tys A [.ref (ad kg), .ref (ad k), .int kk] ws (fun ws1 => x_two k ws ws1 ∧ RowAt cI ad ws1 k (L.filter (fun t => decide (t < g.length ∧ nI (gK g t) = kk)))) := by
  obtain ⟨fsR, hRo⟩ := h.obj
  obtain ⟨FF, ⟨hg0, -⟩, -⟩ := id hG
  refine x_enter (by decide) rfl (Nat.le_of_ble_eq_true rfl) (fun p e s m args below meth c ls hx hb hr hlk hml hown hnm hts hK hP hD hS hA hN hl => ?_)
  have hl : lv_has ls 3 [(0, .ref (ad kg)), (1, .ref (ad k)), (2, .int kk)] := hl
  refine lv_aload_n hx hb dG_keepKind_0 rfl (lv_at hl 1 rfl) ?_
  refine lv_aload_n hx hb dG_keepKind_1 rfl (lv_at hl 0 rfl) ?_
  refine lv_iload_n hx hb dG_keepKind_2 rfl (lv_at hl 2 rfl) ?_
  refine x_calli (x_runV (n := 1) (As := [.int kk]) (rest := [.ref (ad k)]) ⟨hx, hb, hml, hown, hts⟩ (cG_ofKind l D tys A ws cI hI ad kg g kk hG) tw_533 tw_535 ts_G_ofKind tw_2 tw_536 (by decide +kernel) rfl rfl ⟨by decide, by decide⟩ ⟨Nat.zero_le _, Nat.zero_le _⟩ (va_recv hK hP (ci := 0) (q0 := kg) rfl hg0) hK hP hD hS hA hN rfl hl.1 rfl (lv_room (Nat.le_of_ble_eq_true rfl)) dG_keepKind_3) hS (fun rok ws_1 H locs hok hP hD hS => ?_)
  obtain ⟨hok, rfl⟩ := hok
  refine x_callv (x_runV (n := 1) (As := [.int rok]) (rest := []) ⟨hx, hb, hml, hown, hts⟩ (cR_keep l D tys A ws cI hI ad k L rok h) tw_537 tw_470 tw_471 tw_7 tw_472 (by decide +kernel) rfl rfl ⟨by decide, by decide⟩ ⟨Nat.zero_le _, Nat.zero_le _⟩ (va_recv hK hP (ci := 2) (q0 := k) rfl hRo) hK hP hD hS hA hN rfl hl.1 rfl (lv_room (Nat.le_of_ble_eq_true rfl)) dG_keepKind_6) hS (fun ws_2 H locs hkp hP hD hS => ?_)
  exact x_vret hx hb hr hlk hK hP hD hS dG_keepKind_9 ⟨hkp.1, by have q := hkp.2; rw [fm_congr hok h.lt] at q; exact q⟩

-- ===== growing in rounds =====
def pfx (L M : List Nat) : Prop := ∃ N, M = L ++ N
theorem pfx.rf (L : List Nat) : pfx L L := ⟨[], by simp⟩
theorem pfx.tr {A B C : List Nat} (h : pfx A B) (h2 : pfx B C) : pfx A C := by
  obtain ⟨x, rfl⟩ := h
  obtain ⟨y, rfl⟩ := h2
  exact ⟨x ++ y, by simp⟩
theorem pfx.len {A B : List Nat} (h : pfx A B) : A.length ≤ B.length := by
  obtain ⟨x, rfl⟩ := h
  rw [List.length_append]; omega
theorem pfx.get {A B : List Nat} (h : pfx A B) {i : Nat} (hi : i < A.length) : ∃ h2 : i < B.length, B[i] = A[i] := by
  obtain ⟨x, rfl⟩ := h
  exact ⟨by rw [List.length_append]; omega, List.getElem_append_left hi⟩
theorem pfx_addN (L : List Nat) (t : Nat) : pfx L (addN L t) := by
  unfold addN
  split
  · exact pfx.rf L
  · exact ⟨[t], rfl⟩
theorem pfx_addL : ∀ (M L : List Nat), pfx L (addL L M) := by
  intro M
  induction M with
  | nil => intro L; exact pfx.rf L
  | cons a t ih => intro L; exact (pfx_addN L a).tr (ih _)
/-- for each of the row in order, what nb has for it, added at the end -/
def addB (nb : Nat → List Nat) (L R : List Nat) : List Nat := R.foldl (fun M t => addL M (nb t)) L
theorem pfx_addB (nb : Nat → List Nat) : ∀ (R L : List Nat), pfx L (addB nb L R) := by
  intro R
  induction R with
  | nil => intro L; exact pfx.rf L
  | cons a t ih => intro L; exact (pfx_addL _ L).tr (ih _)
/-- at most r rounds; those from fr on are the round before -/
def growR (nb : Nat → List Nat) : Nat → List Nat → Nat → List Nat
  | 0, L, _ => L
  | r + 1, L, fr => if fr < L.length then growR nb r (addB nb L (L.drop fr)) L.length else L
theorem growR_end (nb : Nat → List Nat) (r : Nat) {L : List Nat} {fr : Nat} (h : L.length ≤ fr) : growR nb r L fr = L := by
  cases r with
  | zero => rfl
  | succ r => exact if_neg (by omega)
theorem growR_s (nb : Nat → List Nat) (r : Nat) {L : List Nat} {fr : Nat} (h : fr < L.length) : growR nb (r + 1) L fr = growR nb r (addB nb L (L.drop fr)) L.length := if_pos h
theorem addB_s (nb : Nat → List Nat) (L R : List Nat) {j : Nat} (h : j < R.length) : addB nb L (R.take (j + 1)) = addL (addB nb L (R.take j)) (nb R[j]) := take_foldl _ L R h
/-- those that need t, by their numbers -/
def gU (g : Gr) (t : Nat) : List Nat := (List.range 30).filter (fun u => decide (t ∈ gD g u))
theorem addM_eq (L : List Nat) (w : Int32) : ∀ n, addM L w n = addL L ((List.range n).filter (fun i => bt w i)) := by
  intro n
  induction n with
  | zero => rfl
  | succ n ih =>
    rw [List.range_succ, List.filter_append]
    show (if bt w n = true then addN (addM L w n) n else addM L w n) = _
    unfold addL at *
    rw [List.foldl_append, ← ih]
    by_cases h : bt w n = true
    · rw [if_pos h, List.filter_cons, if_pos h]; rfl
    · rw [if_neg h, List.filter_cons, if_neg h]; rfl
theorem addM_U {g : Gr} {w : Int32} {ta : Nat} (hta : ta < 30) (h : ∀ i, i < 32 → bt w i = decide (0 ≤ (nI ta).toInt ∧ (nI ta).toInt.toNat ∈ gD g i)) (L : List Nat) : addM L w 30 = addL L (gU g ta) := by
  rw [addM_eq]
  congr 1
  apply List.filter_congr
  intro u hu
  have hu := List.mem_range.mp hu
  rw [h u (by omega), nI_toInt (by omega)]
  apply decide_eq_decide.mpr
  simp

set_option maxHeartbeats 4000000 in
set_option maxRecDepth 100000 in
/-- Graph.growByNeeds(list, rounds) -/
theorem cG_growByNeeds (l : Launch) (D : va_G) (tys : List (ClassId × FieldType)) (A : Nat → Prop) (ws : va_W) (cI : ClassId) (hI : tys[0]? = some (cI, .int)) (ad : Nat → Nat) (kg k : Nat) (hd : kg + 9 ≤ k) (g : Gr) (L : List Nat) (R : Nat) (hRR : R < 1000) (hG : GraphAt cI ad ws kg g) (h : RowAt cI ad ws k L) : x_Mv l yG_growByNeeds wG_growByNeeds (xR 3) D xCl tys A [.ref (ad kg), .ref (ad k), .int (nI R)] ws (fun ws1 => x_two k ws ws1 ∧ RowAt cI ad ws1 k (growR (gD g) R L 0)) := by
  refine x_enter (by decide) rfl (Nat.le_of_ble_eq_true rfl) (fun p e s m args below meth c ls hx hb hr hlk hml hown hnm hts hK hP hD hS hA hN hl => ?_)
  have hl : lv_has ls 7 [(0, .ref (ad kg)), (1, .ref (ad k)), (2, .int (nI R))] := hl
  have loop_28 : ∀ (n : Nat) (M : List Nat) (fr u j : Nat) (hj : fr + j ≤ M.length) (hML : M.length ≤ 30) (ws1 : va_W) (H : Heap) (locs : List Loc) (ls : Array Slot), x_two k ws ws1 → RowAt cI ad ws1 k (addB (gD g) M ((M.drop fr).take j)) → GraphAt cI ad ws1 kg g → M.length - j < n → va_P D xCl ws1 H → va_D A ws1 → va_S A s.heap H locs → lv_has ls 7 [(0, .ref (ad kg)), (1, .ref (ad k)), (2, .int (nI R)), (3, .int (nI fr)), (4, .int (nI u)), (5, .int (nI M.length)), (6, .int (nI (fr + j)))] → (∀ (ws2 : va_W) (H2 : Heap) (locs2 : List Loc) (ls2 : Array Slot), x_two k ws ws2 → RowAt cI ad ws2 k (addB (gD g) M (M.drop fr)) → GraphAt cI ad ws2 kg g → va_P D xCl ws2 H2 → va_D A ws2 → va_S A s.heap H2 locs2 → lv_has ls2 7 [(0, .ref (ad kg)), (1, .ref (ad k)), (2, .int (nI R)), (4, .int (nI u)), (5, .int (nI M.length))] → W p l e (xR 3) s m args below meth c H2 locs2 0 0 (MQ below (va_Qv (fun ws1 => x_two k ws ws1 ∧ RowAt cI ad ws1 k (growR (gD g) R L 0)) (x_B D xCl tys A) A) args s 0 0 A) (F0 m 52 ls2 [])) → W p l e (xR 3) s m args below meth c H locs 0 0 (MQ below (va_Qv (fun ws1 => x_two k ws ws1 ∧ RowAt cI ad ws1 k (growR (gD g) R L 0)) (x_B D xCl tys A) A) args s 0 0 A) (F0 m 28 ls []) := by
    intro n
    induction n with
    | zero => intro M fr u j hj hML ws1 H locs ls hT hrow hG1 hme; exact absurd hme (Nat.not_lt_zero _)
    | succ n ih =>
      intro M fr u j hj hML ws1 H locs ls hT hrow hG1 hme hP hD hS hl K
      obtain ⟨fsR, hRo⟩ := hrow.obj
      obtain ⟨f1, hR1⟩ := id hrow
      obtain ⟨FF, ⟨hg0, -⟩, -⟩ := id hG1
      have hle := hG1.ok.1
      have hle9 := hrow.le
      refine lv_iload hx hb dG_growByNeeds_28 (lv_at hl 6 rfl) ?_
      refine lv_iload hx hb dG_growByNeeds_30 (lv_at hl 5 rfl) ?_
      refine lv_icmp_ge (tgt := 52) hx hb dG_growByNeeds_32 (by decide) (fun c32 => ?_) (fun c32 => ?_)
      · exact K  ws1 _ _ _ hT (by have e : (M.drop fr).take j = M.drop fr := List.take_of_length_le (by rw [List.length_drop]; rw [nI_leI (by omega) (by omega)] at c32; omega); rw [e] at hrow; exact hrow) hG1 hP hD hS (lv_sub hl [0, 1, 2, 4, 5] rfl)
      · have hj2 : fr + j < M.length := by rw [nI_leI (by omega) (by omega)] at c32; omega
        obtain ⟨hq1, hq2⟩ := (pfx_addB (gD g) ((M.drop fr).take j) M).get hj2
        have hq3 : M[fr + j] < 30 := by rw [← hq2]; exact hrow.lt _ (List.getElem_mem _)
        refine lv_aload_n hx hb dG_growByNeeds_35 rfl (lv_at hl 0 rfl) ?_
        refine lv_aload_n hx hb dG_growByNeeds_36 rfl (lv_at hl 1 rfl) ?_
        refine lv_iload hx hb dG_growByNeeds_37 (lv_at hl 6 rfl) ?_
        refine x_calli (x_runV (n := 1) (As := [.int (nI (fr + j))]) (rest := [.ref (ad kg)]) ⟨hx, hb, hml, hown, hts⟩ (cR_at l D tys A ws1 cI hI ad k _ ((nI (fr + j))) hrow) tw_478 tw_447 tw_448 tw_7 tw_449 (by decide +kernel) rfl rfl ⟨by decide, by decide⟩ ⟨Nat.zero_le _, Nat.zero_le _⟩ (va_recv hK hP (ci := 2) (q0 := k) rfl hRo) hK hP hD hS hA hN rfl hl.1 rfl (lv_room (Nat.le_of_ble_eq_true rfl)) dG_growByNeeds_39) hS (fun rat ws_1 H locs hat hP hD hS => ?_)
        obtain ⟨hat, rfl⟩ := hat
        refine lv_aload_n hx hb dG_growByNeeds_42 rfl (lv_at hl 1 rfl) ?_
        obtain rfl : rat = nI M[fr + j] := by rw [hat, atI_nI hq1 (by omega), hq2]
        refine x_callv (x_runV (n := 2) (As := [.int (nI M[fr + j]), .ref (ad k)]) (rest := []) ⟨hx, hb, hml, hown, hts⟩ (cG_addNeedsOf l D tys A ws1 cI hI ad kg k hd g _ M[fr + j] hq3 hG1 hrow) tw_513 tw_515 ts_G_addNeedsOf tw_2 tw_516 (by decide +kernel) rfl rfl ⟨by decide, by decide⟩ ⟨Nat.zero_le _, Nat.zero_le _⟩ (va_recv hK hP (ci := 0) (q0 := kg) rfl hg0) hK hP hD hS hA hN rfl hl.1 rfl (lv_room (Nat.le_of_ble_eq_true rfl)) dG_growByNeeds_43) hS (fun ws_2 H locs han hP hD hS => ?_)
        have hT2 := hT.tr han.1
        have hr2 := han.2
        have hG2 := hG1.keep han.1.fr (by omega)
        refine lv_iinc (v := (nI ((fr + j) + 1))) (lv' := [(6, .int (nI ((fr + j) + 1))), (0, .ref (ad kg)), (1, .ref (ad k)), (2, .int (nI R)), (3, .int (nI fr)), (4, .int (nI u)), (5, .int (nI M.length))]) hx hb dG_growByNeeds_46 hl (k := 6) rfl (nI_1 _) (by decide) rfl (fun ls hl => ?_)
        refine lv_goto (tgt := 28) hx hb dG_growByNeeds_49 (by decide) ?_
        exact ih M fr u (j + 1) (by omega) hML ws_2 _ _ _ hT2 (by rw [addB_s (gD g) M (M.drop fr) (by rw [List.length_drop]; omega), List.getElem_drop]; exact hr2) hG2 (by omega) hP hD hS (lv_sub hl [1, 2, 3, 4, 5, 6, 0] rfl) K
  have loop_5 : ∀ (n : Nat) (M : List Nat) (fr u : Nat) (hu : u ≤ R) (hfr : fr ≤ M.length) (ws1 : va_W) (H : Heap) (locs : List Loc) (ls : Array Slot), growR (gD g) (R - u) M fr = growR (gD g) R L 0 → x_two k ws ws1 → RowAt cI ad ws1 k M → GraphAt cI ad ws1 kg g → R - u < n → va_P D xCl ws1 H → va_D A ws1 → va_S A s.heap H locs → lv_has ls 7 [(0, .ref (ad kg)), (1, .ref (ad k)), (2, .int (nI R)), (3, .int (nI fr)), (4, .int (nI u))] → W p l e (xR 3) s m args below meth c H locs 0 0 (MQ below (va_Qv (fun ws1 => x_two k ws ws1 ∧ RowAt cI ad ws1 k (growR (gD g) R L 0)) (x_B D xCl tys A) A) args s 0 0 A) (F0 m 5 ls []) := by
    intro n
    induction n with
    | zero => intro M fr u hu hfr ws1 H locs ls hgr hT hrow hG1 hme; exact absurd hme (Nat.not_lt_zero _)
    | succ n ih =>
      intro M fr u hu hfr ws1 H locs ls hgr hT hrow hG1 hme hP hD hS hl
      obtain ⟨fsR, hRo⟩ := hrow.obj
      obtain ⟨f1, hR1⟩ := id hrow
      obtain ⟨FF, ⟨hg0, -⟩, -⟩ := id hG1
      have hle := hG1.ok.1
      have hle9 := hrow.le
      refine lv_iload hx hb dG_growByNeeds_5 (lv_at hl 4 rfl) ?_
      refine lv_iload_n hx hb dG_growByNeeds_7 rfl (lv_at hl 2 rfl) ?_
      refine lv_icmp_ge (tgt := 61) hx hb dG_growByNeeds_8 (by decide) (fun c8 => ?_) (fun c8 => ?_)
      · exact x_vret hx hb hr hlk hK hP hD hS dG_growByNeeds_61 ⟨hT, by have e : R - u = 0 := (by rw [nI_leI (by omega) (by omega)] at c8; omega); rw [e] at hgr; rw [← hgr]; exact hrow⟩
      · have hu2 : u < R := by rw [nI_leI (by omega) (by omega)] at c8; omega
        refine lv_iload_n hx hb dG_growByNeeds_11 rfl (lv_at hl 3 rfl) ?_
        refine lv_aload_n hx hb dG_growByNeeds_12 rfl (lv_at hl 1 rfl) ?_
        refine x_calli (x_runV (n := 0) (As := []) (rest := [.int (nI fr)]) ⟨hx, hb, hml, hown, hts⟩ (cR_size l D tys A ws1 cI hI ad k _ hrow) tw_477 tw_443 tw_444 tw_7 tw_445 (by decide +kernel) rfl rfl ⟨by decide, by decide⟩ ⟨Nat.zero_le _, Nat.zero_le _⟩ (va_recv hK hP (ci := 2) (q0 := k) rfl hRo) hK hP hD hS hA hN rfl hl.1 rfl (lv_room (Nat.le_of_ble_eq_true rfl)) dG_growByNeeds_13) hS (fun r_4 ws_3 H locs hz hP hD hS => ?_)
        obtain ⟨hz, rfl⟩ := hz
        refine lv_icmp_ge (tgt := 61) hx hb dG_growByNeeds_16 (by decide) (fun c16 => ?_) (fun c16 => ?_)
        · exact x_vret hx hb hr hlk hK hP hD hS dG_growByNeeds_61 ⟨hT, by rw [← hgr, growR_end _ _ (by rw [hz, nI_leI (by omega) (by omega)] at c16; exact c16)]; exact hrow⟩
        · have hfr2 : fr < M.length := by rw [hz, nI_leI (by omega) (by omega)] at c16; omega
          refine lv_aload_n hx hb dG_growByNeeds_19 rfl (lv_at hl 1 rfl) ?_
          refine x_calli (x_runV (n := 0) (As := []) (rest := []) ⟨hx, hb, hml, hown, hts⟩ (cR_size l D tys A ws1 cI hI ad k _ hrow) tw_477 tw_443 tw_444 tw_7 tw_445 (by decide +kernel) rfl rfl ⟨by decide, by decide⟩ ⟨Nat.zero_le _, Nat.zero_le _⟩ (va_recv hK hP (ci := 2) (q0 := k) rfl hRo) hK hP hD hS hA hN rfl hl.1 rfl (lv_room (Nat.le_of_ble_eq_true rfl)) dG_growByNeeds_20) hS (fun r_6 ws_5 H locs hz hP hD hS => ?_)
          obtain ⟨hz, rfl⟩ := hz
          obtain rfl := hz
          refine lv_istore (lv' := [(5, .int (nI M.length)), (0, .ref (ad kg)), (1, .ref (ad k)), (2, .int (nI R)), (3, .int (nI fr)), (4, .int (nI u))]) hx hb dG_growByNeeds_23 hl (by decide) rfl (fun ls hl => ?_)
          refine lv_iload_n hx hb dG_growByNeeds_25 rfl (lv_at hl 4 rfl) ?_
          refine lv_istore (lv' := [(6, .int (nI fr)), (5, .int (nI M.length)), (0, .ref (ad kg)), (1, .ref (ad k)), (2, .int (nI R)), (3, .int (nI fr)), (4, .int (nI u))]) hx hb dG_growByNeeds_26 hl (by decide) rfl (fun ls hl => ?_)
          refine loop_28 _ M fr u 0 (by omega) hle9 ws1 _ _ _ hT (by rw [List.take_zero]; exact hrow) hG1 (Nat.lt_succ_self _) hP hD hS (lv_sub hl [2, 3, 4, 5, 6, 1, 0] rfl) (fun ws_7 H locs ls hT hrow hG1 hP hD hS hl => ?_)
          refine lv_iload hx hb dG_growByNeeds_52 (lv_at hl 4 rfl) ?_
          refine lv_istore_n (lv' := [(3, .int (nI M.length)), (0, .ref (ad kg)), (1, .ref (ad k)), (2, .int (nI R)), (4, .int (nI u)), (5, .int (nI M.length))]) hx hb dG_growByNeeds_54 rfl hl (by decide) rfl (fun ls hl => ?_)
          refine lv_iinc (v := (nI (u + 1))) (lv' := [(4, .int (nI (u + 1))), (3, .int (nI M.length)), (0, .ref (ad kg)), (1, .ref (ad k)), (2, .int (nI R)), (5, .int (nI M.length))]) hx hb dG_growByNeeds_55 hl (k := 4) rfl (nI_1 _) (by decide) rfl (fun ls hl => ?_)
          refine lv_goto (tgt := 5) hx hb dG_growByNeeds_58 (by decide) ?_
          exact ih (addB (gD g) M (M.drop fr)) M.length (u + 1) (by omega) (pfx_addB _ _ _).len ws_7 _ _ _ (by rw [← hgr, show R - u = (R - (u + 1)) + 1 by omega, growR_s _ _ hfr2]) hT hrow hG1 (by omega) hP hD hS (lv_sub hl [2, 3, 4, 1, 0] rfl)
  refine lv_iconst (v := 0) hx hb dG_growByNeeds_0 (by decide) ?_
  refine lv_istore_n (lv' := [(3, .int 0), (0, .ref (ad kg)), (1, .ref (ad k)), (2, .int (nI R))]) hx hb dG_growByNeeds_1 rfl hl (by decide) rfl (fun ls hl => ?_)
  refine lv_iconst (v := 0) hx hb dG_growByNeeds_2 (by decide) ?_
  refine lv_istore (lv' := [(4, .int 0), (3, .int 0), (0, .ref (ad kg)), (1, .ref (ad k)), (2, .int (nI R))]) hx hb dG_growByNeeds_3 hl (by decide) rfl (fun ls hl => ?_)
  exact loop_5 _ L 0 0 (Nat.zero_le _) (Nat.zero_le _) ws _ _ _ rfl x_two.rf h hG (Nat.lt_succ_self _) hP hD hS (lv_sub hl [2, 3, 4, 1, 0] rfl)

set_option maxHeartbeats 4000000 in
set_option maxRecDepth 100000 in
/-- Graph.growByUsers(list, rounds) -/
theorem cG_growByUsers (l : Launch) (D : va_G) (tys : List (ClassId × FieldType)) (A : Nat → Prop) (ws : va_W) (cI : ClassId) (hI : tys[0]? = some (cI, .int)) (ad : Nat → Nat) (kg k : Nat) (hd : kg + 9 ≤ k) (g : Gr) (L : List Nat) (R : Nat) (hRR : R < 1000) (hG : GraphAt cI ad ws kg g) (h : RowAt cI ad ws k L) : x_Mv l yG_growByUsers wG_growByUsers (xR 3) D xCl tys A [.ref (ad kg), .ref (ad k), .int (nI R)] ws (fun ws1 => x_two k ws ws1 ∧ RowAt cI ad ws1 k (growR (gU g) R L 0)) := by
  refine x_enter (by decide) rfl (Nat.le_of_ble_eq_true rfl) (fun p e s m args below meth c ls hx hb hr hlk hml hown hnm hts hK hP hD hS hA hN hl => ?_)
  have hl : lv_has ls 7 [(0, .ref (ad kg)), (1, .ref (ad k)), (2, .int (nI R))] := hl
  have loop_28 : ∀ (n : Nat) (M : List Nat) (fr u j : Nat) (hj : fr + j ≤ M.length) (hML : M.length ≤ 30) (ws1 : va_W) (H : Heap) (locs : List Loc) (ls : Array Slot), x_two k ws ws1 → RowAt cI ad ws1 k (addB (gU g) M ((M.drop fr).take j)) → GraphAt cI ad ws1 kg g → M.length - j < n → va_P D xCl ws1 H → va_D A ws1 → va_S A s.heap H locs → lv_has ls 7 [(0, .ref (ad kg)), (1, .ref (ad k)), (2, .int (nI R)), (3, .int (nI fr)), (4, .int (nI u)), (5, .int (nI M.length)), (6, .int (nI (fr + j)))] → (∀ (ws2 : va_W) (H2 : Heap) (locs2 : List Loc) (ls2 : Array Slot), x_two k ws ws2 → RowAt cI ad ws2 k (addB (gU g) M (M.drop fr)) → GraphAt cI ad ws2 kg g → va_P D xCl ws2 H2 → va_D A ws2 → va_S A s.heap H2 locs2 → lv_has ls2 7 [(0, .ref (ad kg)), (1, .ref (ad k)), (2, .int (nI R)), (4, .int (nI u)), (5, .int (nI M.length))] → W p l e (xR 3) s m args below meth c H2 locs2 0 0 (MQ below (va_Qv (fun ws1 => x_two k ws ws1 ∧ RowAt cI ad ws1 k (growR (gU g) R L 0)) (x_B D xCl tys A) A) args s 0 0 A) (F0 m 55 ls2 [])) → W p l e (xR 3) s m args below meth c H locs 0 0 (MQ below (va_Qv (fun ws1 => x_two k ws ws1 ∧ RowAt cI ad ws1 k (growR (gU g) R L 0)) (x_B D xCl tys A) A) args s 0 0 A) (F0 m 28 ls []) := by
    intro n
    induction n with
    | zero => intro M fr u j hj hML ws1 H locs ls hT hrow hG1 hme; exact absurd hme (Nat.not_lt_zero _)
    | succ n ih =>
      intro M fr u j hj hML ws1 H locs ls hT hrow hG1 hme hP hD hS hl K
      obtain ⟨fsR, hRo⟩ := hrow.obj
      obtain ⟨f1, hR1⟩ := id hrow
      obtain ⟨FF, ⟨hg0, -⟩, -⟩ := id hG1
      have hle := hG1.ok.1
      have hle9 := hrow.le
      refine lv_iload hx hb dG_growByUsers_28 (lv_at hl 6 rfl) ?_
      refine lv_iload hx hb dG_growByUsers_30 (lv_at hl 5 rfl) ?_
      refine lv_icmp_ge (tgt := 55) hx hb dG_growByUsers_32 (by decide) (fun c32 => ?_) (fun c32 => ?_)
      · exact K  ws1 _ _ _ hT (by have e : (M.drop fr).take j = M.drop fr := List.take_of_length_le (by rw [List.length_drop]; rw [nI_leI (by omega) (by omega)] at c32; omega); rw [e] at hrow; exact hrow) hG1 hP hD hS (lv_sub hl [0, 1, 2, 4, 5] rfl)
      · have hj2 : fr + j < M.length := by rw [nI_leI (by omega) (by omega)] at c32; omega
        obtain ⟨hq1, hq2⟩ := (pfx_addB (gU g) ((M.drop fr).take j) M).get hj2
        have hq3 : M[fr + j] < 30 := by rw [← hq2]; exact hrow.lt _ (List.getElem_mem _)
        refine lv_aload_n hx hb dG_growByUsers_35 rfl (lv_at hl 1 rfl) ?_
        refine lv_aload_n hx hb dG_growByUsers_36 rfl (lv_at hl 0 rfl) ?_
        refine lv_aload_n hx hb dG_growByUsers_37 rfl (lv_at hl 1 rfl) ?_
        refine lv_iload hx hb dG_growByUsers_38 (lv_at hl 6 rfl) ?_
        refine x_calli (x_runV (n := 1) (As := [.int (nI (fr + j))]) (rest := [.ref (ad kg), .ref (ad k)]) ⟨hx, hb, hml, hown, hts⟩ (cR_at l D tys A ws1 cI hI ad k _ ((nI (fr + j))) hrow) tw_478 tw_447 tw_448 tw_7 tw_449 (by decide +kernel) rfl rfl ⟨by decide, by decide⟩ ⟨Nat.zero_le _, Nat.zero_le _⟩ (va_recv hK hP (ci := 2) (q0 := k) rfl hRo) hK hP hD hS hA hN rfl hl.1 rfl (lv_room (Nat.le_of_ble_eq_true rfl)) dG_growByUsers_40) hS (fun rat ws_1 H locs hat hP hD hS => ?_)
        obtain ⟨hat, rfl⟩ := hat
        obtain rfl : rat = nI M[fr + j] := by rw [hat, atI_nI hq1 (by omega), hq2]
        refine x_calli (x_runV (n := 1) (As := [.int (nI M[fr + j])]) (rest := [.ref (ad k)]) ⟨hx, hb, hml, hown, hts⟩ (cG_usersOf l D tys A ws1 cI hI ad kg g (nI M[fr + j]) hG1) tw_521 tw_523 ts_G_usersOf tw_2 tw_524 (by decide +kernel) rfl rfl ⟨by decide, by decide⟩ ⟨Nat.zero_le _, Nat.zero_le _⟩ (va_recv hK hP (ci := 0) (q0 := kg) rfl hg0) hK hP hD hS hA hN rfl hl.1 rfl (lv_room (Nat.le_of_ble_eq_true rfl)) dG_growByUsers_43) hS (fun rus ws_2 H locs hus hP hD hS => ?_)
        obtain ⟨hus, rfl⟩ := hus
        refine x_callv (x_runV (n := 1) (As := [.int rus]) (rest := []) ⟨hx, hb, hml, hown, hts⟩ (cR_addByNumbers l D tys A ws1 cI hI ad k _ rus hrow) tw_525 tw_526 tw_527 tw_7 tw_528 (by decide +kernel) rfl rfl ⟨by decide, by decide⟩ ⟨Nat.zero_le _, Nat.zero_le _⟩ (va_recv hK hP (ci := 2) (q0 := k) rfl hRo) hK hP hD hS hA hN rfl hl.1 rfl (lv_room (Nat.le_of_ble_eq_true rfl)) dG_growByUsers_46) hS (fun ws_3 H locs han hP hD hS => ?_)
        have hT2 := hT.tr han.1
        have hr2 := han.2
        rw [addM_U hq3 hus] at hr2
        have hG2 := hG1.keep han.1.fr (by omega)
        refine lv_iinc (v := (nI ((fr + j) + 1))) (lv' := [(6, .int (nI ((fr + j) + 1))), (0, .ref (ad kg)), (1, .ref (ad k)), (2, .int (nI R)), (3, .int (nI fr)), (4, .int (nI u)), (5, .int (nI M.length))]) hx hb dG_growByUsers_49 hl (k := 6) rfl (nI_1 _) (by decide) rfl (fun ls hl => ?_)
        refine lv_goto (tgt := 28) hx hb dG_growByUsers_52 (by decide) ?_
        exact ih M fr u (j + 1) (by omega) hML ws_3 _ _ _ hT2 (by rw [addB_s (gU g) M (M.drop fr) (by rw [List.length_drop]; omega), List.getElem_drop]; exact hr2) hG2 (by omega) hP hD hS (lv_sub hl [1, 2, 3, 4, 5, 6, 0] rfl) K
  have loop_5 : ∀ (n : Nat) (M : List Nat) (fr u : Nat) (hu : u ≤ R) (hfr : fr ≤ M.length) (ws1 : va_W) (H : Heap) (locs : List Loc) (ls : Array Slot), growR (gU g) (R - u) M fr = growR (gU g) R L 0 → x_two k ws ws1 → RowAt cI ad ws1 k M → GraphAt cI ad ws1 kg g → R - u < n → va_P D xCl ws1 H → va_D A ws1 → va_S A s.heap H locs → lv_has ls 7 [(0, .ref (ad kg)), (1, .ref (ad k)), (2, .int (nI R)), (3, .int (nI fr)), (4, .int (nI u))] → W p l e (xR 3) s m args below meth c H locs 0 0 (MQ below (va_Qv (fun ws1 => x_two k ws ws1 ∧ RowAt cI ad ws1 k (growR (gU g) R L 0)) (x_B D xCl tys A) A) args s 0 0 A) (F0 m 5 ls []) := by
    intro n
    induction n with
    | zero => intro M fr u hu hfr ws1 H locs ls hgr hT hrow hG1 hme; exact absurd hme (Nat.not_lt_zero _)
    | succ n ih =>
      intro M fr u hu hfr ws1 H locs ls hgr hT hrow hG1 hme hP hD hS hl
      obtain ⟨fsR, hRo⟩ := hrow.obj
      obtain ⟨f1, hR1⟩ := id hrow
      obtain ⟨FF, ⟨hg0, -⟩, -⟩ := id hG1
      have hle := hG1.ok.1
      have hle9 := hrow.le
      refine lv_iload hx hb dG_growByUsers_5 (lv_at hl 4 rfl) ?_
      refine lv_iload_n hx hb dG_growByUsers_7 rfl (lv_at hl 2 rfl) ?_
      refine lv_icmp_ge (tgt := 64) hx hb dG_growByUsers_8 (by decide) (fun c8 => ?_) (fun c8 => ?_)
      · exact x_vret hx hb hr hlk hK hP hD hS dG_growByUsers_64 ⟨hT, by have e : R - u = 0 := (by rw [nI_leI (by omega) (by omega)] at c8; omega); rw [e] at hgr; rw [← hgr]; exact hrow⟩
      · have hu2 : u < R := by rw [nI_leI (by omega) (by omega)] at c8; omega
        refine lv_iload_n hx hb dG_growByUsers_11 rfl (lv_at hl 3 rfl) ?_
        refine lv_aload_n hx hb dG_growByUsers_12 rfl (lv_at hl 1 rfl) ?_
        refine x_calli (x_runV (n := 0) (As := []) (rest := [.int (nI fr)]) ⟨hx, hb, hml, hown, hts⟩ (cR_size l D tys A ws1 cI hI ad k _ hrow) tw_477 tw_443 tw_444 tw_7 tw_445 (by decide +kernel) rfl rfl ⟨by decide, by decide⟩ ⟨Nat.zero_le _, Nat.zero_le _⟩ (va_recv hK hP (ci := 2) (q0 := k) rfl hRo) hK hP hD hS hA hN rfl hl.1 rfl (lv_room (Nat.le_of_ble_eq_true rfl)) dG_growByUsers_13) hS (fun r_5 ws_4 H locs hz hP hD hS => ?_)
        obtain ⟨hz, rfl⟩ := hz
        refine lv_icmp_ge (tgt := 64) hx hb dG_growByUsers_16 (by decide) (fun c16 => ?_) (fun c16 => ?_)
        · exact x_vret hx hb hr hlk hK hP hD hS dG_growByUsers_64 ⟨hT, by rw [← hgr, growR_end _ _ (by rw [hz, nI_leI (by omega) (by omega)] at c16; exact c16)]; exact hrow⟩
        · have hfr2 : fr < M.length := by rw [hz, nI_leI (by omega) (by omega)] at c16; omega
          refine lv_aload_n hx hb dG_growByUsers_19 rfl (lv_at hl 1 rfl) ?_
          refine x_calli (x_runV (n := 0) (As := []) (rest := []) ⟨hx, hb, hml, hown, hts⟩ (cR_size l D tys A ws1 cI hI ad k _ hrow) tw_477 tw_443 tw_444 tw_7 tw_445 (by decide +kernel) rfl rfl ⟨by decide, by decide⟩ ⟨Nat.zero_le _, Nat.zero_le _⟩ (va_recv hK hP (ci := 2) (q0 := k) rfl hRo) hK hP hD hS hA hN rfl hl.1 rfl (lv_room (Nat.le_of_ble_eq_true rfl)) dG_growByUsers_20) hS (fun r_7 ws_6 H locs hz hP hD hS => ?_)
          obtain ⟨hz, rfl⟩ := hz
          obtain rfl := hz
          refine lv_istore (lv' := [(5, .int (nI M.length)), (0, .ref (ad kg)), (1, .ref (ad k)), (2, .int (nI R)), (3, .int (nI fr)), (4, .int (nI u))]) hx hb dG_growByUsers_23 hl (by decide) rfl (fun ls hl => ?_)
          refine lv_iload_n hx hb dG_growByUsers_25 rfl (lv_at hl 4 rfl) ?_
          refine lv_istore (lv' := [(6, .int (nI fr)), (5, .int (nI M.length)), (0, .ref (ad kg)), (1, .ref (ad k)), (2, .int (nI R)), (3, .int (nI fr)), (4, .int (nI u))]) hx hb dG_growByUsers_26 hl (by decide) rfl (fun ls hl => ?_)
          refine loop_28 _ M fr u 0 (by omega) hle9 ws1 _ _ _ hT (by rw [List.take_zero]; exact hrow) hG1 (Nat.lt_succ_self _) hP hD hS (lv_sub hl [2, 3, 4, 5, 6, 1, 0] rfl) (fun ws_8 H locs ls hT hrow hG1 hP hD hS hl => ?_)
          refine lv_iload hx hb dG_growByUsers_55 (lv_at hl 4 rfl) ?_
          refine lv_istore_n (lv' := [(3, .int (nI M.length)), (0, .ref (ad kg)), (1, .ref (ad k)), (2, .int (nI R)), (4, .int (nI u)), (5, .int (nI M.length))]) hx hb dG_growByUsers_57 rfl hl (by decide) rfl (fun ls hl => ?_)
          refine lv_iinc (v := (nI (u + 1))) (lv' := [(4, .int (nI (u + 1))), (3, .int (nI M.length)), (0, .ref (ad kg)), (1, .ref (ad k)), (2, .int (nI R)), (5, .int (nI M.length))]) hx hb dG_growByUsers_58 hl (k := 4) rfl (nI_1 _) (by decide) rfl (fun ls hl => ?_)
          refine lv_goto (tgt := 5) hx hb dG_growByUsers_61 (by decide) ?_
          exact ih (addB (gU g) M (M.drop fr)) M.length (u + 1) (by omega) (pfx_addB _ _ _).len ws_8 _ _ _ (by rw [← hgr, show R - u = (R - (u + 1)) + 1 by omega, growR_s _ _ hfr2]) hT hrow hG1 (by omega) hP hD hS (lv_sub hl [2, 3, 4, 1, 0] rfl)
  refine lv_iconst (v := 0) hx hb dG_growByUsers_0 (by decide) ?_
  refine lv_istore_n (lv' := [(3, .int 0), (0, .ref (ad kg)), (1, .ref (ad k)), (2, .int (nI R))]) hx hb dG_growByUsers_1 rfl hl (by decide) rfl (fun ls hl => ?_)
  refine lv_iconst (v := 0) hx hb dG_growByUsers_2 (by decide) ?_
  refine lv_istore (lv' := [(4, .int 0), (3, .int 0), (0, .ref (ad kg)), (1, .ref (ad k)), (2, .int (nI R))]) hx hb dG_growByUsers_3 hl (by decide) rfl (fun ls hl => ?_)
  exact loop_5 _ L 0 0 (Nat.zero_le _) (Nat.zero_le _) ws _ _ _ rfl x_two.rf h hG (Nat.lt_succ_self _) hP hD hS (lv_sub hl [2, 3, 4, 1, 0] rfl)
