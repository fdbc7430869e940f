set_option maxHeartbeats 4000000 in
set_option maxRecDepth 100000 in
/-- Row.addAll(other) -/
theorem cR_addAll (l : Launch) (D : va_G) (tys : List (ClassId × FieldType)) (A : Nat → Prop) (ws : va_W) (cI : ClassId) (hI : tys[0]? = some (cI, .int)) (ad : Nat → Nat) (k k2 : Nat) (L M : List Nat) (a1 : k2 ≠ k) (a2 : k2 ≠ k + 1) (a3 : k2 + 1 ≠ k) (h : RowAt cI ad ws k L) (hM : RowAt cI ad ws k2 M) : x_Mv l yR_addAll wR_addAll (xR 2) D xCl tys A [.ref (ad k), .ref (ad k2)] ws (fun ws1 => x_two k ws ws1 ∧ RowAt cI ad ws1 k (addL L M)) := by
  refine x_enter (by decide) rfl (Nat.le_of_ble_eq_true rfl) (fun p e s m args below meth c ls hx hb hr hlk hml hown hnm hts hK hP hD hS hA hN hl => ?_)
  have hl : lv_has ls 3 [(0, .ref (ad k)), (1, .ref (ad k2))] := hl
  have loop_2 : ∀ (n : Nat) (i : Nat) (hi : i ≤ M.length) (ws1 : va_W) (H : Heap) (locs : List Loc) (ls : Array Slot), x_two k ws ws1 → RowAt cI ad ws1 k ((M.take i).foldl addN L) → RowAt cI ad ws1 k2 M → M.length - i < n → va_P D xCl ws1 H → va_D A ws1 → va_S A s.heap H locs → lv_has ls 3 [(0, .ref (ad k)), (1, .ref (ad k2)), (2, .int (nI i))] → W p l e (xR 2) s m args below meth c H locs 0 0 (MQ below (va_Qv (fun ws1 => x_two k ws ws1 ∧ RowAt cI ad ws1 k (addL L M)) (x_B D xCl tys A) A) args s 0 0 A) (F0 m 2 ls []) := by
    intro n
    induction n with
    | zero => intro i hi ws1 H locs ls hT hrow hM hme; exact absurd hme (Nat.not_lt_zero _)
    | succ n ih =>
      intro i hi ws1 H locs ls hT hrow hM hme hP hD hS hl
      have hle := hM.le
      obtain ⟨fsM, hMo⟩ := hM.obj
      obtain ⟨fsR, hRo⟩ := hrow.obj
      obtain ⟨f1, hR⟩ := id hrow
      refine lv_iload_n hx hb dR_addAll_2 rfl (lv_at hl 2 rfl) ?_
      refine lv_aload_n hx hb dR_addAll_3 rfl (lv_at hl 1 rfl) ?_
      refine x_calli (x_runV (n := 0) (As := []) (rest := [.int (nI i)]) ⟨hx, hb, hml, hown, hts⟩ (cR_size l D tys A ws1 cI hI ad k2 M hM) tw_442 tw_443 tw_444 tw_7 tw_445 (by decide +kernel) rfl rfl ⟨by decide, by decide⟩ ⟨Nat.zero_le _, Nat.zero_le _⟩ (va_recv hK hP (ci := 2) (q0 := k2) rfl hMo) hK hP hD hS hA hN rfl hl.1 rfl (lv_room (Nat.le_of_ble_eq_true rfl)) dR_addAll_4) hS (fun r_2 ws_1 H locs hz hP hD hS => ?_)
      obtain ⟨hz, rfl⟩ := hz
      refine lv_icmp_ge (tgt := 25) hx hb dR_addAll_7 (by decide) (fun c7 => ?_) (fun c7 => ?_)
      · exact x_vret hx hb hr hlk hK hP hD hS dR_addAll_25 ⟨hT, by have e : i = M.length := Nat.le_antisymm hi (by have := hM.le; rw [hz, nI_leI (by omega) (by omega)] at c7; exact c7); rw [e, List.take_length] at hrow; exact hrow⟩
      · have hi2 : i < M.length := by rw [hz, nI_leI (by omega) (by omega)] at c7; omega
        refine lv_aload_n hx hb dR_addAll_10 rfl (lv_at hl 0 rfl) ?_
        refine lv_aload_n hx hb dR_addAll_11 rfl (lv_at hl 1 rfl) ?_
        refine lv_iload_n hx hb dR_addAll_12 rfl (lv_at hl 2 rfl) ?_
        refine x_calli (x_runV (n := 1) (As := [.int (nI i)]) (rest := [.ref (ad k)]) ⟨hx, hb, hml, hown, hts⟩ (cR_at l D tys A ws1 cI hI ad k2 M ((nI i)) hM) tw_446 tw_447 tw_448 tw_7 tw_449 (by decide +kernel) rfl rfl ⟨by decide, by decide⟩ ⟨Nat.zero_le _, Nat.zero_le _⟩ (va_recv hK hP (ci := 2) (q0 := k2) rfl hMo) hK hP hD hS hA hN rfl hl.1 rfl (lv_room (Nat.le_of_ble_eq_true rfl)) dR_addAll_13) hS (fun ra ws_3 H locs ha hP hD hS => ?_)
        obtain ⟨ha, rfl⟩ := ha
        refine x_callv (x_runV (n := 1) (As := [.int ra]) (rest := []) ⟨hx, hb, hml, hown, hts⟩ (cR_add l D tys A ws1 cI hI ad k _ ra f1 hR) tw_450 tw_451 tw_452 tw_7 tw_453 (by decide +kernel) rfl rfl ⟨by decide, by decide⟩ ⟨Nat.zero_le _, Nat.zero_le _⟩ (va_recv hK hP (ci := 2) (q0 := k) rfl hRo) hK hP hD hS hA hN rfl hl.1 rfl (lv_room (Nat.le_of_ble_eq_true rfl)) dR_addAll_16) hS (fun ws_4 H locs hadd hP hD hS => ?_)
        obtain ⟨ht2, f9, hr2, -⟩ := hadd
        refine lv_iinc (v := (nI (i + 1))) (lv' := [(2, .int (nI (i + 1))), (0, .ref (ad k)), (1, .ref (ad k2))]) hx hb dR_addAll_19 hl (k := 2) rfl (nI_1 _) (by decide) rfl (fun ls hl => ?_)
        refine lv_goto (tgt := 2) hx hb dR_addAll_22 (by decide) ?_
        exact ih (i + 1) (by omega) ws_4 _ _ _ (hT.tr ht2) (by rw [take_foldl addN L M hi2, ← addI_N _ (hM.lt _ (List.getElem_mem hi2)), ← atI_nI hi2 (by omega), ← ha]; exact ⟨_, hr2⟩) (hM.keep ht2 a1 a2 a3) (by omega) hP hD hS (lv_sub hl [1, 2, 0] rfl)
  refine lv_iconst (v := 0) hx hb dR_addAll_0 (by decide) ?_
  refine lv_istore_n (lv' := [(2, .int 0), (0, .ref (ad k)), (1, .ref (ad k2))]) hx hb dR_addAll_1 rfl hl (by decide) rfl (fun ls hl => ?_)
  exact loop_2 _ 0 (Nat.zero_le _) ws _ _ _ x_two.rf h hM (Nat.lt_succ_self _) hP hD hS (lv_sub hl [1, 2, 0] rfl)

/-- those of a mask below n, added one by one -/
def addM (L : List Nat) (w : Int32) : Nat → List Nat
  | 0 => L
  | n + 1 => if bt w n = true then addN (addM L w n) n else addM L w n

set_option maxHeartbeats 4000000 in
set_option maxRecDepth 100000 in
/-- Row.addByNumbers(mask) -/
theorem cR_addByNumbers (l : Launch) (D : va_G) (tys : List (ClassId × FieldType)) (A : Nat → Prop) (ws : va_W) (cI : ClassId) (hI : tys[0]? = some (cI, .int)) (ad : Nat → Nat) (k : Nat) (L : List Nat) (w : Int32) (h : RowAt cI ad ws k L) : x_Mv l yR_addByNumbers wR_addByNumbers (xR 2) D xCl tys A [.ref (ad k), .int w] ws (fun ws1 => x_two k ws ws1 ∧ RowAt cI ad ws1 k (addM L w 30)) := by
  refine x_enter (by decide) rfl (Nat.le_of_ble_eq_true rfl) (fun p e s m args below meth c ls hx hb hr hlk hml hown hnm hts hK hP hD hS hA hN hl => ?_)
  have hl : lv_has ls 3 [(0, .ref (ad k)), (1, .int w)] := hl
  have loop_2 : ∀ (n : Nat) (i : Nat) (hi : i ≤ 30) (ws1 : va_W) (H : Heap) (locs : List Loc) (ls : Array Slot), x_two k ws ws1 → RowAt cI ad ws1 k (addM L w i) → 30 - i < n → va_P D xCl ws1 H → va_D A ws1 → va_S A s.heap H locs → lv_has ls 3 [(0, .ref (ad k)), (1, .int w), (2, .int (nI i))] → W p l e (xR 2) s m args below meth c H locs 0 0 (MQ below (va_Qv (fun ws1 => x_two k ws ws1 ∧ RowAt cI ad ws1 k (addM L w 30)) (x_B D xCl tys A) A) args s 0 0 A) (F0 m 2 ls []) := by
    intro n
    induction n with
    | zero => intro i hi ws1 H locs ls hT hrow hme; exact absurd hme (Nat.not_lt_zero _)
    | succ n ih =>
      intro i hi ws1 H locs ls hT hrow hme hP hD hS hl
      obtain ⟨fsR, hRo⟩ := hrow.obj
      obtain ⟨f1, hR⟩ := id hrow
      refine lv_iload_n hx hb dR_addByNumbers_2 rfl (lv_at hl 2 rfl) ?_
      refine lv_bipush (v := 30) hx hb dR_addByNumbers_3 (by decide) ?_
      refine lv_icmp_ge (tgt := 27) hx hb dR_addByNumbers_5 (by decide) (fun c5 => ?_) (fun c5 => ?_)
      · exact x_vret hx hb hr hlk hK hP hD hS dR_addByNumbers_27 ⟨hT, by have e : i = 30 := (by have c5 : nI 30 ≤ nI i := c5; rw [nI_leI (by omega) (by omega)] at c5; omega); rw [e] at hrow; exact hrow⟩
      · have hi2 : i < 30 := by have c5 : ¬ nI 30 ≤ nI i := c5; rw [nI_leI (by omega) (by omega)] at c5; omega
        refine lv_iload_n hx hb dR_addByNumbers_8 rfl (lv_at hl 1 rfl) ?_
        refine lv_iload_n hx hb dR_addByNumbers_9 rfl (lv_at hl 2 rfl) ?_
        refine x_calli (x_runSN (n := 2) (As := [.int w, .int (nI i)]) (rest := []) ⟨hx, hb, hml, hown, hts⟩ (cQ_isIn l D tys A ws1 w (nI i)) (xN_454 hN) tw_190 tw_1 tw_191 (by decide +kernel) rfl rfl ⟨by decide, by decide⟩ ⟨Nat.zero_le _, Nat.zero_le _⟩ hK hP hD hS hA hN rfl hl.1 rfl (lv_room (Nat.le_of_ble_eq_true rfl)) dR_addByNumbers_10) hS (fun rb ws_1 H locs hb1 hP hD hS => ?_)
        obtain ⟨hb1, rfl⟩ := hb1
        refine lv_if_eq (tgt := 21) hx hb dR_addByNumbers_13 (by decide) (fun c13 => ?_) (fun c13 => ?_)
        · refine lv_iinc (v := (nI (i + 1))) (lv' := [(2, .int (nI (i + 1))), (0, .ref (ad k)), (1, .int w)]) hx hb dR_addByNumbers_21 hl (k := 2) rfl (nI_1 _) (by decide) rfl (fun ls hl => ?_)
          refine lv_goto (tgt := 2) hx hb dR_addByNumbers_24 (by decide) ?_
          exact ih (i + 1) (by omega) ws1 _ _ _ hT (by have e : addM L w (i + 1) = addM L w i := (by rw [hb1, isIn_nI w hi2, b2i_0] at c13; show (if bt w i = true then _ else _) = _; rw [c13]; rfl); rw [e]; exact hrow) (by omega) hP hD hS (lv_sub hl [1, 2, 0] rfl)
        · refine lv_aload_n hx hb dR_addByNumbers_16 rfl (lv_at hl 0 rfl) ?_
          refine lv_iload_n hx hb dR_addByNumbers_17 rfl (lv_at hl 2 rfl) ?_
          refine x_callv (x_runV (n := 1) (As := [.int (nI i)]) (rest := []) ⟨hx, hb, hml, hown, hts⟩ (cR_add l D tys A ws1 cI hI ad k _ ((nI i)) f1 hR) tw_450 tw_451 tw_452 tw_7 tw_453 (by decide +kernel) rfl rfl ⟨by decide, by decide⟩ ⟨Nat.zero_le _, Nat.zero_le _⟩ (va_recv hK hP (ci := 2) (q0 := k) rfl hRo) hK hP hD hS hA hN rfl hl.1 rfl (lv_room (Nat.le_of_ble_eq_true rfl)) dR_addByNumbers_18) hS (fun ws_2 H locs hadd hP hD hS => ?_)
          obtain ⟨ht2, f9, hr2, -⟩ := hadd
          refine lv_iinc (v := (nI (i + 1))) (lv' := [(2, .int (nI (i + 1))), (0, .ref (ad k)), (1, .int w)]) hx hb dR_addByNumbers_21 hl (k := 2) rfl (nI_1 _) (by decide) rfl (fun ls hl => ?_)
          refine lv_goto (tgt := 2) hx hb dR_addByNumbers_24 (by decide) ?_
          exact ih (i + 1) (by omega) ws_2 _ _ _ (hT.tr ht2) (by have e : addM L w (i + 1) = addI (addM L w i) (nI i) := (by rw [hb1, isIn_nI w hi2, b2i_n0] at c13; rw [addI_N _ hi2]; show (if bt w i = true then _ else _) = _; rw [c13]; rfl); rw [e]; exact ⟨_, hr2⟩) (by omega) hP hD hS (lv_sub hl [1, 2, 0] rfl)
  refine lv_iconst (v := 0) hx hb dR_addByNumbers_0 (by decide) ?_
  refine lv_istore_n (lv' := [(2, .int 0), (0, .ref (ad k)), (1, .int w)]) hx hb dR_addByNumbers_1 rfl hl (by decide) rfl (fun ls hl => ?_)
  exact loop_2 _ 0 (Nat.zero_le _) ws _ _ _ x_two.rf h (Nat.lt_succ_self _) hP hD hS (lv_sub hl [1, 2, 0] rfl)

theorem addL_nil {M : List Nat} (h : M.Nodup) : addL [] M = M := by
  have key : ∀ (M N : List Nat), (N ++ M).Nodup → M.foldl addN N = N ++ M := by
    intro M
    induction M with
    | nil => intro N _; simp
    | cons a t ih =>
      intro N hn
      have ha : a ∉ N := fun hm => (List.nodup_append.mp hn).2.2 a hm a List.mem_cons_self rfl
      rw [List.foldl_cons, show addN N a = N ++ [a] from if_neg ha, ih (N ++ [a]) (by simpa using hn)]
      simp
  exact key M [] h

set_option maxHeartbeats 4000000 in
set_option maxRecDepth 100000 in
/-- Row.copy(other) -/
theorem cR_copy (l : Launch) (D : va_G) (tys : List (ClassId × FieldType)) (A : Nat → Prop) (ws : va_W) (cI : ClassId) (hI : tys[0]? = some (cI, .int)) (ad : Nat → Nat) (k k2 : Nat) (L M : List Nat) (a1 : k2 ≠ k) (a2 : k2 ≠ k + 1) (a3 : k2 + 1 ≠ k) (h : RowAt cI ad ws k L) (hM : RowAt cI ad ws k2 M) : x_Mv l yR_copy wR_copy (xR 3) D xCl tys A [.ref (ad k), .ref (ad k2)] ws (fun ws1 => x_two k ws ws1 ∧ RowAt cI ad ws1 k M) := by
  obtain ⟨fsR, hRo⟩ := h.obj
  obtain ⟨f1, hR⟩ := h
  refine x_enter (by decide) rfl (Nat.le_of_ble_eq_true rfl) (fun p e s m args below meth c ls hx hb hr hlk hml hown hnm hts hK hP hD hS hA hN hl => ?_)
  have hl : lv_has ls 2 [(0, .ref (ad k)), (1, .ref (ad k2))] := hl
  refine lv_aload_n hx hb dR_copy_0 rfl (lv_at hl 0 rfl) ?_
  refine x_callv (x_runV (n := 0) (As := []) (rest := []) ⟨hx, hb, hml, hown, hts⟩ (cR_clear l D tys A ws cI hI ad k L f1 hR) tw_434 tw_435 tw_436 tw_7 tw_437 (by decide +kernel) rfl rfl ⟨by decide, by decide⟩ ⟨Nat.zero_le _, Nat.zero_le _⟩ (va_recv hK hP (ci := 2) (q0 := k) rfl hRo) hK hP hD hS hA hN rfl hl.1 rfl (lv_room (Nat.le_of_ble_eq_true rfl)) dR_copy_1) hS (fun ws_1 H locs hcl hP hD hS => ?_)
  obtain ⟨ht1, hr1⟩ := hcl
  have hM := hM.keep ht1 a1 a2 a3
  obtain ⟨fsR, hRo⟩ := RowAt.obj ⟨_, hr1⟩
  refine lv_aload_n hx hb dR_copy_4 rfl (lv_at hl 0 rfl) ?_
  refine lv_aload_n hx hb dR_copy_5 rfl (lv_at hl 1 rfl) ?_
  refine x_callv (x_runV (n := 1) (As := [.ref (ad k2)]) (rest := []) ⟨hx, hb, hml, hown, hts⟩ (cR_addAll l D tys A ws_1 cI hI ad k k2 [] M a1 a2 a3 ⟨_, hr1⟩ hM) tw_438 tw_439 tw_440 tw_7 tw_441 (by decide +kernel) rfl rfl ⟨by decide, by decide⟩ ⟨Nat.zero_le _, Nat.zero_le _⟩ (va_recv hK hP (ci := 2) (q0 := k) rfl hRo) hK hP hD hS hA hN rfl hl.1 rfl (lv_room (Nat.le_of_ble_eq_true rfl)) dR_copy_6) hS (fun ws_2 H locs hal hP hD hS => ?_)
  obtain ⟨ht2, hr2⟩ := hal
  exact x_vret hx hb hr hlk hK hP hD hS dR_copy_9 ⟨ht1.tr ht2, by rw [addL_nil hM.nd] at hr2; exact hr2⟩
