def SumC (l : Launch) (D : va_G) (tys : List (ClassId × FieldType)) (A : Nat → Prop) (cI : ClassId) (ad : Nat → Nat) (k : Nat) (T : List Tok) (d : Nat) : Prop := ∀ (ws : va_W) (st : PSt), ParserAt cI ad ws k T st → x_Mi l yP_sum wP_sum (xR (3 * d + 3)) D xCl tys A [.ref (ad k), .int (nI (12 - d))] ws (fun r ws1 => r = b2i (pSum T (pTerm T d) st).1 ∧ x_fr k (k + 10) ws ws1 ∧ ParserAt cI ad ws1 k T (pSum T (pTerm T d) st).2)
def TermC (l : Launch) (D : va_G) (tys : List (ClassId × FieldType)) (A : Nat → Prop) (cI : ClassId) (ad : Nat → Nat) (k : Nat) (T : List Tok) (d : Nat) : Prop := ∀ (ws : va_W) (st : PSt), ParserAt cI ad ws k T st → x_Mi l yP_term wP_term (xR (3 * d + 2)) D xCl tys A [.ref (ad k), .int (nI (12 - d))] ws (fun r ws1 => r = b2i (pTerm T d st).1 ∧ x_fr k (k + 10) ws ws1 ∧ ParserAt cI ad ws1 k T (pTerm T d st).2)
theorem isJn_nz {K : Int32} (h : isJnI K = true) : ¬ K = 0 := by
  unfold isJnI at h
  rw [decide_eq_true_eq] at h
  rcases h with rfl | rfl | rfl <;> decide
theorem pMore_end {T : List Tok} {t : PSt → Bool × PSt} {n : Nat} {st : PSt} (h : isJnI (tkAt T st).1 = false) : pMore T t n st = (true, st) := by
  cases n with
  | zero => rfl
  | succ n => exact if_neg (by rw [h]; decide)

set_option maxHeartbeats 4000000 in
set_option maxRecDepth 100000 in
/-- Parser.roundsTerm(kind, within) -/
theorem cP_roundsTerm (l : Launch) (D : va_G) (tys : List (ClassId × FieldType)) (A : Nat → Prop) (cI : ClassId) (hI : tys[0]? = some (cI, .int)) (ad : Nat → Nat) (k : Nat) (T : List Tok) (d : Nat) (HS : SumC l D tys A cI ad k T d) (hd : d < 12) (ws : va_W) (st : PSt) (kk : Int32) (hkn : ¬ (tkAt T st).1 = 0) (hp : ParserAt cI ad ws k T st) : x_Mi l yP_roundsTerm wP_roundsTerm (xR (3 * d + 4)) D xCl tys A [.ref (ad k), .int kk, .int (nI (12 - d))] ws (fun r ws1 => r = b2i (pRounds T (pSum T (pTerm T d)) kk st).1 ∧ x_fr k (k + 10) ws ws1 ∧ ParserAt cI ad ws1 k T (pRounds T (pSum T (pTerm T d)) kk st).2) := by
  have hF : x_fr k (k + 10) ws ws := x_fr.rf
  obtain ⟨q0, qt, qp, qs, qa⟩ := id hp
  obtain ⟨fsTq, htoq⟩ := qt.obj
  obtain ⟨fsPq, hpoq⟩ := qp.obj
  refine x_enter (by decide) rfl (Nat.le_of_ble_eq_true rfl) (fun p e s m args below meth c ls hx hb hr hlk hml hown hnm hts hK hP hD hS hA hN hl => ?_)
  have hl : lv_has ls 4 [(0, .ref (ad k)), (1, .int kk), (2, .int (nI (12 - d)))] := hl
  refine lv_aload_n hx hb dP_roundsTerm_0 rfl (lv_at hl 0 rfl) ?_
  refine lv_dup hx hb dP_roundsTerm_1 rfl ?_
  refine va_get (D := D) (cl := xCl) (ci := 1) (v := .int (nI st.1)) (C := rnP) (T := tbP) (N := 5) hx hb hts inP hown hK hP k q0 rfl 3 (by decide) (hts _ tw_100) (fun _ h9 => h9) rfl dP_roundsTerm_2 ?_
  refine lv_iconst (v := 1) hx hb dP_roundsTerm_5 (by decide) ?_
  refine lv_iadd hx hb dP_roundsTerm_6 ?_
  refine lv_topi (fun v_1 ev_1 => ?_)
  refine va_put (D := D) (cl := xCl) (ci := 1) (v := .int v_1) (ty := .int) (C := rnP) (T := tbP) (N := 5) hx hb hts inP tyP toP nmP hown hK hP hD hS k q0 rfl 3 (by decide) (hts _ tw_100) (fun _ h9 => h9) rfl (by decide +kernel) rfl rfl (Nat.le_of_ble_eq_true rfl) dP_roundsTerm_7 (fun H locs hP hD hS => ?_)
  obtain ⟨ws_3, hu_2, hP, hD⟩ := x_gen q0 hP hD
  have h_4 : ws_3[k]? = some (ad k, .inr (1, [.ref (ad (k + 1)), .ref (ad (k + 5)), .ref (ad (k + 9)), .int v_1, .int (nI st.2.2.2)])) := hu_2.1
  have h_5 := (hu_2.2 (k + 1) (by omega)).trans htoq
  have h_6 := (hu_2.2 (k + 5) (by omega)).trans hpoq
  have h_7 := (hu_2.2 (k + 9) (by omega)).trans qs
  have hp := hp.adv hu_2 ev_1 (hkn)
  have hF := hF.tr (hu_2.fr (a := k) (b := k + 10) (by omega) (by omega))
  obtain ⟨q_80, q_8t, q_8p, q_8s, q_8a⟩ := id hp
  obtain ⟨fsTq_8, htoq_8⟩ := q_8t.obj
  obtain ⟨fsPq_8, hpoq_8⟩ := q_8p.obj
  refine lv_aload_n hx hb dP_roundsTerm_10 rfl (lv_at hl 0 rfl) ?_
  refine lv_bipush (v := 40) hx hb dP_roundsTerm_11 (by decide) ?_
  refine x_calli (x_runV (n := 1) (As := [.int 40]) (rest := []) ⟨hx, hb, hml, hown, hts⟩ (cP_take l D tys A ws_3 cI hI ad k T ((pAdv st)) 40 (by decide) hp) tw_354 tw_356 ts_P_take tw_4 tw_357 (by decide +kernel) rfl rfl (xR_ok (by omega) (by omega)) ⟨Nat.zero_le _, Nat.zero_le _⟩ (va_recv hK hP (ci := 1) (q0 := k) rfl q_80) hK hP hD hS hA hN rfl hl.1 rfl (lv_room (Nat.le_of_ble_eq_true rfl)) dP_roundsTerm_13) hS (fun rb_10 ws_11 H locs hb_9 hP hD hS => ?_)
  obtain ⟨hb_9, hF9, hp⟩ := hb_9
  have hF := hF.tr hF9
  obtain ⟨q_120, q_12t, q_12p, q_12s, q_12a⟩ := id hp
  obtain ⟨fsTq_12, htoq_12⟩ := q_12t.obj
  obtain ⟨fsPq_12, hpoq_12⟩ := q_12p.obj
  refine lv_if_eq (tgt := 27) hx hb dP_roundsTerm_16 (by decide) (fun c16 => ?_) (fun c16 => ?_)
  · refine lv_iconst (v := 0) hx hb dP_roundsTerm_27 (by decide) ?_
    exact x_zret hx hb hr rfl hlk hK hP hD hS dP_roundsTerm_28 ⟨(by have nc16 : ¬ (pTake T 40 ((pAdv st))).1 = true := (by have q := b2i_0.mp (by rw [← hb_9]; exact c16); rw [q]; decide); unfold pRounds; rw [if_neg nc16]; rfl), hF, (by have nc16 : ¬ (pTake T 40 ((pAdv st))).1 = true := (by have q := b2i_0.mp (by rw [← hb_9]; exact c16); rw [q]; decide); unfold pRounds; rw [if_neg nc16]; exact hp)⟩
  · refine lv_aload_n hx hb dP_roundsTerm_19 rfl (lv_at hl 0 rfl) ?_
    refine lv_iload_n hx hb dP_roundsTerm_20 rfl (lv_at hl 2 rfl) ?_
    refine x_calli (x_runV (n := 1) (As := [.int (nI (12 - d))]) (rest := []) ⟨hx, hb, hml, hown, hts⟩ (HS ws_11 ((pTake T 40 ((pAdv st))).2) hp) tw_321 tw_323 ts_P_sum tw_4 tw_324 (by decide +kernel) rfl rfl (xR_ok (by omega) (by omega)) ⟨Nat.zero_le _, Nat.zero_le _⟩ (va_recv hK hP (ci := 1) (q0 := k) rfl q_120) hK hP hD hS hA hN rfl hl.1 rfl (lv_room (Nat.le_of_ble_eq_true rfl)) dP_roundsTerm_21) hS (fun rb_14 ws_15 H locs hb_13 hP hD hS => ?_)
    obtain ⟨hb_13, hF9, hp⟩ := hb_13
    have hF := hF.tr hF9
    obtain ⟨q_160, q_16t, q_16p, q_16s, q_16a⟩ := id hp
    obtain ⟨fsTq_16, htoq_16⟩ := q_16t.obj
    obtain ⟨fsPq_16, hpoq_16⟩ := q_16p.obj
    refine lv_if_ne (tgt := 29) hx hb dP_roundsTerm_24 (by decide) (fun c24 => ?_) (fun c24 => ?_)
    · refine lv_bipush (v := 30) hx hb dP_roundsTerm_29 (by decide) ?_
      refine lv_istore_n (lv' := [(3, .int 30), (0, .ref (ad k)), (1, .int kk), (2, .int (nI (12 - d)))]) hx hb dP_roundsTerm_31 rfl hl (by decide) rfl (fun ls hl => ?_)
      refine lv_aload_n hx hb dP_roundsTerm_32 rfl (lv_at hl 1 rfl) ?_
      refine lv_bipush (v := 44) hx hb dP_roundsTerm_33 (by decide) ?_
      refine x_calli (x_runV (n := 1) (As := [.int 44]) (rest := []) ⟨hx, hb, hml, hown, hts⟩ (cP_take l D tys A ws_15 cI hI ad k T ((pSum T (pTerm T d) ((pTake T 40 ((pAdv st))).2)).2) 44 (by decide) hp) tw_354 tw_356 ts_P_take tw_4 tw_357 (by decide +kernel) rfl rfl (xR_ok (by omega) (by omega)) ⟨Nat.zero_le _, Nat.zero_le _⟩ (va_recv hK hP (ci := 1) (q0 := k) rfl q_160) hK hP hD hS hA hN rfl hl.1 rfl (lv_room (Nat.le_of_ble_eq_true rfl)) dP_roundsTerm_35) hS (fun rb_18 ws_19 H locs hb_17 hP hD hS => ?_)
      obtain ⟨hb_17, hF9, hp⟩ := hb_17
      have hF := hF.tr hF9
      obtain ⟨q_200, q_20t, q_20p, q_20s, q_20a⟩ := id hp
      obtain ⟨fsTq_20, htoq_20⟩ := q_20t.obj
      obtain ⟨fsPq_20, hpoq_20⟩ := q_20p.obj
      refine lv_if_eq (tgt := 63) hx hb dP_roundsTerm_38 (by decide) (fun c38 => ?_) (fun c38 => ?_)
      · refine lv_aload_n hx hb dP_roundsTerm_63 rfl (lv_at hl 1 rfl) ?_
        refine lv_iload_n hx hb dP_roundsTerm_64 rfl (lv_at hl 2 rfl) ?_
        refine lv_iload_n hx hb dP_roundsTerm_65 rfl (lv_at hl 0 rfl) ?_
        refine x_callv (x_runV (n := 2) (As := [.int kk, .int 30]) (rest := []) ⟨hx, hb, hml, hown, hts⟩ (cP_emit l D tys A ws_19 cI hI ad k T ((pTake T 44 ((pSum T (pTerm T d) ((pTake T 40 ((pAdv st))).2)).2)).2) kk 30 hp) tw_337 tw_339 ts_P_emit tw_4 tw_340 (by decide +kernel) rfl rfl (xR_ok (by omega) (by omega)) ⟨Nat.zero_le _, Nat.zero_le _⟩ (va_recv hK hP (ci := 1) (q0 := k) rfl q_200) hK hP hD hS hA hN rfl hl.1 rfl (lv_room (Nat.le_of_ble_eq_true rfl)) dP_roundsTerm_66) hS (fun ws_22 H locs hv_21 hP hD hS => ?_)
        obtain ⟨hF9, hp⟩ := hv_21
        have hF := hF.tr hF9
        obtain ⟨q_230, q_23t, q_23p, q_23s, q_23a⟩ := id hp
        obtain ⟨fsTq_23, htoq_23⟩ := q_23t.obj
        obtain ⟨fsPq_23, hpoq_23⟩ := q_23p.obj
        refine lv_aload_n hx hb dP_roundsTerm_69 rfl (lv_at hl 1 rfl) ?_
        refine lv_bipush (v := 41) hx hb dP_roundsTerm_70 (by decide) ?_
        refine x_calli (x_runV (n := 1) (As := [.int 41]) (rest := []) ⟨hx, hb, hml, hown, hts⟩ (cP_take l D tys A ws_22 cI hI ad k T ((pEmit T kk 30 ((pTake T 44 ((pSum T (pTerm T d) ((pTake T 40 ((pAdv st))).2)).2)).2))) 41 (by decide) hp) tw_354 tw_356 ts_P_take tw_4 tw_357 (by decide +kernel) rfl rfl (xR_ok (by omega) (by omega)) ⟨Nat.zero_le _, Nat.zero_le _⟩ (va_recv hK hP (ci := 1) (q0 := k) rfl q_230) hK hP hD hS hA hN rfl hl.1 rfl (lv_room (Nat.le_of_ble_eq_true rfl)) dP_roundsTerm_72) hS (fun rb_25 ws_26 H locs hb_24 hP hD hS => ?_)
        obtain ⟨hb_24, hF9, hp⟩ := hb_24
        have hF := hF.tr hF9
        obtain ⟨q_270, q_27t, q_27p, q_27s, q_27a⟩ := id hp
        obtain ⟨fsTq_27, htoq_27⟩ := q_27t.obj
        obtain ⟨fsPq_27, hpoq_27⟩ := q_27p.obj
        exact x_zret hx hb hr (by rw [hb_24]; exact b2i_nar _) hlk hK hP hD hS dP_roundsTerm_75 ⟨(by have nc16 : (pTake T 40 ((pAdv st))).1 = true := b2i_n0.mp (by rw [← hb_9]; exact c16); have nc24 : (pSum T (pTerm T d) ((pTake T 40 ((pAdv st))).2)).1 = true := b2i_n0.mp (by rw [← hb_13]; exact c24); have nc38 : ¬ (pTake T 44 ((pSum T (pTerm T d) ((pTake T 40 ((pAdv st))).2)).2)).1 = true := (by have q := b2i_0.mp (by rw [← hb_17]; exact c38); rw [q]; decide); unfold pRounds; rw [if_pos nc16, if_pos nc24, if_neg nc38]; unfold pEnd; exact hb_24), hF, (by have nc16 : (pTake T 40 ((pAdv st))).1 = true := b2i_n0.mp (by rw [← hb_9]; exact c16); have nc24 : (pSum T (pTerm T d) ((pTake T 40 ((pAdv st))).2)).1 = true := b2i_n0.mp (by rw [← hb_13]; exact c24); have nc38 : ¬ (pTake T 44 ((pSum T (pTerm T d) ((pTake T 40 ((pAdv st))).2)).2)).1 = true := (by have q := b2i_0.mp (by rw [← hb_17]; exact c38); rw [q]; decide); unfold pRounds; rw [if_pos nc16, if_pos nc24, if_neg nc38]; unfold pEnd; exact hp)⟩
      · refine lv_aload_n hx hb dP_roundsTerm_41 rfl (lv_at hl 1 rfl) ?_
        refine va_get (D := D) (cl := xCl) (ci := 1) (v := .ref (ad (k + 1))) (C := rnP) (T := tbP) (N := 5) hx hb hts inP hown hK hP k q_200 rfl 0 (by decide) (hts _ tw_97) (fun _ h9 => h9) rfl dP_roundsTerm_42 ?_
        refine lv_aload_n hx hb dP_roundsTerm_45 rfl (lv_at hl 1 rfl) ?_
        refine va_get (D := D) (cl := xCl) (ci := 1) (v := .int (nI ((pTake T 44 ((pSum T (pTerm T d) ((pTake T 40 ((pAdv st))).2)).2)).2).1)) (C := rnP) (T := tbP) (N := 5) hx hb hts inP hown hK hP k q_200 rfl 3 (by decide) (hts _ tw_100) (fun _ h9 => h9) rfl dP_roundsTerm_46 ?_
        refine x_calli (x_runV (n := 1) (As := [.int (nI ((pTake T 44 ((pSum T (pTerm T d) ((pTake T 40 ((pAdv st))).2)).2)).2).1)]) (rest := []) ⟨hx, hb, hml, hown, hts⟩ (cT_valueAt l D tys A ws_19 cI hI ad (k + 1) T ((nI ((pTake T 44 ((pSum T (pTerm T d) ((pTake T 40 ((pAdv st))).2)).2)).2).1)) q_20t) tw_333 tw_334 tw_335 tw_5 tw_336 (by decide +kernel) rfl rfl (xR_ok (by omega) (by omega)) ⟨Nat.zero_le _, Nat.zero_le _⟩ (va_recv hK hP (ci := 4) (q0 := k + 1) rfl htoq_20) hK hP hD hS hA hN rfl hl.1 rfl (lv_room (Nat.le_of_ble_eq_true rfl)) dP_roundsTerm_49) hS (fun rvl ws_28 H locs hvl hP hD hS => ?_)
        obtain ⟨hvl, rfl⟩ := hvl
        rw [hp.tk] at hvl
        refine lv_istore_n (lv' := [(3, .int rvl), (0, .ref (ad k)), (1, .int kk), (2, .int (nI (12 - d)))]) hx hb dP_roundsTerm_52 rfl hl (by decide) rfl (fun ls hl => ?_)
        refine lv_aload_n hx hb dP_roundsTerm_53 rfl (lv_at hl 1 rfl) ?_
        refine lv_iconst (v := 4) hx hb dP_roundsTerm_54 (by decide) ?_
        refine x_calli (x_runV (n := 1) (As := [.int 4]) (rest := []) ⟨hx, hb, hml, hown, hts⟩ (cP_take l D tys A ws_19 cI hI ad k T ((pTake T 44 ((pSum T (pTerm T d) ((pTake T 40 ((pAdv st))).2)).2)).2) 4 (by decide) hp) tw_354 tw_356 ts_P_take tw_4 tw_357 (by decide +kernel) rfl rfl (xR_ok (by omega) (by omega)) ⟨Nat.zero_le _, Nat.zero_le _⟩ (va_recv hK hP (ci := 1) (q0 := k) rfl q_200) hK hP hD hS hA hN rfl hl.1 rfl (lv_room (Nat.le_of_ble_eq_true rfl)) dP_roundsTerm_55) hS (fun rb_30 ws_31 H locs hb_29 hP hD hS => ?_)
        obtain ⟨hb_29, hF9, hp⟩ := hb_29
        have hF := hF.tr hF9
        obtain ⟨q_320, q_32t, q_32p, q_32s, q_32a⟩ := id hp
        obtain ⟨fsTq_32, htoq_32⟩ := q_32t.obj
        obtain ⟨fsPq_32, hpoq_32⟩ := q_32p.obj
        refine lv_if_ne (tgt := 63) hx hb dP_roundsTerm_58 (by decide) (fun c58 => ?_) (fun c58 => ?_)
        · refine lv_aload_n hx hb dP_roundsTerm_63 rfl (lv_at hl 1 rfl) ?_
          refine lv_iload_n hx hb dP_roundsTerm_64 rfl (lv_at hl 2 rfl) ?_
          refine lv_iload_n hx hb dP_roundsTerm_65 rfl (lv_at hl 0 rfl) ?_
          refine x_callv (x_runV (n := 2) (As := [.int kk, .int rvl]) (rest := []) ⟨hx, hb, hml, hown, hts⟩ (cP_emit l D tys A ws_31 cI hI ad k T ((pTake T 4 ((pTake T 44 ((pSum T (pTerm T d) ((pTake T 40 ((pAdv st))).2)).2)).2)).2) kk rvl hp) tw_337 tw_339 ts_P_emit tw_4 tw_340 (by decide +kernel) rfl rfl (xR_ok (by omega) (by omega)) ⟨Nat.zero_le _, Nat.zero_le _⟩ (va_recv hK hP (ci := 1) (q0 := k) rfl q_320) hK hP hD hS hA hN rfl hl.1 rfl (lv_room (Nat.le_of_ble_eq_true rfl)) dP_roundsTerm_66) hS (fun ws_34 H locs hv_33 hP hD hS => ?_)
          obtain ⟨hF9, hp⟩ := hv_33
          have hF := hF.tr hF9
          obtain ⟨q_350, q_35t, q_35p, q_35s, q_35a⟩ := id hp
          obtain ⟨fsTq_35, htoq_35⟩ := q_35t.obj
          obtain ⟨fsPq_35, hpoq_35⟩ := q_35p.obj
          refine lv_aload_n hx hb dP_roundsTerm_69 rfl (lv_at hl 1 rfl) ?_
          refine lv_bipush (v := 41) hx hb dP_roundsTerm_70 (by decide) ?_
          refine x_calli (x_runV (n := 1) (As := [.int 41]) (rest := []) ⟨hx, hb, hml, hown, hts⟩ (cP_take l D tys A ws_34 cI hI ad k T ((pEmit T kk rvl ((pTake T 4 ((pTake T 44 ((pSum T (pTerm T d) ((pTake T 40 ((pAdv st))).2)).2)).2)).2))) 41 (by decide) hp) tw_354 tw_356 ts_P_take tw_4 tw_357 (by decide +kernel) rfl rfl (xR_ok (by omega) (by omega)) ⟨Nat.zero_le _, Nat.zero_le _⟩ (va_recv hK hP (ci := 1) (q0 := k) rfl q_350) hK hP hD hS hA hN rfl hl.1 rfl (lv_room (Nat.le_of_ble_eq_true rfl)) dP_roundsTerm_72) hS (fun rb_37 ws_38 H locs hb_36 hP hD hS => ?_)
          obtain ⟨hb_36, hF9, hp⟩ := hb_36
          have hF := hF.tr hF9
          obtain ⟨q_390, q_39t, q_39p, q_39s, q_39a⟩ := id hp
          obtain ⟨fsTq_39, htoq_39⟩ := q_39t.obj
          obtain ⟨fsPq_39, hpoq_39⟩ := q_39p.obj
          exact x_zret hx hb hr (by rw [hb_36]; exact b2i_nar _) hlk hK hP hD hS dP_roundsTerm_75 ⟨(by have nc16 : (pTake T 40 ((pAdv st))).1 = true := b2i_n0.mp (by rw [← hb_9]; exact c16); have nc24 : (pSum T (pTerm T d) ((pTake T 40 ((pAdv st))).2)).1 = true := b2i_n0.mp (by rw [← hb_13]; exact c24); have nc38 : (pTake T 44 ((pSum T (pTerm T d) ((pTake T 40 ((pAdv st))).2)).2)).1 = true := b2i_n0.mp (by rw [← hb_17]; exact c38); have nc58 : (pTake T 4 ((pTake T 44 ((pSum T (pTerm T d) ((pTake T 40 ((pAdv st))).2)).2)).2)).1 = true := b2i_n0.mp (by rw [← hb_29]; exact c58); unfold pRounds; rw [if_pos nc16, if_pos nc24, if_pos nc38, if_pos nc58, ← hvl]; unfold pEnd; exact hb_36), hF, (by have nc16 : (pTake T 40 ((pAdv st))).1 = true := b2i_n0.mp (by rw [← hb_9]; exact c16); have nc24 : (pSum T (pTerm T d) ((pTake T 40 ((pAdv st))).2)).1 = true := b2i_n0.mp (by rw [← hb_13]; exact c24); have nc38 : (pTake T 44 ((pSum T (pTerm T d) ((pTake T 40 ((pAdv st))).2)).2)).1 = true := b2i_n0.mp (by rw [← hb_17]; exact c38); have nc58 : (pTake T 4 ((pTake T 44 ((pSum T (pTerm T d) ((pTake T 40 ((pAdv st))).2)).2)).2)).1 = true := b2i_n0.mp (by rw [← hb_29]; exact c58); unfold pRounds; rw [if_pos nc16, if_pos nc24, if_pos nc38, if_pos nc58, ← hvl]; unfold pEnd; exact hp)⟩
        · refine lv_iconst (v := 0) hx hb dP_roundsTerm_61 (by decide) ?_
          exact x_zret hx hb hr rfl hlk hK hP hD hS dP_roundsTerm_62 ⟨(by have nc16 : (pTake T 40 ((pAdv st))).1 = true := b2i_n0.mp (by rw [← hb_9]; exact c16); have nc24 : (pSum T (pTerm T d) ((pTake T 40 ((pAdv st))).2)).1 = true := b2i_n0.mp (by rw [← hb_13]; exact c24); have nc38 : (pTake T 44 ((pSum T (pTerm T d) ((pTake T 40 ((pAdv st))).2)).2)).1 = true := b2i_n0.mp (by rw [← hb_17]; exact c38); have nc58 : ¬ (pTake T 4 ((pTake T 44 ((pSum T (pTerm T d) ((pTake T 40 ((pAdv st))).2)).2)).2)).1 = true := (by have q := b2i_0.mp (by rw [← hb_29]; exact c58); rw [q]; decide); unfold pRounds; rw [if_pos nc16, if_pos nc24, if_pos nc38, if_neg nc58]; rfl), hF, (by have nc16 : (pTake T 40 ((pAdv st))).1 = true := b2i_n0.mp (by rw [← hb_9]; exact c16); have nc24 : (pSum T (pTerm T d) ((pTake T 40 ((pAdv st))).2)).1 = true := b2i_n0.mp (by rw [← hb_13]; exact c24); have nc38 : (pTake T 44 ((pSum T (pTerm T d) ((pTake T 40 ((pAdv st))).2)).2)).1 = true := b2i_n0.mp (by rw [← hb_17]; exact c38); have nc58 : ¬ (pTake T 4 ((pTake T 44 ((pSum T (pTerm T d) ((pTake T 40 ((pAdv st))).2)).2)).2)).1 = true := (by have q := b2i_0.mp (by rw [← hb_29]; exact c58); rw [q]; decide); unfold pRounds; rw [if_pos nc16, if_pos nc24, if_pos nc38, if_neg nc58]; exact hp)⟩
    · refine lv_iconst (v := 0) hx hb dP_roundsTerm_27 (by decide) ?_
      exact x_zret hx hb hr rfl hlk hK hP hD hS dP_roundsTerm_28 ⟨(by have nc16 : (pTake T 40 ((pAdv st))).1 = true := b2i_n0.mp (by rw [← hb_9]; exact c16); have nc24 : ¬ (pSum T (pTerm T d) ((pTake T 40 ((pAdv st))).2)).1 = true := (by have q := b2i_0.mp (by rw [← hb_13]; exact c24); rw [q]; decide); unfold pRounds; rw [if_pos nc16, if_neg nc24]; rfl), hF, (by have nc16 : (pTake T 40 ((pAdv st))).1 = true := b2i_n0.mp (by rw [← hb_9]; exact c16); have nc24 : ¬ (pSum T (pTerm T d) ((pTake T 40 ((pAdv st))).2)).1 = true := (by have q := b2i_0.mp (by rw [← hb_13]; exact c24); rw [q]; decide); unfold pRounds; rw [if_pos nc16, if_neg nc24]; exact hp)⟩

set_option maxHeartbeats 4000000 in
set_option maxRecDepth 100000 in
/-- Parser.plainTerm(kind, within) -/
theorem cP_plainTerm (l : Launch) (D : va_G) (tys : List (ClassId × FieldType)) (A : Nat → Prop) (cI : ClassId) (hI : tys[0]? = some (cI, .int)) (ad : Nat → Nat) (k : Nat) (T : List Tok) (d : Nat) (HS : SumC l D tys A cI ad k T d) (hd : d < 12) (ws : va_W) (st : PSt) (kk : Int32) (hkn : ¬ (tkAt T st).1 = 0) (hp : ParserAt cI ad ws k T st) : x_Mi l yP_plainTerm wP_plainTerm (xR (3 * d + 4)) D xCl tys A [.ref (ad k), .int kk, .int (nI (12 - d))] ws (fun r ws1 => r = b2i (pPlain T (pSum T (pTerm T d)) kk st).1 ∧ x_fr k (k + 10) ws ws1 ∧ ParserAt cI ad ws1 k T (pPlain T (pSum T (pTerm T d)) kk st).2) := by
  have hF : x_fr k (k + 10) ws ws := x_fr.rf
  obtain ⟨q0, qt, qp, qs, qa⟩ := id hp
  obtain ⟨fsTq, htoq⟩ := qt.obj
  obtain ⟨fsPq, hpoq⟩ := qp.obj
  refine x_enter (by decide) rfl (Nat.le_of_ble_eq_true rfl) (fun p e s m args below meth c ls hx hb hr hlk hml hown hnm hts hK hP hD hS hA hN hl => ?_)
  have hl : lv_has ls 3 [(0, .ref (ad k)), (1, .int kk), (2, .int (nI (12 - d)))] := hl
  refine lv_aload_n hx hb dP_plainTerm_0 rfl (lv_at hl 0 rfl) ?_
  refine lv_dup hx hb dP_plainTerm_1 rfl ?_
  refine va_get (D := D) (cl := xCl) (ci := 1) (v := .int (nI st.1)) (C := rnP) (T := tbP) (N := 5) hx hb hts inP hown hK hP k q0 rfl 3 (by decide) (hts _ tw_100) (fun _ h9 => h9) rfl dP_plainTerm_2 ?_
  refine lv_iconst (v := 1) hx hb dP_plainTerm_5 (by decide) ?_
  refine lv_iadd hx hb dP_plainTerm_6 ?_
  refine lv_topi (fun v_1 ev_1 => ?_)
  refine va_put (D := D) (cl := xCl) (ci := 1) (v := .int v_1) (ty := .int) (C := rnP) (T := tbP) (N := 5) hx hb hts inP tyP toP nmP hown hK hP hD hS k q0 rfl 3 (by decide) (hts _ tw_100) (fun _ h9 => h9) rfl (by decide +kernel) rfl rfl (Nat.le_of_ble_eq_true rfl) dP_plainTerm_7 (fun H locs hP hD hS => ?_)
  obtain ⟨ws_3, hu_2, hP, hD⟩ := x_gen q0 hP hD
  have h_4 : ws_3[k]? = some (ad k, .inr (1, [.ref (ad (k + 1)), .ref (ad (k + 5)), .ref (ad (k + 9)), .int v_1, .int (nI st.2.2.2)])) := hu_2.1
  have h_5 := (hu_2.2 (k + 1) (by omega)).trans htoq
  have h_6 := (hu_2.2 (k + 5) (by omega)).trans hpoq
  have h_7 := (hu_2.2 (k + 9) (by omega)).trans qs
  have hp := hp.adv hu_2 ev_1 (hkn)
  have hF := hF.tr (hu_2.fr (a := k) (b := k + 10) (by omega) (by omega))
  obtain ⟨q_80, q_8t, q_8p, q_8s, q_8a⟩ := id hp
  obtain ⟨fsTq_8, htoq_8⟩ := q_8t.obj
  obtain ⟨fsPq_8, hpoq_8⟩ := q_8p.obj
  refine lv_aload_n hx hb dP_plainTerm_10 rfl (lv_at hl 0 rfl) ?_
  refine lv_bipush (v := 40) hx hb dP_plainTerm_11 (by decide) ?_
  refine x_calli (x_runV (n := 1) (As := [.int 40]) (rest := []) ⟨hx, hb, hml, hown, hts⟩ (cP_take l D tys A ws_3 cI hI ad k T ((pAdv st)) 40 (by decide) hp) tw_354 tw_356 ts_P_take tw_4 tw_357 (by decide +kernel) rfl rfl (xR_ok (by omega) (by omega)) ⟨Nat.zero_le _, Nat.zero_le _⟩ (va_recv hK hP (ci := 1) (q0 := k) rfl q_80) hK hP hD hS hA hN rfl hl.1 rfl (lv_room (Nat.le_of_ble_eq_true rfl)) dP_plainTerm_13) hS (fun rb_10 ws_11 H locs hb_9 hP hD hS => ?_)
  obtain ⟨hb_9, hF9, hp⟩ := hb_9
  have hF := hF.tr hF9
  obtain ⟨q_120, q_12t, q_12p, q_12s, q_12a⟩ := id hp
  obtain ⟨fsTq_12, htoq_12⟩ := q_12t.obj
  obtain ⟨fsPq_12, hpoq_12⟩ := q_12p.obj
  refine lv_if_eq (tgt := 27) hx hb dP_plainTerm_16 (by decide) (fun c16 => ?_) (fun c16 => ?_)
  · refine lv_iconst (v := 0) hx hb dP_plainTerm_27 (by decide) ?_
    exact x_zret hx hb hr rfl hlk hK hP hD hS dP_plainTerm_28 ⟨(by have nc16 : ¬ (pTake T 40 ((pAdv st))).1 = true := (by have q := b2i_0.mp (by rw [← hb_9]; exact c16); rw [q]; decide); unfold pPlain; rw [if_neg nc16]; rfl), hF, (by have nc16 : ¬ (pTake T 40 ((pAdv st))).1 = true := (by have q := b2i_0.mp (by rw [← hb_9]; exact c16); rw [q]; decide); unfold pPlain; rw [if_neg nc16]; exact hp)⟩
  · refine lv_aload_n hx hb dP_plainTerm_19 rfl (lv_at hl 0 rfl) ?_
    refine lv_iload_n hx hb dP_plainTerm_20 rfl (lv_at hl 2 rfl) ?_
    refine x_calli (x_runV (n := 1) (As := [.int (nI (12 - d))]) (rest := []) ⟨hx, hb, hml, hown, hts⟩ (HS ws_11 ((pTake T 40 ((pAdv st))).2) hp) tw_321 tw_323 ts_P_sum tw_4 tw_324 (by decide +kernel) rfl rfl (xR_ok (by omega) (by omega)) ⟨Nat.zero_le _, Nat.zero_le _⟩ (va_recv hK hP (ci := 1) (q0 := k) rfl q_120) hK hP hD hS hA hN rfl hl.1 rfl (lv_room (Nat.le_of_ble_eq_true rfl)) dP_plainTerm_21) hS (fun rb_14 ws_15 H locs hb_13 hP hD hS => ?_)
    obtain ⟨hb_13, hF9, hp⟩ := hb_13
    have hF := hF.tr hF9
    obtain ⟨q_160, q_16t, q_16p, q_16s, q_16a⟩ := id hp
    obtain ⟨fsTq_16, htoq_16⟩ := q_16t.obj
    obtain ⟨fsPq_16, hpoq_16⟩ := q_16p.obj
    refine lv_if_ne (tgt := 29) hx hb dP_plainTerm_24 (by decide) (fun c24 => ?_) (fun c24 => ?_)
    · refine lv_aload_n hx hb dP_plainTerm_29 rfl (lv_at hl 0 rfl) ?_
      refine lv_iload_n hx hb dP_plainTerm_30 rfl (lv_at hl 1 rfl) ?_
      refine lv_iconst (v := 0) hx hb dP_plainTerm_31 (by decide) ?_
      refine x_callv (x_runV (n := 2) (As := [.int kk, .int 0]) (rest := []) ⟨hx, hb, hml, hown, hts⟩ (cP_emit l D tys A ws_15 cI hI ad k T ((pSum T (pTerm T d) ((pTake T 40 ((pAdv st))).2)).2) kk 0 hp) tw_337 tw_339 ts_P_emit tw_4 tw_340 (by decide +kernel) rfl rfl (xR_ok (by omega) (by omega)) ⟨Nat.zero_le _, Nat.zero_le _⟩ (va_recv hK hP (ci := 1) (q0 := k) rfl q_160) hK hP hD hS hA hN rfl hl.1 rfl (lv_room (Nat.le_of_ble_eq_true rfl)) dP_plainTerm_32) hS (fun ws_18 H locs hv_17 hP hD hS => ?_)
      obtain ⟨hF9, hp⟩ := hv_17
      have hF := hF.tr hF9
      obtain ⟨q_190, q_19t, q_19p, q_19s, q_19a⟩ := id hp
      obtain ⟨fsTq_19, htoq_19⟩ := q_19t.obj
      obtain ⟨fsPq_19, hpoq_19⟩ := q_19p.obj
      refine lv_aload_n hx hb dP_plainTerm_35 rfl (lv_at hl 0 rfl) ?_
      refine lv_bipush (v := 41) hx hb dP_plainTerm_36 (by decide) ?_
      refine x_calli (x_runV (n := 1) (As := [.int 41]) (rest := []) ⟨hx, hb, hml, hown, hts⟩ (cP_take l D tys A ws_18 cI hI ad k T ((pEmit T kk 0 ((pSum T (pTerm T d) ((pTake T 40 ((pAdv st))).2)).2))) 41 (by decide) hp) tw_354 tw_356 ts_P_take tw_4 tw_357 (by decide +kernel) rfl rfl (xR_ok (by omega) (by omega)) ⟨Nat.zero_le _, Nat.zero_le _⟩ (va_recv hK hP (ci := 1) (q0 := k) rfl q_190) hK hP hD hS hA hN rfl hl.1 rfl (lv_room (Nat.le_of_ble_eq_true rfl)) dP_plainTerm_38) hS (fun rb_21 ws_22 H locs hb_20 hP hD hS => ?_)
      obtain ⟨hb_20, hF9, hp⟩ := hb_20
      have hF := hF.tr hF9
      obtain ⟨q_230, q_23t, q_23p, q_23s, q_23a⟩ := id hp
      obtain ⟨fsTq_23, htoq_23⟩ := q_23t.obj
      obtain ⟨fsPq_23, hpoq_23⟩ := q_23p.obj
      exact x_zret hx hb hr (by rw [hb_20]; exact b2i_nar _) hlk hK hP hD hS dP_plainTerm_41 ⟨(by have nc16 : (pTake T 40 ((pAdv st))).1 = true := b2i_n0.mp (by rw [← hb_9]; exact c16); have nc24 : (pSum T (pTerm T d) ((pTake T 40 ((pAdv st))).2)).1 = true := b2i_n0.mp (by rw [← hb_13]; exact c24); unfold pPlain; rw [if_pos nc16, if_pos nc24]; unfold pEnd; exact hb_20), hF, (by have nc16 : (pTake T 40 ((pAdv st))).1 = true := b2i_n0.mp (by rw [← hb_9]; exact c16); have nc24 : (pSum T (pTerm T d) ((pTake T 40 ((pAdv st))).2)).1 = true := b2i_n0.mp (by rw [← hb_13]; exact c24); unfold pPlain; rw [if_pos nc16, if_pos nc24]; unfold pEnd; exact hp)⟩
    · refine lv_iconst (v := 0) hx hb dP_plainTerm_27 (by decide) ?_
      exact x_zret hx hb hr rfl hlk hK hP hD hS dP_plainTerm_28 ⟨(by have nc16 : (pTake T 40 ((pAdv st))).1 = true := b2i_n0.mp (by rw [← hb_9]; exact c16); have nc24 : ¬ (pSum T (pTerm T d) ((pTake T 40 ((pAdv st))).2)).1 = true := (by have q := b2i_0.mp (by rw [← hb_13]; exact c24); rw [q]; decide); unfold pPlain; rw [if_pos nc16, if_neg nc24]; rfl), hF, (by have nc16 : (pTake T 40 ((pAdv st))).1 = true := b2i_n0.mp (by rw [← hb_9]; exact c16); have nc24 : ¬ (pSum T (pTerm T d) ((pTake T 40 ((pAdv st))).2)).1 = true := (by have q := b2i_0.mp (by rw [← hb_13]; exact c24); rw [q]; decide); unfold pPlain; rw [if_pos nc16, if_neg nc24]; exact hp)⟩

set_option maxHeartbeats 4000000 in
set_option maxRecDepth 100000 in
/-- Parser.wayTerm(within) -/
theorem cP_wayTerm (l : Launch) (D : va_G) (tys : List (ClassId × FieldType)) (A : Nat → Prop) (cI : ClassId) (hI : tys[0]? = some (cI, .int)) (ad : Nat → Nat) (k : Nat) (T : List Tok) (d : Nat) (HS : SumC l D tys A cI ad k T d) (hd : d < 12) (ws : va_W) (st : PSt) (hkn : ¬ (tkAt T st).1 = 0) (hp : ParserAt cI ad ws k T st) : x_Mi l yP_wayTerm wP_wayTerm (xR (3 * d + 4)) D xCl tys A [.ref (ad k), .int (nI (12 - d))] ws (fun r ws1 => r = b2i (pWay T (pSum T (pTerm T d)) st).1 ∧ x_fr k (k + 10) ws ws1 ∧ ParserAt cI ad ws1 k T (pWay T (pSum T (pTerm T d)) st).2) := by
  have hF : x_fr k (k + 10) ws ws := x_fr.rf
  obtain ⟨q0, qt, qp, qs, qa⟩ := id hp
  obtain ⟨fsTq, htoq⟩ := qt.obj
  obtain ⟨fsPq, hpoq⟩ := qp.obj
  refine x_enter (by decide) rfl (Nat.le_of_ble_eq_true rfl) (fun p e s m args below meth c ls hx hb hr hlk hml hown hnm hts hK hP hD hS hA hN hl => ?_)
  have hl : lv_has ls 2 [(0, .ref (ad k)), (1, .int (nI (12 - d)))] := hl
  refine lv_aload_n hx hb dP_wayTerm_0 rfl (lv_at hl 0 rfl) ?_
  refine lv_dup hx hb dP_wayTerm_1 rfl ?_
  refine va_get (D := D) (cl := xCl) (ci := 1) (v := .int (nI st.1)) (C := rnP) (T := tbP) (N := 5) hx hb hts inP hown hK hP k q0 rfl 3 (by decide) (hts _ tw_100) (fun _ h9 => h9) rfl dP_wayTerm_2 ?_
  refine lv_iconst (v := 1) hx hb dP_wayTerm_5 (by decide) ?_
  refine lv_iadd hx hb dP_wayTerm_6 ?_
  refine lv_topi (fun v_1 ev_1 => ?_)
  refine va_put (D := D) (cl := xCl) (ci := 1) (v := .int v_1) (ty := .int) (C := rnP) (T := tbP) (N := 5) hx hb hts inP tyP toP nmP hown hK hP hD hS k q0 rfl 3 (by decide) (hts _ tw_100) (fun _ h9 => h9) rfl (by decide +kernel) rfl rfl (Nat.le_of_ble_eq_true rfl) dP_wayTerm_7 (fun H locs hP hD hS => ?_)
  obtain ⟨ws_3, hu_2, hP, hD⟩ := x_gen q0 hP hD
  have h_4 : ws_3[k]? = some (ad k, .inr (1, [.ref (ad (k + 1)), .ref (ad (k + 5)), .ref (ad (k + 9)), .int v_1, .int (nI st.2.2.2)])) := hu_2.1
  have h_5 := (hu_2.2 (k + 1) (by omega)).trans htoq
  have h_6 := (hu_2.2 (k + 5) (by omega)).trans hpoq
  have h_7 := (hu_2.2 (k + 9) (by omega)).trans qs
  have hp := hp.adv hu_2 ev_1 (hkn)
  have hF := hF.tr (hu_2.fr (a := k) (b := k + 10) (by omega) (by omega))
  obtain ⟨q_80, q_8t, q_8p, q_8s, q_8a⟩ := id hp
  obtain ⟨fsTq_8, htoq_8⟩ := q_8t.obj
  obtain ⟨fsPq_8, hpoq_8⟩ := q_8p.obj
  refine lv_aload_n hx hb dP_wayTerm_10 rfl (lv_at hl 0 rfl) ?_
  refine lv_bipush (v := 40) hx hb dP_wayTerm_11 (by decide) ?_
  refine x_calli (x_runV (n := 1) (As := [.int 40]) (rest := []) ⟨hx, hb, hml, hown, hts⟩ (cP_take l D tys A ws_3 cI hI ad k T ((pAdv st)) 40 (by decide) hp) tw_354 tw_356 ts_P_take tw_4 tw_357 (by decide +kernel) rfl rfl (xR_ok (by omega) (by omega)) ⟨Nat.zero_le _, Nat.zero_le _⟩ (va_recv hK hP (ci := 1) (q0 := k) rfl q_80) hK hP hD hS hA hN rfl hl.1 rfl (lv_room (Nat.le_of_ble_eq_true rfl)) dP_wayTerm_13) hS (fun rb_10 ws_11 H locs hb_9 hP hD hS => ?_)
  obtain ⟨hb_9, hF9, hp⟩ := hb_9
  have hF := hF.tr hF9
  obtain ⟨q_120, q_12t, q_12p, q_12s, q_12a⟩ := id hp
  obtain ⟨fsTq_12, htoq_12⟩ := q_12t.obj
  obtain ⟨fsPq_12, hpoq_12⟩ := q_12p.obj
  refine lv_if_eq (tgt := 44) hx hb dP_wayTerm_16 (by decide) (fun c16 => ?_) (fun c16 => ?_)
  · refine lv_iconst (v := 0) hx hb dP_wayTerm_44 (by decide) ?_
    exact x_zret hx hb hr rfl hlk hK hP hD hS dP_wayTerm_45 ⟨(by have nc16 : ¬ (pTake T 40 ((pAdv st))).1 = true := (by have q := b2i_0.mp (by rw [← hb_9]; exact c16); rw [q]; decide); unfold pWay; rw [if_neg nc16]; rfl), hF, (by have nc16 : ¬ (pTake T 40 ((pAdv st))).1 = true := (by have q := b2i_0.mp (by rw [← hb_9]; exact c16); rw [q]; decide); unfold pWay; rw [if_neg nc16]; exact hp)⟩
  · refine lv_aload_n hx hb dP_wayTerm_19 rfl (lv_at hl 0 rfl) ?_
    refine lv_iload_n hx hb dP_wayTerm_20 rfl (lv_at hl 1 rfl) ?_
    refine x_calli (x_runV (n := 1) (As := [.int (nI (12 - d))]) (rest := []) ⟨hx, hb, hml, hown, hts⟩ (HS ws_11 ((pTake T 40 ((pAdv st))).2) hp) tw_321 tw_323 ts_P_sum tw_4 tw_324 (by decide +kernel) rfl rfl (xR_ok (by omega) (by omega)) ⟨Nat.zero_le _, Nat.zero_le _⟩ (va_recv hK hP (ci := 1) (q0 := k) rfl q_120) hK hP hD hS hA hN rfl hl.1 rfl (lv_room (Nat.le_of_ble_eq_true rfl)) dP_wayTerm_21) hS (fun rb_14 ws_15 H locs hb_13 hP hD hS => ?_)
    obtain ⟨hb_13, hF9, hp⟩ := hb_13
    have hF := hF.tr hF9
    obtain ⟨q_160, q_16t, q_16p, q_16s, q_16a⟩ := id hp
    obtain ⟨fsTq_16, htoq_16⟩ := q_16t.obj
    obtain ⟨fsPq_16, hpoq_16⟩ := q_16p.obj
    refine lv_if_eq (tgt := 44) hx hb dP_wayTerm_24 (by decide) (fun c24 => ?_) (fun c24 => ?_)
    · refine lv_iconst (v := 0) hx hb dP_wayTerm_44 (by decide) ?_
      exact x_zret hx hb hr rfl hlk hK hP hD hS dP_wayTerm_45 ⟨(by have nc16 : (pTake T 40 ((pAdv st))).1 = true := b2i_n0.mp (by rw [← hb_9]; exact c16); have nc24 : ¬ (pSum T (pTerm T d) ((pTake T 40 ((pAdv st))).2)).1 = true := (by have q := b2i_0.mp (by rw [← hb_13]; exact c24); rw [q]; decide); unfold pWay; rw [if_pos nc16, if_neg nc24]; rfl), hF, (by have nc16 : (pTake T 40 ((pAdv st))).1 = true := b2i_n0.mp (by rw [← hb_9]; exact c16); have nc24 : ¬ (pSum T (pTerm T d) ((pTake T 40 ((pAdv st))).2)).1 = true := (by have q := b2i_0.mp (by rw [← hb_13]; exact c24); rw [q]; decide); unfold pWay; rw [if_pos nc16, if_neg nc24]; exact hp)⟩
    · refine lv_aload_n hx hb dP_wayTerm_27 rfl (lv_at hl 0 rfl) ?_
      refine lv_bipush (v := 44) hx hb dP_wayTerm_28 (by decide) ?_
      refine x_calli (x_runV (n := 1) (As := [.int 44]) (rest := []) ⟨hx, hb, hml, hown, hts⟩ (cP_take l D tys A ws_15 cI hI ad k T ((pSum T (pTerm T d) ((pTake T 40 ((pAdv st))).2)).2) 44 (by decide) hp) tw_354 tw_356 ts_P_take tw_4 tw_357 (by decide +kernel) rfl rfl (xR_ok (by omega) (by omega)) ⟨Nat.zero_le _, Nat.zero_le _⟩ (va_recv hK hP (ci := 1) (q0 := k) rfl q_160) hK hP hD hS hA hN rfl hl.1 rfl (lv_room (Nat.le_of_ble_eq_true rfl)) dP_wayTerm_30) hS (fun rb_18 ws_19 H locs hb_17 hP hD hS => ?_)
      obtain ⟨hb_17, hF9, hp⟩ := hb_17
      have hF := hF.tr hF9
      obtain ⟨q_200, q_20t, q_20p, q_20s, q_20a⟩ := id hp
      obtain ⟨fsTq_20, htoq_20⟩ := q_20t.obj
      obtain ⟨fsPq_20, hpoq_20⟩ := q_20p.obj
      refine lv_if_eq (tgt := 44) hx hb dP_wayTerm_33 (by decide) (fun c33 => ?_) (fun c33 => ?_)
      · refine lv_iconst (v := 0) hx hb dP_wayTerm_44 (by decide) ?_
        exact x_zret hx hb hr rfl hlk hK hP hD hS dP_wayTerm_45 ⟨(by have nc16 : (pTake T 40 ((pAdv st))).1 = true := b2i_n0.mp (by rw [← hb_9]; exact c16); have nc24 : (pSum T (pTerm T d) ((pTake T 40 ((pAdv st))).2)).1 = true := b2i_n0.mp (by rw [← hb_13]; exact c24); have nc33 : ¬ (pTake T 44 ((pSum T (pTerm T d) ((pTake T 40 ((pAdv st))).2)).2)).1 = true := (by have q := b2i_0.mp (by rw [← hb_17]; exact c33); rw [q]; decide); unfold pWay; rw [if_pos nc16, if_pos nc24, if_neg nc33]; rfl), hF, (by have nc16 : (pTake T 40 ((pAdv st))).1 = true := b2i_n0.mp (by rw [← hb_9]; exact c16); have nc24 : (pSum T (pTerm T d) ((pTake T 40 ((pAdv st))).2)).1 = true := b2i_n0.mp (by rw [← hb_13]; exact c24); have nc33 : ¬ (pTake T 44 ((pSum T (pTerm T d) ((pTake T 40 ((pAdv st))).2)).2)).1 = true := (by have q := b2i_0.mp (by rw [← hb_17]; exact c33); rw [q]; decide); unfold pWay; rw [if_pos nc16, if_pos nc24, if_neg nc33]; exact hp)⟩
      · refine lv_aload_n hx hb dP_wayTerm_36 rfl (lv_at hl 0 rfl) ?_
        refine lv_iload_n hx hb dP_wayTerm_37 rfl (lv_at hl 1 rfl) ?_
        refine x_calli (x_runV (n := 1) (As := [.int (nI (12 - d))]) (rest := []) ⟨hx, hb, hml, hown, hts⟩ (HS ws_19 ((pTake T 44 ((pSum T (pTerm T d) ((pTake T 40 ((pAdv st))).2)).2)).2) hp) tw_321 tw_323 ts_P_sum tw_4 tw_324 (by decide +kernel) rfl rfl (xR_ok (by omega) (by omega)) ⟨Nat.zero_le _, Nat.zero_le _⟩ (va_recv hK hP (ci := 1) (q0 := k) rfl q_200) hK hP hD hS hA hN rfl hl.1 rfl (lv_room (Nat.le_of_ble_eq_true rfl)) dP_wayTerm_38) hS (fun rb_22 ws_23 H locs hb_21 hP hD hS => ?_)
        obtain ⟨hb_21, hF9, hp⟩ := hb_21
        have hF := hF.tr hF9
        obtain ⟨q_240, q_24t, q_24p, q_24s, q_24a⟩ := id hp
        obtain ⟨fsTq_24, htoq_24⟩ := q_24t.obj
        obtain ⟨fsPq_24, hpoq_24⟩ := q_24p.obj
        refine lv_if_ne (tgt := 46) hx hb dP_wayTerm_41 (by decide) (fun c41 => ?_) (fun c41 => ?_)
        · refine lv_aload_n hx hb dP_wayTerm_46 rfl (lv_at hl 0 rfl) ?_
          refine lv_bipush (v := 8) hx hb dP_wayTerm_47 (by decide) ?_
          refine lv_iconst (v := 0) hx hb dP_wayTerm_49 (by decide) ?_
          refine x_callv (x_runV (n := 2) (As := [.int 8, .int 0]) (rest := []) ⟨hx, hb, hml, hown, hts⟩ (cP_emit l D tys A ws_23 cI hI ad k T ((pSum T (pTerm T d) ((pTake T 44 ((pSum T (pTerm T d) ((pTake T 40 ((pAdv st))).2)).2)).2)).2) 8 0 hp) tw_337 tw_339 ts_P_emit tw_4 tw_340 (by decide +kernel) rfl rfl (xR_ok (by omega) (by omega)) ⟨Nat.zero_le _, Nat.zero_le _⟩ (va_recv hK hP (ci := 1) (q0 := k) rfl q_240) hK hP hD hS hA hN rfl hl.1 rfl (lv_room (Nat.le_of_ble_eq_true rfl)) dP_wayTerm_50) hS (fun ws_26 H locs hv_25 hP hD hS => ?_)
          obtain ⟨hF9, hp⟩ := hv_25
          have hF := hF.tr hF9
          obtain ⟨q_270, q_27t, q_27p, q_27s, q_27a⟩ := id hp
          obtain ⟨fsTq_27, htoq_27⟩ := q_27t.obj
          obtain ⟨fsPq_27, hpoq_27⟩ := q_27p.obj
          refine lv_aload_n hx hb dP_wayTerm_53 rfl (lv_at hl 0 rfl) ?_
          refine lv_bipush (v := 41) hx hb dP_wayTerm_54 (by decide) ?_
          refine x_calli (x_runV (n := 1) (As := [.int 41]) (rest := []) ⟨hx, hb, hml, hown, hts⟩ (cP_take l D tys A ws_26 cI hI ad k T ((pEmit T 8 0 ((pSum T (pTerm T d) ((pTake T 44 ((pSum T (pTerm T d) ((pTake T 40 ((pAdv st))).2)).2)).2)).2))) 41 (by decide) hp) tw_354 tw_356 ts_P_take tw_4 tw_357 (by decide +kernel) rfl rfl (xR_ok (by omega) (by omega)) ⟨Nat.zero_le _, Nat.zero_le _⟩ (va_recv hK hP (ci := 1) (q0 := k) rfl q_270) hK hP hD hS hA hN rfl hl.1 rfl (lv_room (Nat.le_of_ble_eq_true rfl)) dP_wayTerm_56) hS (fun rb_29 ws_30 H locs hb_28 hP hD hS => ?_)
          obtain ⟨hb_28, hF9, hp⟩ := hb_28
          have hF := hF.tr hF9
          obtain ⟨q_310, q_31t, q_31p, q_31s, q_31a⟩ := id hp
          obtain ⟨fsTq_31, htoq_31⟩ := q_31t.obj
          obtain ⟨fsPq_31, hpoq_31⟩ := q_31p.obj
          exact x_zret hx hb hr (by rw [hb_28]; exact b2i_nar _) hlk hK hP hD hS dP_wayTerm_59 ⟨(by have nc16 : (pTake T 40 ((pAdv st))).1 = true := b2i_n0.mp (by rw [← hb_9]; exact c16); have nc24 : (pSum T (pTerm T d) ((pTake T 40 ((pAdv st))).2)).1 = true := b2i_n0.mp (by rw [← hb_13]; exact c24); have nc33 : (pTake T 44 ((pSum T (pTerm T d) ((pTake T 40 ((pAdv st))).2)).2)).1 = true := b2i_n0.mp (by rw [← hb_17]; exact c33); have nc41 : (pSum T (pTerm T d) ((pTake T 44 ((pSum T (pTerm T d) ((pTake T 40 ((pAdv st))).2)).2)).2)).1 = true := b2i_n0.mp (by rw [← hb_21]; exact c41); unfold pWay; rw [if_pos nc16, if_pos nc24, if_pos nc33, if_pos nc41]; unfold pEnd; exact hb_28), hF, (by have nc16 : (pTake T 40 ((pAdv st))).1 = true := b2i_n0.mp (by rw [← hb_9]; exact c16); have nc24 : (pSum T (pTerm T d) ((pTake T 40 ((pAdv st))).2)).1 = true := b2i_n0.mp (by rw [← hb_13]; exact c24); have nc33 : (pTake T 44 ((pSum T (pTerm T d) ((pTake T 40 ((pAdv st))).2)).2)).1 = true := b2i_n0.mp (by rw [← hb_17]; exact c33); have nc41 : (pSum T (pTerm T d) ((pTake T 44 ((pSum T (pTerm T d) ((pTake T 40 ((pAdv st))).2)).2)).2)).1 = true := b2i_n0.mp (by rw [← hb_21]; exact c41); unfold pWay; rw [if_pos nc16, if_pos nc24, if_pos nc33, if_pos nc41]; unfold pEnd; exact hp)⟩
        · refine lv_iconst (v := 0) hx hb dP_wayTerm_44 (by decide) ?_
          exact x_zret hx hb hr rfl hlk hK hP hD hS dP_wayTerm_45 ⟨(by have nc16 : (pTake T 40 ((pAdv st))).1 = true := b2i_n0.mp (by rw [← hb_9]; exact c16); have nc24 : (pSum T (pTerm T d) ((pTake T 40 ((pAdv st))).2)).1 = true := b2i_n0.mp (by rw [← hb_13]; exact c24); have nc33 : (pTake T 44 ((pSum T (pTerm T d) ((pTake T 40 ((pAdv st))).2)).2)).1 = true := b2i_n0.mp (by rw [← hb_17]; exact c33); have nc41 : ¬ (pSum T (pTerm T d) ((pTake T 44 ((pSum T (pTerm T d) ((pTake T 40 ((pAdv st))).2)).2)).2)).1 = true := (by have q := b2i_0.mp (by rw [← hb_21]; exact c41); rw [q]; decide); unfold pWay; rw [if_pos nc16, if_pos nc24, if_pos nc33, if_neg nc41]; rfl), hF, (by have nc16 : (pTake T 40 ((pAdv st))).1 = true := b2i_n0.mp (by rw [← hb_9]; exact c16); have nc24 : (pSum T (pTerm T d) ((pTake T 40 ((pAdv st))).2)).1 = true := b2i_n0.mp (by rw [← hb_13]; exact c24); have nc33 : (pTake T 44 ((pSum T (pTerm T d) ((pTake T 40 ((pAdv st))).2)).2)).1 = true := b2i_n0.mp (by rw [← hb_17]; exact c33); have nc41 : ¬ (pSum T (pTerm T d) ((pTake T 44 ((pSum T (pTerm T d) ((pTake T 40 ((pAdv st))).2)).2)).2)).1 = true := (by have q := b2i_0.mp (by rw [← hb_21]; exact c41); rw [q]; decide); unfold pWay; rw [if_pos nc16, if_pos nc24, if_pos nc33, if_neg nc41]; exact hp)⟩

set_option maxHeartbeats 4000000 in
set_option maxRecDepth 100000 in
/-- Parser.kindTerm(within) -/
theorem cP_kindTerm (l : Launch) (D : va_G) (tys : List (ClassId × FieldType)) (A : Nat → Prop) (cI : ClassId) (hI : tys[0]? = some (cI, .int)) (ad : Nat → Nat) (k : Nat) (T : List Tok) (d : Nat) (HS : SumC l D tys A cI ad k T d) (hd : d < 12) (ws : va_W) (st : PSt) (hkn : ¬ (tkAt T st).1 = 0) (hp : ParserAt cI ad ws k T st) : x_Mi l yP_kindTerm wP_kindTerm (xR (3 * d + 4)) D xCl tys A [.ref (ad k), .int (nI (12 - d))] ws (fun r ws1 => r = b2i (pKind T (pSum T (pTerm T d)) st).1 ∧ x_fr k (k + 10) ws ws1 ∧ ParserAt cI ad ws1 k T (pKind T (pSum T (pTerm T d)) st).2) := by
  have hF : x_fr k (k + 10) ws ws := x_fr.rf
  obtain ⟨q0, qt, qp, qs, qa⟩ := id hp
  obtain ⟨fsTq, htoq⟩ := qt.obj
  obtain ⟨fsPq, hpoq⟩ := qp.obj
  refine x_enter (by decide) rfl (Nat.le_of_ble_eq_true rfl) (fun p e s m args below meth c ls hx hb hr hlk hml hown hnm hts hK hP hD hS hA hN hl => ?_)
  have hl : lv_has ls 3 [(0, .ref (ad k)), (1, .int (nI (12 - d)))] := hl
  refine lv_aload_n hx hb dP_kindTerm_0 rfl (lv_at hl 0 rfl) ?_
  refine lv_dup hx hb dP_kindTerm_1 rfl ?_
  refine va_get (D := D) (cl := xCl) (ci := 1) (v := .int (nI st.1)) (C := rnP) (T := tbP) (N := 5) hx hb hts inP hown hK hP k q0 rfl 3 (by decide) (hts _ tw_100) (fun _ h9 => h9) rfl dP_kindTerm_2 ?_
  refine lv_iconst (v := 1) hx hb dP_kindTerm_5 (by decide) ?_
  refine lv_iadd hx hb dP_kindTerm_6 ?_
  refine lv_topi (fun v_1 ev_1 => ?_)
  refine va_put (D := D) (cl := xCl) (ci := 1) (v := .int v_1) (ty := .int) (C := rnP) (T := tbP) (N := 5) hx hb hts inP tyP toP nmP hown hK hP hD hS k q0 rfl 3 (by decide) (hts _ tw_100) (fun _ h9 => h9) rfl (by decide +kernel) rfl rfl (Nat.le_of_ble_eq_true rfl) dP_kindTerm_7 (fun H locs hP hD hS => ?_)
  obtain ⟨ws_3, hu_2, hP, hD⟩ := x_gen q0 hP hD
  have h_4 : ws_3[k]? = some (ad k, .inr (1, [.ref (ad (k + 1)), .ref (ad (k + 5)), .ref (ad (k + 9)), .int v_1, .int (nI st.2.2.2)])) := hu_2.1
  have h_5 := (hu_2.2 (k + 1) (by omega)).trans htoq
  have h_6 := (hu_2.2 (k + 5) (by omega)).trans hpoq
  have h_7 := (hu_2.2 (k + 9) (by omega)).trans qs
  have hp := hp.adv hu_2 ev_1 (hkn)
  have hF := hF.tr (hu_2.fr (a := k) (b := k + 10) (by omega) (by omega))
  obtain ⟨q_80, q_8t, q_8p, q_8s, q_8a⟩ := id hp
  obtain ⟨fsTq_8, htoq_8⟩ := q_8t.obj
  obtain ⟨fsPq_8, hpoq_8⟩ := q_8p.obj
  refine lv_aload_n hx hb dP_kindTerm_10 rfl (lv_at hl 0 rfl) ?_
  refine lv_bipush (v := 40) hx hb dP_kindTerm_11 (by decide) ?_
  refine x_calli (x_runV (n := 1) (As := [.int 40]) (rest := []) ⟨hx, hb, hml, hown, hts⟩ (cP_take l D tys A ws_3 cI hI ad k T ((pAdv st)) 40 (by decide) hp) tw_354 tw_356 ts_P_take tw_4 tw_357 (by decide +kernel) rfl rfl (xR_ok (by omega) (by omega)) ⟨Nat.zero_le _, Nat.zero_le _⟩ (va_recv hK hP (ci := 1) (q0 := k) rfl q_80) hK hP hD hS hA hN rfl hl.1 rfl (lv_room (Nat.le_of_ble_eq_true rfl)) dP_kindTerm_13) hS (fun rb_10 ws_11 H locs hb_9 hP hD hS => ?_)
  obtain ⟨hb_9, hF9, hp⟩ := hb_9
  have hF := hF.tr hF9
  obtain ⟨q_120, q_12t, q_12p, q_12s, q_12a⟩ := id hp
  obtain ⟨fsTq_12, htoq_12⟩ := q_12t.obj
  obtain ⟨fsPq_12, hpoq_12⟩ := q_12p.obj
  refine lv_if_ne (tgt := 21) hx hb dP_kindTerm_16 (by decide) (fun c16 => ?_) (fun c16 => ?_)
  · refine lv_aload_n hx hb dP_kindTerm_21 rfl (lv_at hl 0 rfl) ?_
    refine va_get (D := D) (cl := xCl) (ci := 1) (v := .ref (ad (k + 1))) (C := rnP) (T := tbP) (N := 5) hx hb hts inP hown hK hP k q_120 rfl 0 (by decide) (hts _ tw_97) (fun _ h9 => h9) rfl dP_kindTerm_22 ?_
    refine lv_aload_n hx hb dP_kindTerm_25 rfl (lv_at hl 0 rfl) ?_
    refine va_get (D := D) (cl := xCl) (ci := 1) (v := .int (nI ((pTake T 40 ((pAdv st))).2).1)) (C := rnP) (T := tbP) (N := 5) hx hb hts inP hown hK hP k q_120 rfl 3 (by decide) (hts _ tw_100) (fun _ h9 => h9) rfl dP_kindTerm_26 ?_
    refine x_calli (x_runV (n := 1) (As := [.int (nI ((pTake T 40 ((pAdv st))).2).1)]) (rest := []) ⟨hx, hb, hml, hown, hts⟩ (cT_valueAt l D tys A ws_11 cI hI ad (k + 1) T ((nI ((pTake T 40 ((pAdv st))).2).1)) q_12t) tw_333 tw_334 tw_335 tw_5 tw_336 (by decide +kernel) rfl rfl (xR_ok (by omega) (by omega)) ⟨Nat.zero_le _, Nat.zero_le _⟩ (va_recv hK hP (ci := 4) (q0 := k + 1) rfl htoq_12) hK hP hD hS hA hN rfl hl.1 rfl (lv_room (Nat.le_of_ble_eq_true rfl)) dP_kindTerm_29) hS (fun rvl ws_13 H locs hvl hP hD hS => ?_)
    obtain ⟨hvl, rfl⟩ := hvl
    rw [hp.tk] at hvl
    refine lv_istore_n (lv' := [(2, .int rvl), (0, .ref (ad k)), (1, .int (nI (12 - d)))]) hx hb dP_kindTerm_32 rfl hl (by decide) rfl (fun ls hl => ?_)
    refine lv_aload_n hx hb dP_kindTerm_33 rfl (lv_at hl 1 rfl) ?_
    refine lv_iconst (v := 4) hx hb dP_kindTerm_34 (by decide) ?_
    refine x_calli (x_runV (n := 1) (As := [.int 4]) (rest := []) ⟨hx, hb, hml, hown, hts⟩ (cP_take l D tys A ws_11 cI hI ad k T ((pTake T 40 ((pAdv st))).2) 4 (by decide) hp) tw_354 tw_356 ts_P_take tw_4 tw_357 (by decide +kernel) rfl rfl (xR_ok (by omega) (by omega)) ⟨Nat.zero_le _, Nat.zero_le _⟩ (va_recv hK hP (ci := 1) (q0 := k) rfl q_120) hK hP hD hS hA hN rfl hl.1 rfl (lv_room (Nat.le_of_ble_eq_true rfl)) dP_kindTerm_35) hS (fun rb_15 ws_16 H locs hb_14 hP hD hS => ?_)
    obtain ⟨hb_14, hF9, hp⟩ := hb_14
    have hF := hF.tr hF9
    obtain ⟨q_170, q_17t, q_17p, q_17s, q_17a⟩ := id hp
    obtain ⟨fsTq_17, htoq_17⟩ := q_17t.obj
    obtain ⟨fsPq_17, hpoq_17⟩ := q_17p.obj
    refine lv_if_eq (tgt := 58) hx hb dP_kindTerm_38 (by decide) (fun c38 => ?_) (fun c38 => ?_)
    · refine lv_iconst (v := 0) hx hb dP_kindTerm_58 (by decide) ?_
      exact x_zret hx hb hr rfl hlk hK hP hD hS dP_kindTerm_59 ⟨(by have nc16 : (pTake T 40 ((pAdv st))).1 = true := b2i_n0.mp (by rw [← hb_9]; exact c16); have nc38 : ¬ (pTake T 4 ((pTake T 40 ((pAdv st))).2)).1 = true := (by have q := b2i_0.mp (by rw [← hb_14]; exact c38); rw [q]; decide); unfold pKind; rw [if_pos nc16, if_neg nc38]; rfl), hF, (by have nc16 : (pTake T 40 ((pAdv st))).1 = true := b2i_n0.mp (by rw [← hb_9]; exact c16); have nc38 : ¬ (pTake T 4 ((pTake T 40 ((pAdv st))).2)).1 = true := (by have q := b2i_0.mp (by rw [← hb_14]; exact c38); rw [q]; decide); unfold pKind; rw [if_pos nc16, if_neg nc38]; exact hp)⟩
    · refine lv_aload_n hx hb dP_kindTerm_41 rfl (lv_at hl 1 rfl) ?_
      refine lv_bipush (v := 44) hx hb dP_kindTerm_42 (by decide) ?_
      refine x_calli (x_runV (n := 1) (As := [.int 44]) (rest := []) ⟨hx, hb, hml, hown, hts⟩ (cP_take l D tys A ws_16 cI hI ad k T ((pTake T 4 ((pTake T 40 ((pAdv st))).2)).2) 44 (by decide) hp) tw_354 tw_356 ts_P_take tw_4 tw_357 (by decide +kernel) rfl rfl (xR_ok (by omega) (by omega)) ⟨Nat.zero_le _, Nat.zero_le _⟩ (va_recv hK hP (ci := 1) (q0 := k) rfl q_170) hK hP hD hS hA hN rfl hl.1 rfl (lv_room (Nat.le_of_ble_eq_true rfl)) dP_kindTerm_44) hS (fun rb_19 ws_20 H locs hb_18 hP hD hS => ?_)
      obtain ⟨hb_18, hF9, hp⟩ := hb_18
      have hF := hF.tr hF9
      obtain ⟨q_210, q_21t, q_21p, q_21s, q_21a⟩ := id hp
      obtain ⟨fsTq_21, htoq_21⟩ := q_21t.obj
      obtain ⟨fsPq_21, hpoq_21⟩ := q_21p.obj
      refine lv_if_eq (tgt := 58) hx hb dP_kindTerm_47 (by decide) (fun c47 => ?_) (fun c47 => ?_)
      · refine lv_iconst (v := 0) hx hb dP_kindTerm_58 (by decide) ?_
        exact x_zret hx hb hr rfl hlk hK hP hD hS dP_kindTerm_59 ⟨(by have nc16 : (pTake T 40 ((pAdv st))).1 = true := b2i_n0.mp (by rw [← hb_9]; exact c16); have nc38 : (pTake T 4 ((pTake T 40 ((pAdv st))).2)).1 = true := b2i_n0.mp (by rw [← hb_14]; exact c38); have nc47 : ¬ (pTake T 44 ((pTake T 4 ((pTake T 40 ((pAdv st))).2)).2)).1 = true := (by have q := b2i_0.mp (by rw [← hb_18]; exact c47); rw [q]; decide); unfold pKind; rw [if_pos nc16, if_pos nc38, if_neg nc47]; rfl), hF, (by have nc16 : (pTake T 40 ((pAdv st))).1 = true := b2i_n0.mp (by rw [← hb_9]; exact c16); have nc38 : (pTake T 4 ((pTake T 40 ((pAdv st))).2)).1 = true := b2i_n0.mp (by rw [← hb_14]; exact c38); have nc47 : ¬ (pTake T 44 ((pTake T 4 ((pTake T 40 ((pAdv st))).2)).2)).1 = true := (by have q := b2i_0.mp (by rw [← hb_18]; exact c47); rw [q]; decide); unfold pKind; rw [if_pos nc16, if_pos nc38, if_neg nc47]; exact hp)⟩
      · refine lv_aload_n hx hb dP_kindTerm_50 rfl (lv_at hl 1 rfl) ?_
        refine lv_iload_n hx hb dP_kindTerm_51 rfl (lv_at hl 2 rfl) ?_
        refine x_calli (x_runV (n := 1) (As := [.int (nI (12 - d))]) (rest := []) ⟨hx, hb, hml, hown, hts⟩ (HS ws_20 ((pTake T 44 ((pTake T 4 ((pTake T 40 ((pAdv st))).2)).2)).2) hp) tw_321 tw_323 ts_P_sum tw_4 tw_324 (by decide +kernel) rfl rfl (xR_ok (by omega) (by omega)) ⟨Nat.zero_le _, Nat.zero_le _⟩ (va_recv hK hP (ci := 1) (q0 := k) rfl q_210) hK hP hD hS hA hN rfl hl.1 rfl (lv_room (Nat.le_of_ble_eq_true rfl)) dP_kindTerm_52) hS (fun rb_23 ws_24 H locs hb_22 hP hD hS => ?_)
        obtain ⟨hb_22, hF9, hp⟩ := hb_22
        have hF := hF.tr hF9
        obtain ⟨q_250, q_25t, q_25p, q_25s, q_25a⟩ := id hp
        obtain ⟨fsTq_25, htoq_25⟩ := q_25t.obj
        obtain ⟨fsPq_25, hpoq_25⟩ := q_25p.obj
        refine lv_if_ne (tgt := 60) hx hb dP_kindTerm_55 (by decide) (fun c55 => ?_) (fun c55 => ?_)
        · refine lv_aload_n hx hb dP_kindTerm_60 rfl (lv_at hl 1 rfl) ?_
          refine lv_bipush (v := 9) hx hb dP_kindTerm_61 (by decide) ?_
          refine lv_iload_n hx hb dP_kindTerm_63 rfl (lv_at hl 0 rfl) ?_
          refine x_callv (x_runV (n := 2) (As := [.int 9, .int rvl]) (rest := []) ⟨hx, hb, hml, hown, hts⟩ (cP_emit l D tys A ws_24 cI hI ad k T ((pSum T (pTerm T d) ((pTake T 44 ((pTake T 4 ((pTake T 40 ((pAdv st))).2)).2)).2)).2) 9 rvl hp) tw_337 tw_339 ts_P_emit tw_4 tw_340 (by decide +kernel) rfl rfl (xR_ok (by omega) (by omega)) ⟨Nat.zero_le _, Nat.zero_le _⟩ (va_recv hK hP (ci := 1) (q0 := k) rfl q_250) hK hP hD hS hA hN rfl hl.1 rfl (lv_room (Nat.le_of_ble_eq_true rfl)) dP_kindTerm_64) hS (fun ws_27 H locs hv_26 hP hD hS => ?_)
          obtain ⟨hF9, hp⟩ := hv_26
          have hF := hF.tr hF9
          obtain ⟨q_280, q_28t, q_28p, q_28s, q_28a⟩ := id hp
          obtain ⟨fsTq_28, htoq_28⟩ := q_28t.obj
          obtain ⟨fsPq_28, hpoq_28⟩ := q_28p.obj
          refine lv_aload_n hx hb dP_kindTerm_67 rfl (lv_at hl 1 rfl) ?_
          refine lv_bipush (v := 41) hx hb dP_kindTerm_68 (by decide) ?_
          refine x_calli (x_runV (n := 1) (As := [.int 41]) (rest := []) ⟨hx, hb, hml, hown, hts⟩ (cP_take l D tys A ws_27 cI hI ad k T ((pEmit T 9 rvl ((pSum T (pTerm T d) ((pTake T 44 ((pTake T 4 ((pTake T 40 ((pAdv st))).2)).2)).2)).2))) 41 (by decide) hp) tw_354 tw_356 ts_P_take tw_4 tw_357 (by decide +kernel) rfl rfl (xR_ok (by omega) (by omega)) ⟨Nat.zero_le _, Nat.zero_le _⟩ (va_recv hK hP (ci := 1) (q0 := k) rfl q_280) hK hP hD hS hA hN rfl hl.1 rfl (lv_room (Nat.le_of_ble_eq_true rfl)) dP_kindTerm_70) hS (fun rb_30 ws_31 H locs hb_29 hP hD hS => ?_)
          obtain ⟨hb_29, hF9, hp⟩ := hb_29
          have hF := hF.tr hF9
          obtain ⟨q_320, q_32t, q_32p, q_32s, q_32a⟩ := id hp
          obtain ⟨fsTq_32, htoq_32⟩ := q_32t.obj
          obtain ⟨fsPq_32, hpoq_32⟩ := q_32p.obj
          exact x_zret hx hb hr (by rw [hb_29]; exact b2i_nar _) hlk hK hP hD hS dP_kindTerm_73 ⟨(by have nc16 : (pTake T 40 ((pAdv st))).1 = true := b2i_n0.mp (by rw [← hb_9]; exact c16); have nc38 : (pTake T 4 ((pTake T 40 ((pAdv st))).2)).1 = true := b2i_n0.mp (by rw [← hb_14]; exact c38); have nc47 : (pTake T 44 ((pTake T 4 ((pTake T 40 ((pAdv st))).2)).2)).1 = true := b2i_n0.mp (by rw [← hb_18]; exact c47); have nc55 : (pSum T (pTerm T d) ((pTake T 44 ((pTake T 4 ((pTake T 40 ((pAdv st))).2)).2)).2)).1 = true := b2i_n0.mp (by rw [← hb_22]; exact c55); unfold pKind; rw [if_pos nc16, if_pos nc38, if_pos nc47, if_pos nc55, ← hvl]; unfold pEnd; exact hb_29), hF, (by have nc16 : (pTake T 40 ((pAdv st))).1 = true := b2i_n0.mp (by rw [← hb_9]; exact c16); have nc38 : (pTake T 4 ((pTake T 40 ((pAdv st))).2)).1 = true := b2i_n0.mp (by rw [← hb_14]; exact c38); have nc47 : (pTake T 44 ((pTake T 4 ((pTake T 40 ((pAdv st))).2)).2)).1 = true := b2i_n0.mp (by rw [← hb_18]; exact c47); have nc55 : (pSum T (pTerm T d) ((pTake T 44 ((pTake T 4 ((pTake T 40 ((pAdv st))).2)).2)).2)).1 = true := b2i_n0.mp (by rw [← hb_22]; exact c55); unfold pKind; rw [if_pos nc16, if_pos nc38, if_pos nc47, if_pos nc55, ← hvl]; unfold pEnd; exact hp)⟩
        · refine lv_iconst (v := 0) hx hb dP_kindTerm_58 (by decide) ?_
          exact x_zret hx hb hr rfl hlk hK hP hD hS dP_kindTerm_59 ⟨(by have nc16 : (pTake T 40 ((pAdv st))).1 = true := b2i_n0.mp (by rw [← hb_9]; exact c16); have nc38 : (pTake T 4 ((pTake T 40 ((pAdv st))).2)).1 = true := b2i_n0.mp (by rw [← hb_14]; exact c38); have nc47 : (pTake T 44 ((pTake T 4 ((pTake T 40 ((pAdv st))).2)).2)).1 = true := b2i_n0.mp (by rw [← hb_18]; exact c47); have nc55 : ¬ (pSum T (pTerm T d) ((pTake T 44 ((pTake T 4 ((pTake T 40 ((pAdv st))).2)).2)).2)).1 = true := (by have q := b2i_0.mp (by rw [← hb_22]; exact c55); rw [q]; decide); unfold pKind; rw [if_pos nc16, if_pos nc38, if_pos nc47, if_neg nc55]; rfl), hF, (by have nc16 : (pTake T 40 ((pAdv st))).1 = true := b2i_n0.mp (by rw [← hb_9]; exact c16); have nc38 : (pTake T 4 ((pTake T 40 ((pAdv st))).2)).1 = true := b2i_n0.mp (by rw [← hb_14]; exact c38); have nc47 : (pTake T 44 ((pTake T 4 ((pTake T 40 ((pAdv st))).2)).2)).1 = true := b2i_n0.mp (by rw [← hb_18]; exact c47); have nc55 : ¬ (pSum T (pTerm T d) ((pTake T 44 ((pTake T 4 ((pTake T 40 ((pAdv st))).2)).2)).2)).1 = true := (by have q := b2i_0.mp (by rw [← hb_22]; exact c55); rw [q]; decide); unfold pKind; rw [if_pos nc16, if_pos nc38, if_pos nc47, if_neg nc55]; exact hp)⟩
  · refine lv_iconst (v := 0) hx hb dP_kindTerm_19 (by decide) ?_
    exact x_zret hx hb hr rfl hlk hK hP hD hS dP_kindTerm_20 ⟨(by have nc16 : ¬ (pTake T 40 ((pAdv st))).1 = true := (by have q := b2i_0.mp (by rw [← hb_9]; exact c16); rw [q]; decide); unfold pKind; rw [if_neg nc16]; rfl), hF, (by have nc16 : ¬ (pTake T 40 ((pAdv st))).1 = true := (by have q := b2i_0.mp (by rw [← hb_9]; exact c16); rw [q]; decide); unfold pKind; rw [if_neg nc16]; exact hp)⟩

theorem jnI_lem {x : Int32} : isJnI x = decide (x = 43 ∨ x = 45 ∨ x = 38) := rfl

set_option maxHeartbeats 4000000 in
set_option maxRecDepth 100000 in
theorem cQ_isJoinI (l : Launch) (D : va_G) (tys : List (ClassId × FieldType)) (A : Nat → Prop) (ws : va_W) (x : Int32) : x_Mi l yQ_isJoin wQ_isJoin (xR 0) D xCl tys A [.int x] ws (fun r ws1 => r = b2i (isJnI x) ∧ ws = ws1) := by
  refine x_enter (by decide) rfl (Nat.le_of_ble_eq_true rfl) (fun p e s m args below meth c ls hx hb hr hlk hml hown hnm hts hK hP hD hS hA hN hl => ?_)
  have hl : lv_has ls 1 [(0, .int x)] := hl
  refine lv_iload_n hx hb dQ_isJoin_0 rfl (lv_at hl 0 rfl) ?_
  refine lv_bipush (v := 43) hx hb dQ_isJoin_1 (by decide) ?_
  refine lv_icmp_eq (tgt := 18) hx hb dQ_isJoin_3 (by decide) (fun c3 => ?_) (fun c3 => ?_)
  · refine lv_iconst (v := 1) hx hb dQ_isJoin_18 (by decide) ?_
    refine lv_goto (tgt := 23) hx hb dQ_isJoin_19 (by decide) ?_
    exact x_zret hx hb hr rfl hlk hK hP hD hS dQ_isJoin_23 ⟨by rw [show isJnI x = true from decide_eq_true (Or.inl c3)]; rfl, rfl⟩
  · refine lv_iload_n hx hb dQ_isJoin_6 rfl (lv_at hl 0 rfl) ?_
    refine lv_bipush (v := 45) hx hb dQ_isJoin_7 (by decide) ?_
    refine lv_icmp_eq (tgt := 18) hx hb dQ_isJoin_9 (by decide) (fun c9 => ?_) (fun c9 => ?_)
    · refine lv_iconst (v := 1) hx hb dQ_isJoin_18 (by decide) ?_
      refine lv_goto (tgt := 23) hx hb dQ_isJoin_19 (by decide) ?_
      exact x_zret hx hb hr rfl hlk hK hP hD hS dQ_isJoin_23 ⟨by rw [show isJnI x = true from decide_eq_true (Or.inr (Or.inl c9))]; rfl, rfl⟩
    · refine lv_iload_n hx hb dQ_isJoin_12 rfl (lv_at hl 0 rfl) ?_
      refine lv_bipush (v := 38) hx hb dQ_isJoin_13 (by decide) ?_
      refine lv_icmp_ne (tgt := 22) hx hb dQ_isJoin_15 (by decide) (fun c15 => ?_) (fun c15 => ?_)
      · refine lv_iconst (v := 0) hx hb dQ_isJoin_22 (by decide) ?_
        exact x_zret hx hb hr rfl hlk hK hP hD hS dQ_isJoin_23 ⟨by rw [show isJnI x = false from decide_eq_false (fun h => by rcases h with h | h | h; exact c3 h; exact c9 h; exact c15 h)]; rfl, rfl⟩
      · refine lv_iconst (v := 1) hx hb dQ_isJoin_18 (by decide) ?_
        refine lv_goto (tgt := 23) hx hb dQ_isJoin_19 (by decide) ?_
        exact x_zret hx hb hr rfl hlk hK hP hD hS dQ_isJoin_23 ⟨by rw [show isJnI x = true from decide_eq_true (Or.inr (Or.inr c15))]; rfl, rfl⟩

set_option maxHeartbeats 4000000 in
set_option maxRecDepth 100000 in
/-- Parser.sum(within) -/
theorem cP_sum (l : Launch) (D : va_G) (tys : List (ClassId × FieldType)) (A : Nat → Prop) (cI : ClassId) (hI : tys[0]? = some (cI, .int)) (ad : Nat → Nat) (k : Nat) (T : List Tok) (d : Nat) (HT : TermC l D tys A cI ad k T d) : SumC l D tys A cI ad k T d := by
  intro ws st hp
  have hF : x_fr k (k + 10) ws ws := x_fr.rf
  obtain ⟨q0, qt, qp, qs, qa⟩ := id hp
  obtain ⟨fsTq, htoq⟩ := qt.obj
  obtain ⟨fsPq, hpoq⟩ := qp.obj
  refine x_enter (by decide) rfl (Nat.le_of_ble_eq_true rfl) (fun p e s m args below meth c ls hx hb hr hlk hml hown hnm hts hK hP hD hS hA hN hl => ?_)
  have hl : lv_has ls 4 [(0, .ref (ad k)), (1, .int (nI (12 - d)))] := hl
  have loop_12 : ∀ (n : Nat) (i : Nat) (st1 : PSt) (hi : i ≤ 80) (ws1 : va_W) (H : Heap) (locs : List Loc) (ls : Array Slot), pMore T (pTerm T d) (80 - i) st1 = pMore T (pTerm T d) 80 (pTerm T d st).2 → (pTerm T d st).1 = true → x_fr k (k + 10) ws ws1 → ParserAt cI ad ws1 k T st1 → 80 - i < n → va_P D xCl ws1 H → va_D A ws1 → va_S A s.heap H locs → lv_has ls 4 [(0, .ref (ad k)), (1, .int (nI (12 - d))), (2, .int (nI i))] → W p l e (xR (3 * d + 3)) s m args below meth c H locs 0 0 (MQ below (va_Qi (fun r ws1 => r = b2i (pSum T (pTerm T d) st).1 ∧ x_fr k (k + 10) ws ws1 ∧ ParserAt cI ad ws1 k T (pSum T (pTerm T d) st).2) (x_B D xCl tys A) A) args s 0 0 A) (F0 m 12 ls []) := by
    intro n
    induction n with
    | zero => intro i st1 hi ws1 H locs ls hm ht1 hF hp hme; exact absurd hme (Nat.not_lt_zero _)
    | succ n ih =>
      intro i st1 hi ws1 H locs ls hm ht1 hF hp hme hP hD hS hl
      obtain ⟨q0, qt, qp, qs, qa⟩ := id hp
      obtain ⟨fsTq, htoq⟩ := qt.obj
      obtain ⟨fsPq, hpoq⟩ := qp.obj
      refine lv_iload_n hx hb dP_sum_12 rfl (lv_at hl 2 rfl) ?_
      refine lv_bipush (v := 80) hx hb dP_sum_13 (by decide) ?_
      refine lv_icmp_ge (tgt := 79) hx hb dP_sum_15 (by decide) (fun c15 => ?_) (fun c15 => ?_)
      · refine lv_iconst (v := 1) hx hb dP_sum_79 (by decide) ?_
        exact x_zret hx hb hr rfl hlk hK hP hD hS dP_sum_80 ⟨(by have e : pSum T (pTerm T d) st = (true, st1) := (by unfold pSum; have e9 : 80 - i = 0 := (by have c15 : nI 80 ≤ nI i := c15; rw [nI_leI (by omega) (by omega)] at c15; omega); rw [if_pos ht1, ← hm, e9]; rfl); rw [e]; rfl), hF, (by have e : pSum T (pTerm T d) st = (true, st1) := (by unfold pSum; have e9 : 80 - i = 0 := (by have c15 : nI 80 ≤ nI i := c15; rw [nI_leI (by omega) (by omega)] at c15; omega); rw [if_pos ht1, ← hm, e9]; rfl); rw [e]; exact hp)⟩
      · refine lv_aload_n hx hb dP_sum_18 rfl (lv_at hl 0 rfl) ?_
        refine va_get (D := D) (cl := xCl) (ci := 1) (v := .ref (ad (k + 1))) (C := rnP) (T := tbP) (N := 5) hx hb hts inP hown hK hP k q0 rfl 0 (by decide) (hts _ tw_97) (fun _ h9 => h9) rfl dP_sum_19 ?_
        refine lv_aload_n hx hb dP_sum_22 rfl (lv_at hl 0 rfl) ?_
        refine va_get (D := D) (cl := xCl) (ci := 1) (v := .int (nI st1.1)) (C := rnP) (T := tbP) (N := 5) hx hb hts inP hown hK hP k q0 rfl 3 (by decide) (hts _ tw_100) (fun _ h9 => h9) rfl dP_sum_23 ?_
        refine x_calli (x_runV (n := 1) (As := [.int (nI st1.1)]) (rest := []) ⟨hx, hb, hml, hown, hts⟩ (cT_kindAt l D tys A ws1 cI hI ad (k + 1) T ((nI st1.1)) qt) tw_329 tw_330 tw_331 tw_5 tw_332 (by decide +kernel) rfl rfl (xR_ok (by omega) (by omega)) ⟨Nat.zero_le _, Nat.zero_le _⟩ (va_recv hK hP (ci := 4) (q0 := k + 1) rfl htoq) hK hP hD hS hA hN rfl hl.1 rfl (lv_room (Nat.le_of_ble_eq_true rfl)) dP_sum_26) hS (fun rkd ws_1 H locs hkd hP hD hS => ?_)
        obtain ⟨hkd, rfl⟩ := hkd
        rw [hp.tk] at hkd
        refine x_calli (x_runSN (n := 1) (As := [.int rkd]) (rest := []) ⟨hx, hb, hml, hown, hts⟩ (cQ_isJoinI l D tys A ws1 rkd) (xN_382 hN) tw_318 tw_1 tw_319 (by decide +kernel) rfl rfl (xR_ok (by omega) (by omega)) ⟨Nat.zero_le _, Nat.zero_le _⟩ hK hP hD hS hA hN rfl hl.1 rfl (lv_room (Nat.le_of_ble_eq_true rfl)) dP_sum_29) hS (fun rj ws_2 H locs hj hP hD hS => ?_)
        obtain ⟨hj, rfl⟩ := hj
        refine lv_if_eq (tgt := 79) hx hb dP_sum_32 (by decide) (fun c32 => ?_) (fun c32 => ?_)
        · refine lv_iconst (v := 1) hx hb dP_sum_79 (by decide) ?_
          exact x_zret hx hb hr rfl hlk hK hP hD hS dP_sum_80 ⟨(by have e : pSum T (pTerm T d) st = (true, st1) := (by unfold pSum; rw [if_pos ht1, ← hm]; exact pMore_end (by rw [hj, b2i_0, hkd] at c32; exact c32)); rw [e]; rfl), hF, (by have e : pSum T (pTerm T d) st = (true, st1) := (by unfold pSum; rw [if_pos ht1, ← hm]; exact pMore_end (by rw [hj, b2i_0, hkd] at c32; exact c32)); rw [e]; exact hp)⟩
        · have hjt : isJnI (tkAt T st1).1 = true := by rw [hj, b2i_n0, hkd] at c32; exact c32
          have hi2 : i < 80 := by have c15 : ¬ nI 80 ≤ nI i := c15; rw [nI_leI (by omega) (by omega)] at c15; omega
          refine lv_aload_n hx hb dP_sum_35 rfl (lv_at hl 0 rfl) ?_
          refine va_get (D := D) (cl := xCl) (ci := 1) (v := .ref (ad (k + 1))) (C := rnP) (T := tbP) (N := 5) hx hb hts inP hown hK hP k q0 rfl 0 (by decide) (hts _ tw_97) (fun _ h9 => h9) rfl dP_sum_36 ?_
          refine lv_aload_n hx hb dP_sum_39 rfl (lv_at hl 0 rfl) ?_
          refine va_get (D := D) (cl := xCl) (ci := 1) (v := .int (nI st1.1)) (C := rnP) (T := tbP) (N := 5) hx hb hts inP hown hK hP k q0 rfl 3 (by decide) (hts _ tw_100) (fun _ h9 => h9) rfl dP_sum_40 ?_
          refine x_calli (x_runV (n := 1) (As := [.int (nI st1.1)]) (rest := []) ⟨hx, hb, hml, hown, hts⟩ (cT_kindAt l D tys A ws1 cI hI ad (k + 1) T ((nI st1.1)) qt) tw_329 tw_330 tw_331 tw_5 tw_332 (by decide +kernel) rfl rfl (xR_ok (by omega) (by omega)) ⟨Nat.zero_le _, Nat.zero_le _⟩ (va_recv hK hP (ci := 4) (q0 := k + 1) rfl htoq) hK hP hD hS hA hN rfl hl.1 rfl (lv_room (Nat.le_of_ble_eq_true rfl)) dP_sum_43) hS (fun rk2 ws_3 H locs hk2 hP hD hS => ?_)
          obtain ⟨hk2, rfl⟩ := hk2
          rw [hp.tk] at hk2
          refine lv_istore_n (lv' := [(3, .int rk2), (0, .ref (ad k)), (1, .int (nI (12 - d))), (2, .int (nI i))]) hx hb dP_sum_46 rfl hl (by decide) rfl (fun ls hl => ?_)
          refine lv_aload_n hx hb dP_sum_47 rfl (lv_at hl 1 rfl) ?_
          refine lv_dup hx hb dP_sum_48 rfl ?_
          refine va_get (D := D) (cl := xCl) (ci := 1) (v := .int (nI st1.1)) (C := rnP) (T := tbP) (N := 5) hx hb hts inP hown hK hP k q0 rfl 3 (by decide) (hts _ tw_100) (fun _ h9 => h9) rfl dP_sum_49 ?_
          refine lv_iconst (v := 1) hx hb dP_sum_52 (by decide) ?_
          refine lv_iadd hx hb dP_sum_53 ?_
          refine lv_topi (fun v_4 ev_4 => ?_)
          refine va_put (D := D) (cl := xCl) (ci := 1) (v := .int v_4) (ty := .int) (C := rnP) (T := tbP) (N := 5) hx hb hts inP tyP toP nmP hown hK hP hD hS k q0 rfl 3 (by decide) (hts _ tw_100) (fun _ h9 => h9) rfl (by decide +kernel) rfl rfl (Nat.le_of_ble_eq_true rfl) dP_sum_54 (fun H locs hP hD hS => ?_)
          obtain ⟨ws_6, hu_5, hP, hD⟩ := x_gen q0 hP hD
          have h_7 : ws_6[k]? = some (ad k, .inr (1, [.ref (ad (k + 1)), .ref (ad (k + 5)), .ref (ad (k + 9)), .int v_4, .int (nI st1.2.2.2)])) := hu_5.1
          have h_8 := (hu_5.2 (k + 1) (by omega)).trans htoq
          have h_9 := (hu_5.2 (k + 5) (by omega)).trans hpoq
          have h_10 := (hu_5.2 (k + 9) (by omega)).trans qs
          have hp := hp.adv hu_5 ev_4 (isJn_nz hjt)
          have hF := hF.tr (hu_5.fr (a := k) (b := k + 10) (by omega) (by omega))
          obtain ⟨q_110, q_11t, q_11p, q_11s, q_11a⟩ := id hp
          obtain ⟨fsTq_11, htoq_11⟩ := q_11t.obj
          obtain ⟨fsPq_11, hpoq_11⟩ := q_11p.obj
          refine lv_aload_n hx hb dP_sum_57 rfl (lv_at hl 1 rfl) ?_
          refine lv_iload_n hx hb dP_sum_58 rfl (lv_at hl 2 rfl) ?_
          refine x_calli (x_runV (n := 1) (As := [.int (nI (12 - d))]) (rest := []) ⟨hx, hb, hml, hown, hts⟩ (HT ws_6 ((pAdv st1)) hp) tw_325 tw_327 ts_P_term tw_4 tw_328 (by decide +kernel) rfl rfl (xR_ok (by omega) (by omega)) ⟨Nat.zero_le _, Nat.zero_le _⟩ (va_recv hK hP (ci := 1) (q0 := k) rfl q_110) hK hP hD hS hA hN rfl hl.1 rfl (lv_room (Nat.le_of_ble_eq_true rfl)) dP_sum_59) hS (fun rb_13 ws_14 H locs hb_12 hP hD hS => ?_)
          obtain ⟨hb_12, hF9, hp⟩ := hb_12
          have hF := hF.tr hF9
          obtain ⟨q_150, q_15t, q_15p, q_15s, q_15a⟩ := id hp
          obtain ⟨fsTq_15, htoq_15⟩ := q_15t.obj
          obtain ⟨fsPq_15, hpoq_15⟩ := q_15p.obj
          refine lv_if_ne (tgt := 67) hx hb dP_sum_62 (by decide) (fun c62 => ?_) (fun c62 => ?_)
          · refine lv_aload_n hx hb dP_sum_67 rfl (lv_at hl 1 rfl) ?_
            refine lv_iload_n hx hb dP_sum_68 rfl (lv_at hl 0 rfl) ?_
            refine lv_iconst (v := 0) hx hb dP_sum_69 (by decide) ?_
            refine x_callv (x_runV (n := 2) (As := [.int rk2, .int 0]) (rest := []) ⟨hx, hb, hml, hown, hts⟩ (cP_emit l D tys A ws_14 cI hI ad k T ((pTerm T d ((pAdv st1))).2) rk2 0 hp) tw_337 tw_339 ts_P_emit tw_4 tw_340 (by decide +kernel) rfl rfl (xR_ok (by omega) (by omega)) ⟨Nat.zero_le _, Nat.zero_le _⟩ (va_recv hK hP (ci := 1) (q0 := k) rfl q_150) hK hP hD hS hA hN rfl hl.1 rfl (lv_room (Nat.le_of_ble_eq_true rfl)) dP_sum_70) hS (fun ws_17 H locs hv_16 hP hD hS => ?_)
            obtain ⟨hF9, hp⟩ := hv_16
            have hF := hF.tr hF9
            obtain ⟨q_180, q_18t, q_18p, q_18s, q_18a⟩ := id hp
            obtain ⟨fsTq_18, htoq_18⟩ := q_18t.obj
            obtain ⟨fsPq_18, hpoq_18⟩ := q_18p.obj
            refine lv_iinc (v := (nI (i + 1))) (lv' := [(2, .int (nI (i + 1))), (3, .int rk2), (0, .ref (ad k)), (1, .int (nI (12 - d)))]) hx hb dP_sum_73 hl (k := 3) rfl (nI_1 _) (by decide) rfl (fun ls hl => ?_)
            refine lv_goto (tgt := 12) hx hb dP_sum_76 (by decide) ?_
            exact ih (i + 1) (pEmit T rk2 0 ((pTerm T d ((pAdv st1))).2)) (by omega) ws_17 _ _ _ (by have nc62 : (pTerm T d ((pAdv st1))).1 = true := b2i_n0.mp (by rw [← hb_12]; exact c62); rw [← hm, show 80 - i = (80 - (i + 1)) + 1 by omega]; show _ = (if isJnI _ = true then _ else _); rw [if_pos hjt, if_pos nc62, hk2]) ht1 hF hp (by omega) hP hD hS (lv_sub hl [2, 3, 0] rfl)
          · refine lv_iconst (v := 0) hx hb dP_sum_65 (by decide) ?_
            exact x_zret hx hb hr rfl hlk hK hP hD hS dP_sum_66 ⟨(by have e : pSum T (pTerm T d) st = (false, (pTerm T d (pAdv st1)).2) := (by have nc62 : ¬ (pTerm T d ((pAdv st1))).1 = true := (by have q := b2i_0.mp (by rw [← hb_12]; exact c62); rw [q]; decide); unfold pSum; rw [if_pos ht1, ← hm, show 80 - i = (79 - i) + 1 by omega]; show (if isJnI _ = true then _ else _) = _; rw [if_pos hjt, if_neg nc62]); rw [e]; rfl), hF, (by have e : pSum T (pTerm T d) st = (false, (pTerm T d (pAdv st1)).2) := (by have nc62 : ¬ (pTerm T d ((pAdv st1))).1 = true := (by have q := b2i_0.mp (by rw [← hb_12]; exact c62); rw [q]; decide); unfold pSum; rw [if_pos ht1, ← hm, show 80 - i = (79 - i) + 1 by omega]; show (if isJnI _ = true then _ else _) = _; rw [if_pos hjt, if_neg nc62]); rw [e]; exact hp)⟩
  refine lv_aload_n hx hb dP_sum_0 rfl (lv_at hl 0 rfl) ?_
  refine lv_iload_n hx hb dP_sum_1 rfl (lv_at hl 1 rfl) ?_
  refine x_calli (x_runV (n := 1) (As := [.int (nI (12 - d))]) (rest := []) ⟨hx, hb, hml, hown, hts⟩ (HT ws st hp) tw_325 tw_327 ts_P_term tw_4 tw_328 (by decide +kernel) rfl rfl (xR_ok (by omega) (by omega)) ⟨Nat.zero_le _, Nat.zero_le _⟩ (va_recv hK hP (ci := 1) (q0 := k) rfl q0) hK hP hD hS hA hN rfl hl.1 rfl (lv_room (Nat.le_of_ble_eq_true rfl)) dP_sum_2) hS (fun rb_20 ws_21 H locs hb_19 hP hD hS => ?_)
  obtain ⟨hb_19, hF9, hp⟩ := hb_19
  have hF := hF.tr hF9
  obtain ⟨q_220, q_22t, q_22p, q_22s, q_22a⟩ := id hp
  obtain ⟨fsTq_22, htoq_22⟩ := q_22t.obj
  obtain ⟨fsPq_22, hpoq_22⟩ := q_22p.obj
  refine lv_if_ne (tgt := 10) hx hb dP_sum_5 (by decide) (fun c5 => ?_) (fun c5 => ?_)
  · refine lv_iconst (v := 0) hx hb dP_sum_10 (by decide) ?_
    refine lv_istore_n (lv' := [(2, .int 0), (0, .ref (ad k)), (1, .int (nI (12 - d)))]) hx hb dP_sum_11 rfl hl (by decide) rfl (fun ls hl => ?_)
    exact loop_12 _ 0 (pTerm T d st).2 (Nat.zero_le _) ws_21 _ _ _ rfl (by have nc5 : (pTerm T d st).1 = true := b2i_n0.mp (by rw [← hb_19]; exact c5); exact nc5) hF hp (Nat.lt_succ_self _) hP hD hS (lv_sub hl [1, 2, 0] rfl)
  · refine lv_iconst (v := 0) hx hb dP_sum_8 (by decide) ?_
    exact x_zret hx hb hr rfl hlk hK hP hD hS dP_sum_9 ⟨(by have nc5 : ¬ (pTerm T d st).1 = true := (by have q := b2i_0.mp (by rw [← hb_19]; exact c5); rw [q]; decide); unfold pSum; rw [if_neg nc5]; rfl), hF, (by have nc5 : ¬ (pTerm T d st).1 = true := (by have q := b2i_0.mp (by rw [← hb_19]; exact c5); rw [q]; decide); unfold pSum; rw [if_neg nc5]; exact hp)⟩
