-- ===== openLets comes back as it was =====
def PO (f : PSt → Bool × PSt) : Prop := ∀ st, (f st).2.2.2.2 = st.2.2.2
theorem PO_take (T : List Tok) (K : Int32) : PO (pTake T K) := by
  intro st
  unfold pTake
  split <;> rfl
theorem PO_end (T : List Tok) (K v : Int32) : PO (pEnd T K v) := fun st => PO_take T 41 _
theorem PO_more {T : List Tok} {t : PSt → Bool × PSt} (h : PO t) : ∀ n, PO (pMore T t n) := by
  intro n
  induction n with
  | zero => intro st; rfl
  | succ n ih =>
    intro st
    unfold pMore
    split
    · split
      · rw [ih]; exact h _
      · exact h _
    · rfl
theorem PO_sum {T : List Tok} {t : PSt → Bool × PSt} (h : PO t) : PO (pSum T t) := by
  intro st
  unfold pSum
  split
  · rw [PO_more h 80]; exact h _
  · exact h _
theorem PO_rounds {T : List Tok} {S : PSt → Bool × PSt} (h : PO S) (K : Int32) : PO (pRounds T S K) := by
  intro st
  unfold pRounds
  split
  · split
    · split
      · split
        · rw [PO_end, PO_take, PO_take, h, PO_take]; rfl
        · rw [PO_take, PO_take, h, PO_take]; rfl
      · rw [PO_end, PO_take, h, PO_take]; rfl
    · rw [h, PO_take]; rfl
  · rw [PO_take]; rfl
theorem PO_plain {T : List Tok} {S : PSt → Bool × PSt} (h : PO S) (K : Int32) : PO (pPlain T S K) := by
  intro st
  unfold pPlain
  split
  · split
    · rw [PO_end, h, PO_take]; rfl
    · rw [h, PO_take]; rfl
  · rw [PO_take]; rfl
theorem PO_way {T : List Tok} {S : PSt → Bool × PSt} (h : PO S) : PO (pWay T S) := by
  intro st
  unfold pWay
  split
  · split
    · split
      · split
        · rw [PO_end, h, PO_take, h, PO_take]; rfl
        · rw [h, PO_take, h, PO_take]; rfl
      · rw [PO_take, h, PO_take]; rfl
    · rw [h, PO_take]; rfl
  · rw [PO_take]; rfl
theorem PO_kind {T : List Tok} {S : PSt → Bool × PSt} (h : PO S) : PO (pKind T S) := by
  intro st
  unfold pKind
  split
  · split
    · split
      · split
        · rw [PO_end, h, PO_take, PO_take, PO_take]; rfl
        · rw [h, PO_take, PO_take, PO_take]; rfl
      · rw [PO_take, PO_take, PO_take]; rfl
    · rw [PO_take, PO_take]; rfl
  · rw [PO_take]; rfl
theorem PO_bound {T : List Tok} {S : PSt → Bool × PSt} (h : PO S) (v : Int32) : PO (pBound T S v) := by
  intro x
  show (S _).2.2.2.2 - 1 = _
  rw [h]
  rfl
theorem PO_let {T : List Tok} {S : PSt → Bool × PSt} (h : PO S) : PO (pLet T S) := by
  intro st
  unfold pLet
  split
  · split
    · split
      · split
        · rw [PO_bound h, PO_take, h, PO_take, PO_take]; rfl
        · rw [PO_take, h, PO_take, PO_take]; rfl
      · rw [h, PO_take, PO_take]; rfl
    · rw [PO_take, PO_take]; rfl
  · rw [PO_take]; rfl
theorem PO_paren {T : List Tok} {S : PSt → Bool × PSt} (h : PO S) : PO (pParen T S) := by
  intro st
  unfold pParen
  split
  · rw [PO_take, h]; rfl
  · rw [h]; rfl
theorem PO_letter (T : List Tok) : PO (pLetter T) := by
  intro st
  unfold pLetter
  split <;> rfl
theorem PO_term (T : List Tok) : ∀ d, PO (pTerm T d) := by
  intro d
  induction d with
  | zero => intro st; rfl
  | succ d ih =>
    intro st
    have hs := PO_sum (T := T) ih
    unfold pTerm
    split
    · rfl
    · split
      · exact PO_letter T st
      · split
        · exact PO_paren hs st
        · split
          · exact PO_rounds hs _ st
          · split
            · exact PO_plain hs _ st
            · split
              · exact PO_way hs st
              · split
                · exact PO_kind hs st
                · split
                  · exact PO_let hs st
                  · rfl

set_option maxHeartbeats 4000000 in
set_option maxRecDepth 100000 in
/-- Parser.letTerm(within) -/
theorem cP_letTerm (l : Launch) (D : va_G) (tys : List (ClassId × FieldType)) (A : Nat → Prop) (cI : ClassId) (hI : tys[0]? = some (cI, .int)) (ad : Nat → Nat) (k : Nat) (T : List Tok) (d : Nat) (HS : SumC l D tys A cI ad k T d) (hd : d < 12) (ws : va_W) (st : PSt) (hkn : ¬ (tkAt T st).1 = 0) (hp : ParserAt cI ad ws k T st) : x_Mi l yP_letTerm wP_letTerm (xR (3 * d + 4)) D xCl tys A [.ref (ad k), .int (nI (12 - d))] ws (fun r ws1 => r = b2i (pLet T (pSum T (pTerm T d)) st).1 ∧ x_fr k (k + 10) ws ws1 ∧ ParserAt cI ad ws1 k T (pLet T (pSum T (pTerm T d)) st).2) := by
  have hF : x_fr k (k + 10) ws ws := x_fr.rf
  obtain ⟨q0, qt, qp, qs, qa⟩ := id hp
  obtain ⟨fsTq, htoq⟩ := qt.obj
  obtain ⟨fsPq, hpoq⟩ := qp.obj
  refine x_enter (by decide) rfl (Nat.le_of_ble_eq_true rfl) (fun p e s m args below meth c ls hx hb hr hlk hml hown hnm hts hK hP hD hS hA hN hl => ?_)
  have hl : lv_has ls 5 [(0, .ref (ad k)), (1, .int (nI (12 - d)))] := hl
  refine lv_aload_n hx hb dP_letTerm_0 rfl (lv_at hl 0 rfl) ?_
  refine lv_dup hx hb dP_letTerm_1 rfl ?_
  refine va_get (D := D) (cl := xCl) (ci := 1) (v := .int (nI st.1)) (C := rnP) (T := tbP) (N := 5) hx hb hts inP hown hK hP k q0 rfl 3 (by decide) (hts _ tw_100) (fun _ h9 => h9) rfl dP_letTerm_2 ?_
  refine lv_iconst (v := 1) hx hb dP_letTerm_5 (by decide) ?_
  refine lv_iadd hx hb dP_letTerm_6 ?_
  refine lv_topi (fun v_1 ev_1 => ?_)
  refine va_put (D := D) (cl := xCl) (ci := 1) (v := .int v_1) (ty := .int) (C := rnP) (T := tbP) (N := 5) hx hb hts inP tyP toP nmP hown hK hP hD hS k q0 rfl 3 (by decide) (hts _ tw_100) (fun _ h9 => h9) rfl (by decide +kernel) rfl rfl (Nat.le_of_ble_eq_true rfl) dP_letTerm_7 (fun H locs hP hD hS => ?_)
  obtain ⟨ws_3, hu_2, hP, hD⟩ := x_gen q0 hP hD
  have h_4 : ws_3[k]? = some (ad k, .inr (1, [.ref (ad (k + 1)), .ref (ad (k + 5)), .ref (ad (k + 9)), .int v_1, .int (nI st.2.2.2)])) := hu_2.1
  have h_5 := (hu_2.2 (k + 1) (by omega)).trans htoq
  have h_6 := (hu_2.2 (k + 5) (by omega)).trans hpoq
  have h_7 := (hu_2.2 (k + 9) (by omega)).trans qs
  have hp := hp.adv hu_2 ev_1 (hkn)
  have hF := hF.tr (hu_2.fr (a := k) (b := k + 10) (by omega) (by omega))
  obtain ⟨q_80, q_8t, q_8p, q_8s, q_8a⟩ := id hp
  obtain ⟨fsTq_8, htoq_8⟩ := q_8t.obj
  obtain ⟨fsPq_8, hpoq_8⟩ := q_8p.obj
  refine lv_aload_n hx hb dP_letTerm_10 rfl (lv_at hl 0 rfl) ?_
  refine va_get (D := D) (cl := xCl) (ci := 1) (v := .ref (ad (k + 1))) (C := rnP) (T := tbP) (N := 5) hx hb hts inP hown hK hP k q_80 rfl 0 (by decide) (hts _ tw_97) (fun _ h9 => h9) rfl dP_letTerm_11 ?_
  refine lv_aload_n hx hb dP_letTerm_14 rfl (lv_at hl 0 rfl) ?_
  refine va_get (D := D) (cl := xCl) (ci := 1) (v := .int (nI ((pAdv st)).1)) (C := rnP) (T := tbP) (N := 5) hx hb hts inP hown hK hP k q_80 rfl 3 (by decide) (hts _ tw_100) (fun _ h9 => h9) rfl dP_letTerm_15 ?_
  refine x_calli (x_runV (n := 1) (As := [.int (nI ((pAdv st)).1)]) (rest := []) ⟨hx, hb, hml, hown, hts⟩ (cT_valueAt l D tys A ws_3 cI hI ad (k + 1) T ((nI ((pAdv st)).1)) q_8t) tw_333 tw_334 tw_335 tw_5 tw_336 (by decide +kernel) rfl rfl (xR_ok (by omega) (by omega)) ⟨Nat.zero_le _, Nat.zero_le _⟩ (va_recv hK hP (ci := 4) (q0 := k + 1) rfl htoq_8) hK hP hD hS hA hN rfl hl.1 rfl (lv_room (Nat.le_of_ble_eq_true rfl)) dP_letTerm_18) hS (fun rvl ws_9 H locs hvl hP hD hS => ?_)
  obtain ⟨hvl, rfl⟩ := hvl
  rw [hp.tk] at hvl
  refine lv_istore_n (lv' := [(2, .int rvl), (0, .ref (ad k)), (1, .int (nI (12 - d)))]) hx hb dP_letTerm_21 rfl hl (by decide) rfl (fun ls hl => ?_)
  refine lv_aload_n hx hb dP_letTerm_22 rfl (lv_at hl 1 rfl) ?_
  refine lv_iconst (v := 3) hx hb dP_letTerm_23 (by decide) ?_
  refine x_calli (x_runV (n := 1) (As := [.int 3]) (rest := []) ⟨hx, hb, hml, hown, hts⟩ (cP_take l D tys A ws_3 cI hI ad k T ((pAdv st)) 3 (by decide) hp) tw_354 tw_356 ts_P_take tw_4 tw_357 (by decide +kernel) rfl rfl (xR_ok (by omega) (by omega)) ⟨Nat.zero_le _, Nat.zero_le _⟩ (va_recv hK hP (ci := 1) (q0 := k) rfl q_80) hK hP hD hS hA hN rfl hl.1 rfl (lv_room (Nat.le_of_ble_eq_true rfl)) dP_letTerm_24) hS (fun rb_11 ws_12 H locs hb_10 hP hD hS => ?_)
  obtain ⟨hb_10, hF9, hp⟩ := hb_10
  have hF := hF.tr hF9
  obtain ⟨q_130, q_13t, q_13p, q_13s, q_13a⟩ := id hp
  obtain ⟨fsTq_13, htoq_13⟩ := q_13t.obj
  obtain ⟨fsPq_13, hpoq_13⟩ := q_13p.obj
  refine lv_if_eq (tgt := 56) hx hb dP_letTerm_27 (by decide) (fun c27 => ?_) (fun c27 => ?_)
  · refine lv_iconst (v := 0) hx hb dP_letTerm_56 (by decide) ?_
    exact x_zret hx hb hr rfl hlk hK hP hD hS dP_letTerm_57 ⟨(by have nc27 : ¬ (pTake T 3 ((pAdv st))).1 = true := (by have q := b2i_0.mp (by rw [← hb_10]; exact c27); rw [q]; decide); unfold pLet; rw [if_neg nc27]; rfl), hF, (by have nc27 : ¬ (pTake T 3 ((pAdv st))).1 = true := (by have q := b2i_0.mp (by rw [← hb_10]; exact c27); rw [q]; decide); unfold pLet; rw [if_neg nc27]; exact hp)⟩
  · refine lv_aload_n hx hb dP_letTerm_30 rfl (lv_at hl 1 rfl) ?_
    refine lv_bipush (v := 61) hx hb dP_letTerm_31 (by decide) ?_
    refine x_calli (x_runV (n := 1) (As := [.int 61]) (rest := []) ⟨hx, hb, hml, hown, hts⟩ (cP_take l D tys A ws_12 cI hI ad k T ((pTake T 3 ((pAdv st))).2) 61 (by decide) hp) tw_354 tw_356 ts_P_take tw_4 tw_357 (by decide +kernel) rfl rfl (xR_ok (by omega) (by omega)) ⟨Nat.zero_le _, Nat.zero_le _⟩ (va_recv hK hP (ci := 1) (q0 := k) rfl q_130) hK hP hD hS hA hN rfl hl.1 rfl (lv_room (Nat.le_of_ble_eq_true rfl)) dP_letTerm_33) hS (fun rb_15 ws_16 H locs hb_14 hP hD hS => ?_)
    obtain ⟨hb_14, hF9, hp⟩ := hb_14
    have hF := hF.tr hF9
    obtain ⟨q_170, q_17t, q_17p, q_17s, q_17a⟩ := id hp
    obtain ⟨fsTq_17, htoq_17⟩ := q_17t.obj
    obtain ⟨fsPq_17, hpoq_17⟩ := q_17p.obj
    refine lv_if_eq (tgt := 56) hx hb dP_letTerm_36 (by decide) (fun c36 => ?_) (fun c36 => ?_)
    · refine lv_iconst (v := 0) hx hb dP_letTerm_56 (by decide) ?_
      exact x_zret hx hb hr rfl hlk hK hP hD hS dP_letTerm_57 ⟨(by have nc27 : (pTake T 3 ((pAdv st))).1 = true := b2i_n0.mp (by rw [← hb_10]; exact c27); have nc36 : ¬ (pTake T 61 ((pTake T 3 ((pAdv st))).2)).1 = true := (by have q := b2i_0.mp (by rw [← hb_14]; exact c36); rw [q]; decide); unfold pLet; rw [if_pos nc27, if_neg nc36]; rfl), hF, (by have nc27 : (pTake T 3 ((pAdv st))).1 = true := b2i_n0.mp (by rw [← hb_10]; exact c27); have nc36 : ¬ (pTake T 61 ((pTake T 3 ((pAdv st))).2)).1 = true := (by have q := b2i_0.mp (by rw [← hb_14]; exact c36); rw [q]; decide); unfold pLet; rw [if_pos nc27, if_neg nc36]; exact hp)⟩
    · refine lv_aload_n hx hb dP_letTerm_39 rfl (lv_at hl 1 rfl) ?_
      refine lv_iload_n hx hb dP_letTerm_40 rfl (lv_at hl 2 rfl) ?_
      refine x_calli (x_runV (n := 1) (As := [.int (nI (12 - d))]) (rest := []) ⟨hx, hb, hml, hown, hts⟩ (HS ws_16 ((pTake T 61 ((pTake T 3 ((pAdv st))).2)).2) hp) tw_321 tw_323 ts_P_sum tw_4 tw_324 (by decide +kernel) rfl rfl (xR_ok (by omega) (by omega)) ⟨Nat.zero_le _, Nat.zero_le _⟩ (va_recv hK hP (ci := 1) (q0 := k) rfl q_170) hK hP hD hS hA hN rfl hl.1 rfl (lv_room (Nat.le_of_ble_eq_true rfl)) dP_letTerm_41) hS (fun rb_19 ws_20 H locs hb_18 hP hD hS => ?_)
      obtain ⟨hb_18, hF9, hp⟩ := hb_18
      have hF := hF.tr hF9
      obtain ⟨q_210, q_21t, q_21p, q_21s, q_21a⟩ := id hp
      obtain ⟨fsTq_21, htoq_21⟩ := q_21t.obj
      obtain ⟨fsPq_21, hpoq_21⟩ := q_21p.obj
      refine lv_if_eq (tgt := 56) hx hb dP_letTerm_44 (by decide) (fun c44 => ?_) (fun c44 => ?_)
      · refine lv_iconst (v := 0) hx hb dP_letTerm_56 (by decide) ?_
        exact x_zret hx hb hr rfl hlk hK hP hD hS dP_letTerm_57 ⟨(by have nc27 : (pTake T 3 ((pAdv st))).1 = true := b2i_n0.mp (by rw [← hb_10]; exact c27); have nc36 : (pTake T 61 ((pTake T 3 ((pAdv st))).2)).1 = true := b2i_n0.mp (by rw [← hb_14]; exact c36); have nc44 : ¬ (pSum T (pTerm T d) ((pTake T 61 ((pTake T 3 ((pAdv st))).2)).2)).1 = true := (by have q := b2i_0.mp (by rw [← hb_18]; exact c44); rw [q]; decide); unfold pLet; rw [if_pos nc27, if_pos nc36, if_neg nc44]; rfl), hF, (by have nc27 : (pTake T 3 ((pAdv st))).1 = true := b2i_n0.mp (by rw [← hb_10]; exact c27); have nc36 : (pTake T 61 ((pTake T 3 ((pAdv st))).2)).1 = true := b2i_n0.mp (by rw [← hb_14]; exact c36); have nc44 : ¬ (pSum T (pTerm T d) ((pTake T 61 ((pTake T 3 ((pAdv st))).2)).2)).1 = true := (by have q := b2i_0.mp (by rw [← hb_18]; exact c44); rw [q]; decide); unfold pLet; rw [if_pos nc27, if_pos nc36, if_neg nc44]; exact hp)⟩
      · refine lv_aload_n hx hb dP_letTerm_47 rfl (lv_at hl 1 rfl) ?_
        refine lv_bipush (v := 13) hx hb dP_letTerm_48 (by decide) ?_
        refine x_calli (x_runV (n := 1) (As := [.int 13]) (rest := []) ⟨hx, hb, hml, hown, hts⟩ (cP_take l D tys A ws_20 cI hI ad k T ((pSum T (pTerm T d) ((pTake T 61 ((pTake T 3 ((pAdv st))).2)).2)).2) 13 (by decide) hp) tw_354 tw_356 ts_P_take tw_4 tw_357 (by decide +kernel) rfl rfl (xR_ok (by omega) (by omega)) ⟨Nat.zero_le _, Nat.zero_le _⟩ (va_recv hK hP (ci := 1) (q0 := k) rfl q_210) hK hP hD hS hA hN rfl hl.1 rfl (lv_room (Nat.le_of_ble_eq_true rfl)) dP_letTerm_50) hS (fun rb_23 ws_24 H locs hb_22 hP hD hS => ?_)
        obtain ⟨hb_22, hF9, hp⟩ := hb_22
        have hF := hF.tr hF9
        obtain ⟨q_250, q_25t, q_25p, q_25s, q_25a⟩ := id hp
        obtain ⟨fsTq_25, htoq_25⟩ := q_25t.obj
        obtain ⟨fsPq_25, hpoq_25⟩ := q_25p.obj
        refine lv_if_ne (tgt := 58) hx hb dP_letTerm_53 (by decide) (fun c53 => ?_) (fun c53 => ?_)
        · refine lv_aload_n hx hb dP_letTerm_58 rfl (lv_at hl 1 rfl) ?_
          refine lv_iload_n hx hb dP_letTerm_59 rfl (lv_at hl 0 rfl) ?_
          refine x_calli (x_runV (n := 1) (As := [.int rvl]) (rest := []) ⟨hx, hb, hml, hown, hts⟩ (cP_slotOf l D tys A ws_24 cI hI ad k T ((pTake T 13 ((pSum T (pTerm T d) ((pTake T 61 ((pTake T 3 ((pAdv st))).2)).2)).2)).2) rvl hp) tw_350 tw_352 ts_P_slotOf tw_4 tw_353 (by decide +kernel) rfl rfl (xR_ok (by omega) (by omega)) ⟨Nat.zero_le _, Nat.zero_le _⟩ (va_recv hK hP (ci := 1) (q0 := k) rfl q_250) hK hP hD hS hA hN rfl hl.1 rfl (lv_room (Nat.le_of_ble_eq_true rfl)) dP_letTerm_60) hS (fun rsl ws_26 H locs hsl hP hD hS => ?_)
          obtain ⟨hsl, rfl⟩ := hsl
          refine lv_istore_n (lv' := [(3, .int rsl), (2, .int rvl), (0, .ref (ad k)), (1, .int (nI (12 - d)))]) hx hb dP_letTerm_63 rfl hl (by decide) rfl (fun ls hl => ?_)
          refine lv_aload_n hx hb dP_letTerm_64 rfl (lv_at hl 2 rfl) ?_
          refine lv_bipush (v := 12) hx hb dP_letTerm_65 (by decide) ?_
          refine lv_aload_n hx hb dP_letTerm_67 rfl (lv_at hl 2 rfl) ?_
          refine va_get (D := D) (cl := xCl) (ci := 1) (v := .int (nI ((pTake T 13 ((pSum T (pTerm T d) ((pTake T 61 ((pTake T 3 ((pAdv st))).2)).2)).2)).2).2.2.2)) (C := rnP) (T := tbP) (N := 5) hx hb hts inP hown hK hP k q_250 rfl 4 (by decide) (hts _ tw_101) (fun _ h9 => h9) rfl dP_letTerm_68 ?_
          refine x_callv (x_runV (n := 2) (As := [.int 12, .int (nI ((pTake T 13 ((pSum T (pTerm T d) ((pTake T 61 ((pTake T 3 ((pAdv st))).2)).2)).2)).2).2.2.2)]) (rest := []) ⟨hx, hb, hml, hown, hts⟩ (cP_emit l D tys A ws_24 cI hI ad k T ((pTake T 13 ((pSum T (pTerm T d) ((pTake T 61 ((pTake T 3 ((pAdv st))).2)).2)).2)).2) 12 ((nI ((pTake T 13 ((pSum T (pTerm T d) ((pTake T 61 ((pTake T 3 ((pAdv st))).2)).2)).2)).2).2.2.2)) hp) tw_337 tw_339 ts_P_emit tw_4 tw_340 (by decide +kernel) rfl rfl (xR_ok (by omega) (by omega)) ⟨Nat.zero_le _, Nat.zero_le _⟩ (va_recv hK hP (ci := 1) (q0 := k) rfl q_250) hK hP hD hS hA hN rfl hl.1 rfl (lv_room (Nat.le_of_ble_eq_true rfl)) dP_letTerm_71) hS (fun ws_28 H locs hv_27 hP hD hS => ?_)
          obtain ⟨hF9, hp⟩ := hv_27
          have hF := hF.tr hF9
          obtain ⟨q_290, q_29t, q_29p, q_29s, q_29a⟩ := id hp
          obtain ⟨fsTq_29, htoq_29⟩ := q_29t.obj
          obtain ⟨fsPq_29, hpoq_29⟩ := q_29p.obj
          refine lv_aload_n hx hb dP_letTerm_74 rfl (lv_at hl 2 rfl) ?_
          refine lv_iload_n hx hb dP_letTerm_75 rfl (lv_at hl 1 rfl) ?_
          refine lv_aload_n hx hb dP_letTerm_76 rfl (lv_at hl 2 rfl) ?_
          refine va_get (D := D) (cl := xCl) (ci := 1) (v := .int (nI ((pEmit T 12 ((nI ((pTake T 13 ((pSum T (pTerm T d) ((pTake T 61 ((pTake T 3 ((pAdv st))).2)).2)).2)).2).2.2.2)) ((pTake T 13 ((pSum T (pTerm T d) ((pTake T 61 ((pTake T 3 ((pAdv st))).2)).2)).2)).2))).2.2.2)) (C := rnP) (T := tbP) (N := 5) hx hb hts inP hown hK hP k q_290 rfl 4 (by decide) (hts _ tw_101) (fun _ h9 => h9) rfl dP_letTerm_77 ?_
          refine x_callv (x_runV (n := 2) (As := [.int rvl, .int (nI ((pEmit T 12 ((nI ((pTake T 13 ((pSum T (pTerm T d) ((pTake T 61 ((pTake T 3 ((pAdv st))).2)).2)).2)).2).2.2.2)) ((pTake T 13 ((pSum T (pTerm T d) ((pTake T 61 ((pTake T 3 ((pAdv st))).2)).2)).2)).2))).2.2.2)]) (rest := []) ⟨hx, hb, hml, hown, hts⟩ (cP_setSlot l D tys A ws_28 cI hI ad k T ((pEmit T 12 ((nI ((pTake T 13 ((pSum T (pTerm T d) ((pTake T 61 ((pTake T 3 ((pAdv st))).2)).2)).2)).2).2.2.2)) ((pTake T 13 ((pSum T (pTerm T d) ((pTake T 61 ((pTake T 3 ((pAdv st))).2)).2)).2)).2))) rvl ((nI ((pEmit T 12 ((nI ((pTake T 13 ((pSum T (pTerm T d) ((pTake T 61 ((pTake T 3 ((pAdv st))).2)).2)).2)).2).2.2.2)) ((pTake T 13 ((pSum T (pTerm T d) ((pTake T 61 ((pTake T 3 ((pAdv st))).2)).2)).2)).2))).2.2.2)) hp) tw_378 tw_380 ts_P_setSlot tw_4 tw_381 (by decide +kernel) rfl rfl (xR_ok (by omega) (by omega)) ⟨Nat.zero_le _, Nat.zero_le _⟩ (va_recv hK hP (ci := 1) (q0 := k) rfl q_290) hK hP hD hS hA hN rfl hl.1 rfl (lv_room (Nat.le_of_ble_eq_true rfl)) dP_letTerm_80) hS (fun ws_31 H locs hv_30 hP hD hS => ?_)
          obtain ⟨hF9, hp⟩ := hv_30
          have hF := hF.tr hF9
          obtain ⟨q_320, q_32t, q_32p, q_32s, q_32a⟩ := id hp
          obtain ⟨fsTq_32, htoq_32⟩ := q_32t.obj
          obtain ⟨fsPq_32, hpoq_32⟩ := q_32p.obj
          refine lv_aload_n hx hb dP_letTerm_83 rfl (lv_at hl 2 rfl) ?_
          refine lv_dup hx hb dP_letTerm_84 rfl ?_
          refine va_get (D := D) (cl := xCl) (ci := 1) (v := .int (nI ((pSet rvl ((nI ((pEmit T 12 ((nI ((pTake T 13 ((pSum T (pTerm T d) ((pTake T 61 ((pTake T 3 ((pAdv st))).2)).2)).2)).2).2.2.2)) ((pTake T 13 ((pSum T (pTerm T d) ((pTake T 61 ((pTake T 3 ((pAdv st))).2)).2)).2)).2))).2.2.2)) ((pEmit T 12 ((nI ((pTake T 13 ((pSum T (pTerm T d) ((pTake T 61 ((pTake T 3 ((pAdv st))).2)).2)).2)).2).2.2.2)) ((pTake T 13 ((pSum T (pTerm T d) ((pTake T 61 ((pTake T 3 ((pAdv st))).2)).2)).2)).2))))).2.2.2)) (C := rnP) (T := tbP) (N := 5) hx hb hts inP hown hK hP k q_320 rfl 4 (by decide) (hts _ tw_101) (fun _ h9 => h9) rfl dP_letTerm_85 ?_
          refine lv_iconst (v := 1) hx hb dP_letTerm_88 (by decide) ?_
          refine lv_iadd hx hb dP_letTerm_89 ?_
          refine lv_topi (fun v_33 ev_33 => ?_)
          refine va_put (D := D) (cl := xCl) (ci := 1) (v := .int v_33) (ty := .int) (C := rnP) (T := tbP) (N := 5) hx hb hts inP tyP toP nmP hown hK hP hD hS k q_320 rfl 4 (by decide) (hts _ tw_101) (fun _ h9 => h9) rfl (by decide +kernel) rfl rfl (Nat.le_of_ble_eq_true rfl) dP_letTerm_90 (fun H locs hP hD hS => ?_)
          obtain ⟨ws_35, hu_34, hP, hD⟩ := x_gen q_320 hP hD
          have h_36 : ws_35[k]? = some (ad k, .inr (1, [.ref (ad (k + 1)), .ref (ad (k + 5)), .ref (ad (k + 9)), .int (nI ((pSet rvl ((nI ((pEmit T 12 ((nI ((pTake T 13 ((pSum T (pTerm T d) ((pTake T 61 ((pTake T 3 ((pAdv st))).2)).2)).2)).2).2.2.2)) ((pTake T 13 ((pSum T (pTerm T d) ((pTake T 61 ((pTake T 3 ((pAdv st))).2)).2)).2)).2))).2.2.2)) ((pEmit T 12 ((nI ((pTake T 13 ((pSum T (pTerm T d) ((pTake T 61 ((pTake T 3 ((pAdv st))).2)).2)).2)).2).2.2.2)) ((pTake T 13 ((pSum T (pTerm T d) ((pTake T 61 ((pTake T 3 ((pAdv st))).2)).2)).2)).2))))).1), .int v_33])) := hu_34.1
          have h_37 := (hu_34.2 (k + 1) (by omega)).trans htoq_32
          have h_38 := (hu_34.2 (k + 5) (by omega)).trans hpoq_32
          have h_39 := (hu_34.2 (k + 9) (by omega)).trans q_32s
          have hp := hp.opn (n := ((pTake T 13 ((pSum T (pTerm T d) ((pTake T 61 ((pTake T 3 ((pAdv st))).2)).2)).2)).2).2.2.2 + 1) hu_34 (by rw [ev_33, nI_1]; rfl)
          have hF := hF.tr (hu_34.fr (a := k) (b := k + 10) (by omega) (by omega))
          obtain ⟨q_400, q_40t, q_40p, q_40s, q_40a⟩ := id hp
          obtain ⟨fsTq_40, htoq_40⟩ := q_40t.obj
          obtain ⟨fsPq_40, hpoq_40⟩ := q_40p.obj
          refine lv_aload_n hx hb dP_letTerm_93 rfl (lv_at hl 2 rfl) ?_
          refine lv_iload_n hx hb dP_letTerm_94 rfl (lv_at hl 3 rfl) ?_
          refine x_calli (x_runV (n := 1) (As := [.int (nI (12 - d))]) (rest := []) ⟨hx, hb, hml, hown, hts⟩ (HS ws_35 ((pOpen (((pTake T 13 ((pSum T (pTerm T d) ((pTake T 61 ((pTake T 3 ((pAdv st))).2)).2)).2)).2).2.2.2 + 1) ((pSet rvl ((nI ((pEmit T 12 ((nI ((pTake T 13 ((pSum T (pTerm T d) ((pTake T 61 ((pTake T 3 ((pAdv st))).2)).2)).2)).2).2.2.2)) ((pTake T 13 ((pSum T (pTerm T d) ((pTake T 61 ((pTake T 3 ((pAdv st))).2)).2)).2)).2))).2.2.2)) ((pEmit T 12 ((nI ((pTake T 13 ((pSum T (pTerm T d) ((pTake T 61 ((pTake T 3 ((pAdv st))).2)).2)).2)).2).2.2.2)) ((pTake T 13 ((pSum T (pTerm T d) ((pTake T 61 ((pTake T 3 ((pAdv st))).2)).2)).2)).2))))))) hp) tw_321 tw_323 ts_P_sum tw_4 tw_324 (by decide +kernel) rfl rfl (xR_ok (by omega) (by omega)) ⟨Nat.zero_le _, Nat.zero_le _⟩ (va_recv hK hP (ci := 1) (q0 := k) rfl q_400) hK hP hD hS hA hN rfl hl.1 rfl (lv_room (Nat.le_of_ble_eq_true rfl)) dP_letTerm_95) hS (fun rb_42 ws_43 H locs hb_41 hP hD hS => ?_)
          obtain ⟨hb_41, hF9, hp⟩ := hb_41
          have hF := hF.tr hF9
          obtain ⟨q_440, q_44t, q_44p, q_44s, q_44a⟩ := id hp
          obtain ⟨fsTq_44, htoq_44⟩ := q_44t.obj
          obtain ⟨fsPq_44, hpoq_44⟩ := q_44p.obj
          refine lv_istore (lv' := [(4, .int rb_42), (3, .int rsl), (2, .int rvl), (0, .ref (ad k)), (1, .int (nI (12 - d)))]) hx hb dP_letTerm_98 hl (by decide) rfl (fun ls hl => ?_)
          refine lv_aload_n hx hb dP_letTerm_100 rfl (lv_at hl 3 rfl) ?_
          refine lv_dup hx hb dP_letTerm_101 rfl ?_
          refine va_get (D := D) (cl := xCl) (ci := 1) (v := .int (nI ((pSum T (pTerm T d) ((pOpen (((pTake T 13 ((pSum T (pTerm T d) ((pTake T 61 ((pTake T 3 ((pAdv st))).2)).2)).2)).2).2.2.2 + 1) ((pSet rvl ((nI ((pEmit T 12 ((nI ((pTake T 13 ((pSum T (pTerm T d) ((pTake T 61 ((pTake T 3 ((pAdv st))).2)).2)).2)).2).2.2.2)) ((pTake T 13 ((pSum T (pTerm T d) ((pTake T 61 ((pTake T 3 ((pAdv st))).2)).2)).2)).2))).2.2.2)) ((pEmit T 12 ((nI ((pTake T 13 ((pSum T (pTerm T d) ((pTake T 61 ((pTake T 3 ((pAdv st))).2)).2)).2)).2).2.2.2)) ((pTake T 13 ((pSum T (pTerm T d) ((pTake T 61 ((pTake T 3 ((pAdv st))).2)).2)).2)).2)))))))).2).2.2.2)) (C := rnP) (T := tbP) (N := 5) hx hb hts inP hown hK hP k q_440 rfl 4 (by decide) (hts _ tw_101) (fun _ h9 => h9) rfl dP_letTerm_102 ?_
          refine lv_iconst (v := 1) hx hb dP_letTerm_105 (by decide) ?_
          refine lv_isub hx hb dP_letTerm_106 ?_
          refine lv_topi (fun v_45 ev_45 => ?_)
          refine va_put (D := D) (cl := xCl) (ci := 1) (v := .int v_45) (ty := .int) (C := rnP) (T := tbP) (N := 5) hx hb hts inP tyP toP nmP hown hK hP hD hS k q_440 rfl 4 (by decide) (hts _ tw_101) (fun _ h9 => h9) rfl (by decide +kernel) rfl rfl (Nat.le_of_ble_eq_true rfl) dP_letTerm_107 (fun H locs hP hD hS => ?_)
          obtain ⟨ws_47, hu_46, hP, hD⟩ := x_gen q_440 hP hD
          have h_48 : ws_47[k]? = some (ad k, .inr (1, [.ref (ad (k + 1)), .ref (ad (k + 5)), .ref (ad (k + 9)), .int (nI ((pSum T (pTerm T d) ((pOpen (((pTake T 13 ((pSum T (pTerm T d) ((pTake T 61 ((pTake T 3 ((pAdv st))).2)).2)).2)).2).2.2.2 + 1) ((pSet rvl ((nI ((pEmit T 12 ((nI ((pTake T 13 ((pSum T (pTerm T d) ((pTake T 61 ((pTake T 3 ((pAdv st))).2)).2)).2)).2).2.2.2)) ((pTake T 13 ((pSum T (pTerm T d) ((pTake T 61 ((pTake T 3 ((pAdv st))).2)).2)).2)).2))).2.2.2)) ((pEmit T 12 ((nI ((pTake T 13 ((pSum T (pTerm T d) ((pTake T 61 ((pTake T 3 ((pAdv st))).2)).2)).2)).2).2.2.2)) ((pTake T 13 ((pSum T (pTerm T d) ((pTake T 61 ((pTake T 3 ((pAdv st))).2)).2)).2)).2)))))))).2).1), .int v_45])) := hu_46.1
          have h_49 := (hu_46.2 (k + 1) (by omega)).trans htoq_44
          have h_50 := (hu_46.2 (k + 5) (by omega)).trans hpoq_44
          have h_51 := (hu_46.2 (k + 9) (by omega)).trans q_44s
          have hpo9 : ((pSum T (pTerm T d) ((pOpen (((pTake T 13 ((pSum T (pTerm T d) ((pTake T 61 ((pTake T 3 ((pAdv st))).2)).2)).2)).2).2.2.2 + 1) ((pSet rvl ((nI ((pEmit T 12 ((nI ((pTake T 13 ((pSum T (pTerm T d) ((pTake T 61 ((pTake T 3 ((pAdv st))).2)).2)).2)).2).2.2.2)) ((pTake T 13 ((pSum T (pTerm T d) ((pTake T 61 ((pTake T 3 ((pAdv st))).2)).2)).2)).2))).2.2.2)) ((pEmit T 12 ((nI ((pTake T 13 ((pSum T (pTerm T d) ((pTake T 61 ((pTake T 3 ((pAdv st))).2)).2)).2)).2).2.2.2)) ((pTake T 13 ((pSum T (pTerm T d) ((pTake T 61 ((pTake T 3 ((pAdv st))).2)).2)).2)).2)))))))).2).2.2.2 = ((pTake T 13 ((pSum T (pTerm T d) ((pTake T 61 ((pTake T 3 ((pAdv st))).2)).2)).2)).2).2.2.2 + 1 := PO_sum (PO_term T d) _
          have hp := hp.opn (n := ((pSum T (pTerm T d) ((pOpen (((pTake T 13 ((pSum T (pTerm T d) ((pTake T 61 ((pTake T 3 ((pAdv st))).2)).2)).2)).2).2.2.2 + 1) ((pSet rvl ((nI ((pEmit T 12 ((nI ((pTake T 13 ((pSum T (pTerm T d) ((pTake T 61 ((pTake T 3 ((pAdv st))).2)).2)).2)).2).2.2.2)) ((pTake T 13 ((pSum T (pTerm T d) ((pTake T 61 ((pTake T 3 ((pAdv st))).2)).2)).2)).2))).2.2.2)) ((pEmit T 12 ((nI ((pTake T 13 ((pSum T (pTerm T d) ((pTake T 61 ((pTake T 3 ((pAdv st))).2)).2)).2)).2).2.2.2)) ((pTake T 13 ((pSum T (pTerm T d) ((pTake T 61 ((pTake T 3 ((pAdv st))).2)).2)).2)).2)))))))).2).2.2.2 - 1) hu_46 (by rw [ev_45, hpo9]; exact nI_pred _)
          have hF := hF.tr (hu_46.fr (a := k) (b := k + 10) (by omega) (by omega))
          obtain ⟨q_520, q_52t, q_52p, q_52s, q_52a⟩ := id hp
          obtain ⟨fsTq_52, htoq_52⟩ := q_52t.obj
          obtain ⟨fsPq_52, hpoq_52⟩ := q_52p.obj
          refine lv_aload_n hx hb dP_letTerm_110 rfl (lv_at hl 3 rfl) ?_
          refine lv_iload_n hx hb dP_letTerm_111 rfl (lv_at hl 2 rfl) ?_
          refine lv_iload_n hx hb dP_letTerm_112 rfl (lv_at hl 1 rfl) ?_
          refine x_callv (x_runV (n := 2) (As := [.int rvl, .int rsl]) (rest := []) ⟨hx, hb, hml, hown, hts⟩ (cP_setSlot l D tys A ws_47 cI hI ad k T ((pOpen (((pSum T (pTerm T d) ((pOpen (((pTake T 13 ((pSum T (pTerm T d) ((pTake T 61 ((pTake T 3 ((pAdv st))).2)).2)).2)).2).2.2.2 + 1) ((pSet rvl ((nI ((pEmit T 12 ((nI ((pTake T 13 ((pSum T (pTerm T d) ((pTake T 61 ((pTake T 3 ((pAdv st))).2)).2)).2)).2).2.2.2)) ((pTake T 13 ((pSum T (pTerm T d) ((pTake T 61 ((pTake T 3 ((pAdv st))).2)).2)).2)).2))).2.2.2)) ((pEmit T 12 ((nI ((pTake T 13 ((pSum T (pTerm T d) ((pTake T 61 ((pTake T 3 ((pAdv st))).2)).2)).2)).2).2.2.2)) ((pTake T 13 ((pSum T (pTerm T d) ((pTake T 61 ((pTake T 3 ((pAdv st))).2)).2)).2)).2)))))))).2).2.2.2 - 1) ((pSum T (pTerm T d) ((pOpen (((pTake T 13 ((pSum T (pTerm T d) ((pTake T 61 ((pTake T 3 ((pAdv st))).2)).2)).2)).2).2.2.2 + 1) ((pSet rvl ((nI ((pEmit T 12 ((nI ((pTake T 13 ((pSum T (pTerm T d) ((pTake T 61 ((pTake T 3 ((pAdv st))).2)).2)).2)).2).2.2.2)) ((pTake T 13 ((pSum T (pTerm T d) ((pTake T 61 ((pTake T 3 ((pAdv st))).2)).2)).2)).2))).2.2.2)) ((pEmit T 12 ((nI ((pTake T 13 ((pSum T (pTerm T d) ((pTake T 61 ((pTake T 3 ((pAdv st))).2)).2)).2)).2).2.2.2)) ((pTake T 13 ((pSum T (pTerm T d) ((pTake T 61 ((pTake T 3 ((pAdv st))).2)).2)).2)).2)))))))).2))) rvl rsl hp) tw_378 tw_380 ts_P_setSlot tw_4 tw_381 (by decide +kernel) rfl rfl (xR_ok (by omega) (by omega)) ⟨Nat.zero_le _, Nat.zero_le _⟩ (va_recv hK hP (ci := 1) (q0 := k) rfl q_520) hK hP hD hS hA hN rfl hl.1 rfl (lv_room (Nat.le_of_ble_eq_true rfl)) dP_letTerm_113) hS (fun ws_54 H locs hv_53 hP hD hS => ?_)
          obtain ⟨hF9, hp⟩ := hv_53
          have hF := hF.tr hF9
          obtain ⟨q_550, q_55t, q_55p, q_55s, q_55a⟩ := id hp
          obtain ⟨fsTq_55, htoq_55⟩ := q_55t.obj
          obtain ⟨fsPq_55, hpoq_55⟩ := q_55p.obj
          refine lv_iload hx hb dP_letTerm_116 (lv_at hl 0 rfl) ?_
          exact x_zret hx hb hr (by rw [hb_41]; exact b2i_nar _) hlk hK hP hD hS dP_letTerm_118 ⟨(by have nc27 : (pTake T 3 ((pAdv st))).1 = true := b2i_n0.mp (by rw [← hb_10]; exact c27); have nc36 : (pTake T 61 ((pTake T 3 ((pAdv st))).2)).1 = true := b2i_n0.mp (by rw [← hb_14]; exact c36); have nc44 : (pSum T (pTerm T d) ((pTake T 61 ((pTake T 3 ((pAdv st))).2)).2)).1 = true := b2i_n0.mp (by rw [← hb_18]; exact c44); have nc53 : (pTake T 13 ((pSum T (pTerm T d) ((pTake T 61 ((pTake T 3 ((pAdv st))).2)).2)).2)).1 = true := b2i_n0.mp (by rw [← hb_22]; exact c53); unfold pLet; rw [if_pos nc27, if_pos nc36, if_pos nc44, if_pos nc53, ← hvl]; unfold pBound; exact hb_41), hF, (by have nc27 : (pTake T 3 ((pAdv st))).1 = true := b2i_n0.mp (by rw [← hb_10]; exact c27); have nc36 : (pTake T 61 ((pTake T 3 ((pAdv st))).2)).1 = true := b2i_n0.mp (by rw [← hb_14]; exact c36); have nc44 : (pSum T (pTerm T d) ((pTake T 61 ((pTake T 3 ((pAdv st))).2)).2)).1 = true := b2i_n0.mp (by rw [← hb_18]; exact c44); have nc53 : (pTake T 13 ((pSum T (pTerm T d) ((pTake T 61 ((pTake T 3 ((pAdv st))).2)).2)).2)).1 = true := b2i_n0.mp (by rw [← hb_22]; exact c53); unfold pLet; rw [if_pos nc27, if_pos nc36, if_pos nc44, if_pos nc53, ← hvl]; unfold pBound; rw [← hsl]; exact hp)⟩
        · refine lv_iconst (v := 0) hx hb dP_letTerm_56 (by decide) ?_
          exact x_zret hx hb hr rfl hlk hK hP hD hS dP_letTerm_57 ⟨(by have nc27 : (pTake T 3 ((pAdv st))).1 = true := b2i_n0.mp (by rw [← hb_10]; exact c27); have nc36 : (pTake T 61 ((pTake T 3 ((pAdv st))).2)).1 = true := b2i_n0.mp (by rw [← hb_14]; exact c36); have nc44 : (pSum T (pTerm T d) ((pTake T 61 ((pTake T 3 ((pAdv st))).2)).2)).1 = true := b2i_n0.mp (by rw [← hb_18]; exact c44); have nc53 : ¬ (pTake T 13 ((pSum T (pTerm T d) ((pTake T 61 ((pTake T 3 ((pAdv st))).2)).2)).2)).1 = true := (by have q := b2i_0.mp (by rw [← hb_22]; exact c53); rw [q]; decide); unfold pLet; rw [if_pos nc27, if_pos nc36, if_pos nc44, if_neg nc53]; rfl), hF, (by have nc27 : (pTake T 3 ((pAdv st))).1 = true := b2i_n0.mp (by rw [← hb_10]; exact c27); have nc36 : (pTake T 61 ((pTake T 3 ((pAdv st))).2)).1 = true := b2i_n0.mp (by rw [← hb_14]; exact c36); have nc44 : (pSum T (pTerm T d) ((pTake T 61 ((pTake T 3 ((pAdv st))).2)).2)).1 = true := b2i_n0.mp (by rw [← hb_18]; exact c44); have nc53 : ¬ (pTake T 13 ((pSum T (pTerm T d) ((pTake T 61 ((pTake T 3 ((pAdv st))).2)).2)).2)).1 = true := (by have q := b2i_0.mp (by rw [← hb_22]; exact c53); rw [q]; decide); unfold pLet; rw [if_pos nc27, if_pos nc36, if_pos nc44, if_neg nc53]; exact hp)⟩

theorem sw_term (x : Int32) : x = 2 ∨ x = 3 ∨ x = 5 ∨ x = 6 ∨ x = 7 ∨ x = 8 ∨ x = 9 ∨ x = 10 ∨ x = 11 ∨ x = 12 ∨ x = 40 ∨ (¬ x = 2 ∧ ¬ x = 3 ∧ ¬ x = 5 ∧ ¬ x = 6 ∧ ¬ x = 7 ∧ ¬ x = 8 ∧ ¬ x = 9 ∧ ¬ x = 10 ∧ ¬ x = 11 ∧ ¬ x = 12 ∧ ¬ x = 40) := by
  by_cases h2 : x = 2
  · exact Or.inl h2
  by_cases h3 : x = 3
  · exact Or.inr (Or.inl h3)
  by_cases h5 : x = 5
  · exact Or.inr (Or.inr (Or.inl h5))
  by_cases h6 : x = 6
  · exact Or.inr (Or.inr (Or.inr (Or.inl h6)))
  by_cases h7 : x = 7
  · exact Or.inr (Or.inr (Or.inr (Or.inr (Or.inl h7))))
  by_cases h8 : x = 8
  · exact Or.inr (Or.inr (Or.inr (Or.inr (Or.inr (Or.inl h8)))))
  by_cases h9 : x = 9
  · exact Or.inr (Or.inr (Or.inr (Or.inr (Or.inr (Or.inr (Or.inl h9))))))
  by_cases h10 : x = 10
  · exact Or.inr (Or.inr (Or.inr (Or.inr (Or.inr (Or.inr (Or.inr (Or.inl h10)))))))
  by_cases h11 : x = 11
  · exact Or.inr (Or.inr (Or.inr (Or.inr (Or.inr (Or.inr (Or.inr (Or.inr (Or.inl h11))))))))
  by_cases h12 : x = 12
  · exact Or.inr (Or.inr (Or.inr (Or.inr (Or.inr (Or.inr (Or.inr (Or.inr (Or.inr (Or.inl h12)))))))))
  by_cases h40 : x = 40
  · exact Or.inr (Or.inr (Or.inr (Or.inr (Or.inr (Or.inr (Or.inr (Or.inr (Or.inr (Or.inr (Or.inl h40))))))))))
  exact Or.inr (Or.inr (Or.inr (Or.inr (Or.inr (Or.inr (Or.inr (Or.inr (Or.inr (Or.inr (Or.inr (⟨h2, h3, h5, h6, h7, h8, h9, h10, h11, h12, h40⟩)))))))))))
theorem sw_offs : ∀ n, n < 39 → (¬ n = 0 ∧ ¬ n = 1 ∧ ¬ n = 3 ∧ ¬ n = 4 ∧ ¬ n = 5 ∧ ¬ n = 6 ∧ ¬ n = 7 ∧ ¬ n = 8 ∧ ¬ n = 9 ∧ ¬ n = 10 ∧ ¬ n = 38) → (#[171, 199, 281, 171, 239, 239, 257, 265, 248, 248, 273, 281, 281, 281, 281, 281, 281, 281, 281, 281, 281, 281, 281, 281, 281, 281, 281, 281, 281, 281, 281, 281, 281, 281, 281, 281, 281, 281, 204] : Array Int)[n]? = some 281 := by decide +kernel
theorem pTerm_no {T : List Tok} {d : Nat} {st : PSt} {x : Int32} (e : x = (tkAt T st).1) (h : ¬ x = 2 ∧ ¬ x = 3 ∧ ¬ x = 5 ∧ ¬ x = 6 ∧ ¬ x = 7 ∧ ¬ x = 8 ∧ ¬ x = 9 ∧ ¬ x = 10 ∧ ¬ x = 11 ∧ ¬ x = 12 ∧ ¬ x = 40) : pTerm T (d + 1) st = (false, st) := by
  obtain ⟨h2, h3, h5, h6, h7, h8, h9, h10, h11, h12, h40⟩ := h
  unfold pTerm
  rw [← e, if_neg (not_or.mpr ⟨h2, h5⟩), if_neg h3, if_neg h40, if_neg (not_or.mpr ⟨h6, h7⟩), if_neg (not_or.mpr ⟨h10, h11⟩), if_neg h8, if_neg h9, if_neg h12]

theorem b2i_f9 {b : Bool} (h : ¬ b = true) : b2i b = 0 := by cases b; rfl; exact absurd rfl h
theorem b2i_t9 {b : Bool} (h : b = true) : b2i b = 1 := by rw [h]; rfl

set_option maxHeartbeats 4000000 in
set_option maxRecDepth 100000 in
theorem cP_term_s (l : Launch) (D : va_G) (tys : List (ClassId × FieldType)) (A : Nat → Prop) (cI : ClassId) (hI : tys[0]? = some (cI, .int)) (ad : Nat → Nat) (k : Nat) (T : List Tok) (d : Nat) (HS : SumC l D tys A cI ad k T d) (hd : d < 12) : TermC l D tys A cI ad k T (d + 1) := by
  intro ws st hp
  have hF : x_fr k (k + 10) ws ws := x_fr.rf
  obtain ⟨q0, qt, qp, qs, qa⟩ := id hp
  obtain ⟨fsTq, htoq⟩ := qt.obj
  obtain ⟨fsPq, hpoq⟩ := qp.obj
  refine x_enter (by decide) rfl (Nat.le_of_ble_eq_true rfl) (fun p e s m args below meth c ls hx hb hr hlk hml hown hnm hts hK hP hD hS hA hN hl => ?_)
  have hl : lv_has ls 3 [(0, .ref (ad k)), (1, .int (nI (12 - (d + 1))))] := hl
  refine lv_iload_n hx hb dP_term_0 rfl (lv_at hl 1 rfl) ?_
  refine lv_bipush (v := 12) hx hb dP_term_1 (by decide) ?_
  refine lv_icmp_lt (tgt := 8) hx hb dP_term_3 (by decide) (fun c3 => ?_) (fun c3 => ?_)
  · refine lv_aload_n hx hb dP_term_8 rfl (lv_at hl 0 rfl) ?_
    refine va_get (D := D) (cl := xCl) (ci := 1) (v := .ref (ad (k + 1))) (C := rnP) (T := tbP) (N := 5) hx hb hts inP hown hK hP k q0 rfl 0 (by decide) (hts _ tw_97) (fun _ h9 => h9) rfl dP_term_9 ?_
    refine lv_aload_n hx hb dP_term_12 rfl (lv_at hl 0 rfl) ?_
    refine va_get (D := D) (cl := xCl) (ci := 1) (v := .int (nI st.1)) (C := rnP) (T := tbP) (N := 5) hx hb hts inP hown hK hP k q0 rfl 3 (by decide) (hts _ tw_100) (fun _ h9 => h9) rfl dP_term_13 ?_
    refine x_calli (x_runV (n := 1) (As := [.int (nI st.1)]) (rest := []) ⟨hx, hb, hml, hown, hts⟩ (cT_kindAt l D tys A ws cI hI ad (k + 1) T ((nI st.1)) qt) tw_329 tw_330 tw_331 tw_5 tw_332 (by decide +kernel) rfl rfl (xR_ok (by omega) (by omega)) ⟨Nat.zero_le _, Nat.zero_le _⟩ (va_recv hK hP (ci := 4) (q0 := k + 1) rfl htoq) hK hP hD hS hA hN rfl hl.1 rfl (lv_room (Nat.le_of_ble_eq_true rfl)) dP_term_16) hS (fun rkd ws_1 H locs hkd hP hD hS => ?_)
    obtain ⟨hkd, rfl⟩ := hkd
    rw [hp.tk] at hkd
    refine lv_istore_n (lv' := [(2, .int rkd), (0, .ref (ad k)), (1, .int (nI (12 - (d + 1))))]) hx hb dP_term_19 rfl hl (by decide) rfl (fun ls hl => ?_)
    refine lv_iload_n hx hb dP_term_20 rfl (lv_at hl 0 rfl) ?_
    rcases sw_term rkd with rfl | rfl | rfl | rfl | rfl | rfl | rfl | rfl | rfl | rfl | rfl | hno
    · have hkn : ¬ (tkAt T st).1 = 0 := by rw [← hkd]; decide
      refine lv_tableIn (tgt := 192) hx hb dP_term_21 (by decide) (by decide) rfl (by decide) ?_
      refine lv_aload_n hx hb dP_term_192 rfl (lv_at hl 1 rfl) ?_
      refine lv_iload_n hx hb dP_term_193 rfl (lv_at hl 0 rfl) ?_
      refine lv_aload_n hx hb dP_term_194 rfl (lv_at hl 1 rfl) ?_
      refine va_get (D := D) (cl := xCl) (ci := 1) (v := .ref (ad (k + 1))) (C := rnP) (T := tbP) (N := 5) hx hb hts inP hown hK hP k q0 rfl 0 (by decide) (hts _ tw_97) (fun _ h9 => h9) rfl dP_term_195 ?_
      refine lv_aload_n hx hb dP_term_198 rfl (lv_at hl 1 rfl) ?_
      refine va_get (D := D) (cl := xCl) (ci := 1) (v := .int (nI st.1)) (C := rnP) (T := tbP) (N := 5) hx hb hts inP hown hK hP k q0 rfl 3 (by decide) (hts _ tw_100) (fun _ h9 => h9) rfl dP_term_199 ?_
      refine x_calli (x_runV (n := 1) (As := [.int (nI st.1)]) (rest := [.int 2, .ref (ad k)]) ⟨hx, hb, hml, hown, hts⟩ (cT_valueAt l D tys A ws cI hI ad (k + 1) T ((nI st.1)) qt) tw_333 tw_334 tw_335 tw_5 tw_336 (by decide +kernel) rfl rfl (xR_ok (by omega) (by omega)) ⟨Nat.zero_le _, Nat.zero_le _⟩ (va_recv hK hP (ci := 4) (q0 := k + 1) rfl htoq) hK hP hD hS hA hN rfl hl.1 rfl (lv_room (Nat.le_of_ble_eq_true rfl)) dP_term_202) hS (fun rvl ws_2 H locs hvl hP hD hS => ?_)
      obtain ⟨hvl, rfl⟩ := hvl
      rw [hp.tk] at hvl
      refine x_callv (x_runV (n := 2) (As := [.int 2, .int rvl]) (rest := []) ⟨hx, hb, hml, hown, hts⟩ (cP_emit l D tys A ws cI hI ad k T st 2 rvl hp) tw_337 tw_339 ts_P_emit tw_4 tw_340 (by decide +kernel) rfl rfl (xR_ok (by omega) (by omega)) ⟨Nat.zero_le _, Nat.zero_le _⟩ (va_recv hK hP (ci := 1) (q0 := k) rfl q0) hK hP hD hS hA hN rfl hl.1 rfl (lv_room (Nat.le_of_ble_eq_true rfl)) dP_term_205) hS (fun ws_4 H locs hv_3 hP hD hS => ?_)
      obtain ⟨hF9, hp⟩ := hv_3
      have hF := hF.tr hF9
      obtain ⟨q_50, q_5t, q_5p, q_5s, q_5a⟩ := id hp
      obtain ⟨fsTq_5, htoq_5⟩ := q_5t.obj
      obtain ⟨fsPq_5, hpoq_5⟩ := q_5p.obj
      refine lv_aload_n hx hb dP_term_208 rfl (lv_at hl 1 rfl) ?_
      refine lv_dup hx hb dP_term_209 rfl ?_
      refine va_get (D := D) (cl := xCl) (ci := 1) (v := .int (nI ((pEmit T 2 rvl st)).1)) (C := rnP) (T := tbP) (N := 5) hx hb hts inP hown hK hP k q_50 rfl 3 (by decide) (hts _ tw_100) (fun _ h9 => h9) rfl dP_term_210 ?_
      refine lv_iconst (v := 1) hx hb dP_term_213 (by decide) ?_
      refine lv_iadd hx hb dP_term_214 ?_
      refine lv_topi (fun v_6 ev_6 => ?_)
      refine va_put (D := D) (cl := xCl) (ci := 1) (v := .int v_6) (ty := .int) (C := rnP) (T := tbP) (N := 5) hx hb hts inP tyP toP nmP hown hK hP hD hS k q_50 rfl 3 (by decide) (hts _ tw_100) (fun _ h9 => h9) rfl (by decide +kernel) rfl rfl (Nat.le_of_ble_eq_true rfl) dP_term_215 (fun H locs hP hD hS => ?_)
      obtain ⟨ws_8, hu_7, hP, hD⟩ := x_gen q_50 hP hD
      have h_9 : ws_8[k]? = some (ad k, .inr (1, [.ref (ad (k + 1)), .ref (ad (k + 5)), .ref (ad (k + 9)), .int v_6, .int (nI ((pEmit T 2 rvl st)).2.2.2)])) := hu_7.1
      have h_10 := (hu_7.2 (k + 1) (by omega)).trans htoq_5
      have h_11 := (hu_7.2 (k + 5) (by omega)).trans hpoq_5
      have h_12 := (hu_7.2 (k + 9) (by omega)).trans q_5s
      have hp := hp.adv hu_7 ev_6 (hkn)
      have hF := hF.tr (hu_7.fr (a := k) (b := k + 10) (by omega) (by omega))
      obtain ⟨q_130, q_13t, q_13p, q_13s, q_13a⟩ := id hp
      obtain ⟨fsTq_13, htoq_13⟩ := q_13t.obj
      obtain ⟨fsPq_13, hpoq_13⟩ := q_13p.obj
      refine lv_iconst (v := 1) hx hb dP_term_218 (by decide) ?_
      exact x_zret hx hb hr rfl hlk hK hP hD hS dP_term_219 ⟨(by unfold pTerm; rw [← hkd, if_pos (by decide)]; rfl), hF, (by unfold pTerm; rw [← hkd, if_pos (by decide)]; rw [← hvl]; exact hp)⟩
    · have hkn : ¬ (tkAt T st).1 = 0 := by rw [← hkd]; decide
      refine lv_tableIn (tgt := 220) hx hb dP_term_21 (by decide) (by decide) rfl (by decide) ?_
      refine lv_aload_n hx hb dP_term_220 rfl (lv_at hl 1 rfl) ?_
      refine x_calli (x_runV (n := 0) (As := []) (rest := []) ⟨hx, hb, hml, hown, hts⟩ (cP_letterTerm l D tys A ws cI hI ad k T st hkn hp) tw_346 tw_348 ts_P_letterTerm tw_4 tw_349 (by decide +kernel) rfl rfl (xR_ok (by omega) (by omega)) ⟨Nat.zero_le _, Nat.zero_le _⟩ (va_recv hK hP (ci := 1) (q0 := k) rfl q0) hK hP hD hS hA hN rfl hl.1 rfl (lv_room (Nat.le_of_ble_eq_true rfl)) dP_term_221) hS (fun rb_15 ws_16 H locs hb_14 hP hD hS => ?_)
      obtain ⟨hb_14, hF9, hp⟩ := hb_14
      have hF := hF.tr hF9
      obtain ⟨q_170, q_17t, q_17p, q_17s, q_17a⟩ := id hp
      obtain ⟨fsTq_17, htoq_17⟩ := q_17t.obj
      obtain ⟨fsPq_17, hpoq_17⟩ := q_17p.obj
      exact x_zret hx hb hr (by rw [hb_14]; exact b2i_nar _) hlk hK hP hD hS dP_term_224 ⟨(by unfold pTerm; rw [← hkd, if_neg (by decide), if_pos (by decide)]; exact hb_14), hF, (by unfold pTerm; rw [← hkd, if_neg (by decide), if_pos (by decide)]; exact hp)⟩
    · have hkn : ¬ (tkAt T st).1 = 0 := by rw [← hkd]; decide
      refine lv_tableIn (tgt := 192) hx hb dP_term_21 (by decide) (by decide) rfl (by decide) ?_
      refine lv_aload_n hx hb dP_term_192 rfl (lv_at hl 1 rfl) ?_
      refine lv_iload_n hx hb dP_term_193 rfl (lv_at hl 0 rfl) ?_
      refine lv_aload_n hx hb dP_term_194 rfl (lv_at hl 1 rfl) ?_
      refine va_get (D := D) (cl := xCl) (ci := 1) (v := .ref (ad (k + 1))) (C := rnP) (T := tbP) (N := 5) hx hb hts inP hown hK hP k q0 rfl 0 (by decide) (hts _ tw_97) (fun _ h9 => h9) rfl dP_term_195 ?_
      refine lv_aload_n hx hb dP_term_198 rfl (lv_at hl 1 rfl) ?_
      refine va_get (D := D) (cl := xCl) (ci := 1) (v := .int (nI st.1)) (C := rnP) (T := tbP) (N := 5) hx hb hts inP hown hK hP k q0 rfl 3 (by decide) (hts _ tw_100) (fun _ h9 => h9) rfl dP_term_199 ?_
      refine x_calli (x_runV (n := 1) (As := [.int (nI st.1)]) (rest := [.int 5, .ref (ad k)]) ⟨hx, hb, hml, hown, hts⟩ (cT_valueAt l D tys A ws cI hI ad (k + 1) T ((nI st.1)) qt) tw_333 tw_334 tw_335 tw_5 tw_336 (by decide +kernel) rfl rfl (xR_ok (by omega) (by omega)) ⟨Nat.zero_le _, Nat.zero_le _⟩ (va_recv hK hP (ci := 4) (q0 := k + 1) rfl htoq) hK hP hD hS hA hN rfl hl.1 rfl (lv_room (Nat.le_of_ble_eq_true rfl)) dP_term_202) hS (fun rvl ws_18 H locs hvl hP hD hS => ?_)
      obtain ⟨hvl, rfl⟩ := hvl
      rw [hp.tk] at hvl
      refine x_callv (x_runV (n := 2) (As := [.int 5, .int rvl]) (rest := []) ⟨hx, hb, hml, hown, hts⟩ (cP_emit l D tys A ws cI hI ad k T st 5 rvl hp) tw_337 tw_339 ts_P_emit tw_4 tw_340 (by decide +kernel) rfl rfl (xR_ok (by omega) (by omega)) ⟨Nat.zero_le _, Nat.zero_le _⟩ (va_recv hK hP (ci := 1) (q0 := k) rfl q0) hK hP hD hS hA hN rfl hl.1 rfl (lv_room (Nat.le_of_ble_eq_true rfl)) dP_term_205) hS (fun ws_20 H locs hv_19 hP hD hS => ?_)
      obtain ⟨hF9, hp⟩ := hv_19
      have hF := hF.tr hF9
      obtain ⟨q_210, q_21t, q_21p, q_21s, q_21a⟩ := id hp
      obtain ⟨fsTq_21, htoq_21⟩ := q_21t.obj
      obtain ⟨fsPq_21, hpoq_21⟩ := q_21p.obj
      refine lv_aload_n hx hb dP_term_208 rfl (lv_at hl 1 rfl) ?_
      refine lv_dup hx hb dP_term_209 rfl ?_
      refine va_get (D := D) (cl := xCl) (ci := 1) (v := .int (nI ((pEmit T 5 rvl st)).1)) (C := rnP) (T := tbP) (N := 5) hx hb hts inP hown hK hP k q_210 rfl 3 (by decide) (hts _ tw_100) (fun _ h9 => h9) rfl dP_term_210 ?_
      refine lv_iconst (v := 1) hx hb dP_term_213 (by decide) ?_
      refine lv_iadd hx hb dP_term_214 ?_
      refine lv_topi (fun v_22 ev_22 => ?_)
      refine va_put (D := D) (cl := xCl) (ci := 1) (v := .int v_22) (ty := .int) (C := rnP) (T := tbP) (N := 5) hx hb hts inP tyP toP nmP hown hK hP hD hS k q_210 rfl 3 (by decide) (hts _ tw_100) (fun _ h9 => h9) rfl (by decide +kernel) rfl rfl (Nat.le_of_ble_eq_true rfl) dP_term_215 (fun H locs hP hD hS => ?_)
      obtain ⟨ws_24, hu_23, hP, hD⟩ := x_gen q_210 hP hD
      have h_25 : ws_24[k]? = some (ad k, .inr (1, [.ref (ad (k + 1)), .ref (ad (k + 5)), .ref (ad (k + 9)), .int v_22, .int (nI ((pEmit T 5 rvl st)).2.2.2)])) := hu_23.1
      have h_26 := (hu_23.2 (k + 1) (by omega)).trans htoq_21
      have h_27 := (hu_23.2 (k + 5) (by omega)).trans hpoq_21
      have h_28 := (hu_23.2 (k + 9) (by omega)).trans q_21s
      have hp := hp.adv hu_23 ev_22 (hkn)
      have hF := hF.tr (hu_23.fr (a := k) (b := k + 10) (by omega) (by omega))
      obtain ⟨q_290, q_29t, q_29p, q_29s, q_29a⟩ := id hp
      obtain ⟨fsTq_29, htoq_29⟩ := q_29t.obj
      obtain ⟨fsPq_29, hpoq_29⟩ := q_29p.obj
      refine lv_iconst (v := 1) hx hb dP_term_218 (by decide) ?_
      exact x_zret hx hb hr rfl hlk hK hP hD hS dP_term_219 ⟨(by unfold pTerm; rw [← hkd, if_pos (by decide)]; rfl), hF, (by unfold pTerm; rw [← hkd, if_pos (by decide)]; rw [← hvl]; exact hp)⟩
    · have hkn : ¬ (tkAt T st).1 = 0 := by rw [← hkd]; decide
      refine lv_tableIn (tgt := 260) hx hb dP_term_21 (by decide) (by decide) rfl (by decide) ?_
      refine lv_aload_n hx hb dP_term_260 rfl (lv_at hl 1 rfl) ?_
      refine lv_iload_n hx hb dP_term_261 rfl (lv_at hl 0 rfl) ?_
      refine lv_iload_n hx hb dP_term_262 rfl (lv_at hl 2 rfl) ?_
      refine lv_iconst (v := 1) hx hb dP_term_263 (by decide) ?_
      refine lv_iadd hx hb dP_term_264 ?_
      refine lv_topi (fun v_30 ev_30 => ?_)
      obtain rfl : v_30 = nI (12 - d) := by rw [ev_30, nI_1, show 12 - (d + 1) + 1 = 12 - d by omega]
      refine x_calli (x_runV (n := 2) (As := [.int 6, .int (nI (12 - d))]) (rest := []) ⟨hx, hb, hml, hown, hts⟩ (cP_roundsTerm l D tys A cI hI ad k T d HS hd ws st 6 hkn hp) tw_358 tw_360 ts_P_roundsTerm tw_4 tw_361 (by decide +kernel) rfl rfl (xR_ok (by omega) (by omega)) ⟨Nat.zero_le _, Nat.zero_le _⟩ (va_recv hK hP (ci := 1) (q0 := k) rfl q0) hK hP hD hS hA hN rfl hl.1 rfl (lv_room (Nat.le_of_ble_eq_true rfl)) dP_term_265) hS (fun rb_32 ws_33 H locs hb_31 hP hD hS => ?_)
      obtain ⟨hb_31, hF9, hp⟩ := hb_31
      have hF := hF.tr hF9
      obtain ⟨q_340, q_34t, q_34p, q_34s, q_34a⟩ := id hp
      obtain ⟨fsTq_34, htoq_34⟩ := q_34t.obj
      obtain ⟨fsPq_34, hpoq_34⟩ := q_34p.obj
      exact x_zret hx hb hr (by rw [hb_31]; exact b2i_nar _) hlk hK hP hD hS dP_term_268 ⟨(by unfold pTerm; rw [← hkd, if_neg (by decide), if_neg (by decide), if_neg (by decide), if_pos (by decide)]; exact hb_31), hF, (by unfold pTerm; rw [← hkd, if_neg (by decide), if_neg (by decide), if_neg (by decide), if_pos (by decide)]; exact hp)⟩
    · have hkn : ¬ (tkAt T st).1 = 0 := by rw [← hkd]; decide
      refine lv_tableIn (tgt := 260) hx hb dP_term_21 (by decide) (by decide) rfl (by decide) ?_
      refine lv_aload_n hx hb dP_term_260 rfl (lv_at hl 1 rfl) ?_
      refine lv_iload_n hx hb dP_term_261 rfl (lv_at hl 0 rfl) ?_
      refine lv_iload_n hx hb dP_term_262 rfl (lv_at hl 2 rfl) ?_
      refine lv_iconst (v := 1) hx hb dP_term_263 (by decide) ?_
      refine lv_iadd hx hb dP_term_264 ?_
      refine lv_topi (fun v_35 ev_35 => ?_)
      obtain rfl : v_35 = nI (12 - d) := by rw [ev_35, nI_1, show 12 - (d + 1) + 1 = 12 - d by omega]
      refine x_calli (x_runV (n := 2) (As := [.int 7, .int (nI (12 - d))]) (rest := []) ⟨hx, hb, hml, hown, hts⟩ (cP_roundsTerm l D tys A cI hI ad k T d HS hd ws st 7 hkn hp) tw_358 tw_360 ts_P_roundsTerm tw_4 tw_361 (by decide +kernel) rfl rfl (xR_ok (by omega) (by omega)) ⟨Nat.zero_le _, Nat.zero_le _⟩ (va_recv hK hP (ci := 1) (q0 := k) rfl q0) hK hP hD hS hA hN rfl hl.1 rfl (lv_room (Nat.le_of_ble_eq_true rfl)) dP_term_265) hS (fun rb_37 ws_38 H locs hb_36 hP hD hS => ?_)
      obtain ⟨hb_36, hF9, hp⟩ := hb_36
      have hF := hF.tr hF9
      obtain ⟨q_390, q_39t, q_39p, q_39s, q_39a⟩ := id hp
      obtain ⟨fsTq_39, htoq_39⟩ := q_39t.obj
      obtain ⟨fsPq_39, hpoq_39⟩ := q_39p.obj
      exact x_zret hx hb hr (by rw [hb_36]; exact b2i_nar _) hlk hK hP hD hS dP_term_268 ⟨(by unfold pTerm; rw [← hkd, if_neg (by decide), if_neg (by decide), if_neg (by decide), if_pos (by decide)]; exact hb_36), hF, (by unfold pTerm; rw [← hkd, if_neg (by decide), if_neg (by decide), if_neg (by decide), if_pos (by decide)]; exact hp)⟩
    · have hkn : ¬ (tkAt T st).1 = 0 := by rw [← hkd]; decide
      refine lv_tableIn (tgt := 278) hx hb dP_term_21 (by decide) (by decide) rfl (by decide) ?_
      refine lv_aload_n hx hb dP_term_278 rfl (lv_at hl 1 rfl) ?_
      refine lv_iload_n hx hb dP_term_279 rfl (lv_at hl 2 rfl) ?_
      refine lv_iconst (v := 1) hx hb dP_term_280 (by decide) ?_
      refine lv_iadd hx hb dP_term_281 ?_
      refine lv_topi (fun v_40 ev_40 => ?_)
      obtain rfl : v_40 = nI (12 - d) := by rw [ev_40, nI_1, show 12 - (d + 1) + 1 = 12 - d by omega]
      refine x_calli (x_runV (n := 1) (As := [.int (nI (12 - d))]) (rest := []) ⟨hx, hb, hml, hown, hts⟩ (cP_wayTerm l D tys A cI hI ad k T d HS hd ws st hkn hp) tw_366 tw_368 ts_P_wayTerm tw_4 tw_369 (by decide +kernel) rfl rfl (xR_ok (by omega) (by omega)) ⟨Nat.zero_le _, Nat.zero_le _⟩ (va_recv hK hP (ci := 1) (q0 := k) rfl q0) hK hP hD hS hA hN rfl hl.1 rfl (lv_room (Nat.le_of_ble_eq_true rfl)) dP_term_282) hS (fun rb_42 ws_43 H locs hb_41 hP hD hS => ?_)
      obtain ⟨hb_41, hF9, hp⟩ := hb_41
      have hF := hF.tr hF9
      obtain ⟨q_440, q_44t, q_44p, q_44s, q_44a⟩ := id hp
      obtain ⟨fsTq_44, htoq_44⟩ := q_44t.obj
      obtain ⟨fsPq_44, hpoq_44⟩ := q_44p.obj
      exact x_zret hx hb hr (by rw [hb_41]; exact b2i_nar _) hlk hK hP hD hS dP_term_285 ⟨(by unfold pTerm; rw [← hkd, if_neg (by decide), if_neg (by decide), if_neg (by decide), if_neg (by decide), if_neg (by decide), if_pos (by decide)]; exact hb_41), hF, (by unfold pTerm; rw [← hkd, if_neg (by decide), if_neg (by decide), if_neg (by decide), if_neg (by decide), if_neg (by decide), if_pos (by decide)]; exact hp)⟩
    · have hkn : ¬ (tkAt T st).1 = 0 := by rw [← hkd]; decide
      refine lv_tableIn (tgt := 286) hx hb dP_term_21 (by decide) (by decide) rfl (by decide) ?_
      refine lv_aload_n hx hb dP_term_286 rfl (lv_at hl 1 rfl) ?_
      refine lv_iload_n hx hb dP_term_287 rfl (lv_at hl 2 rfl) ?_
      refine lv_iconst (v := 1) hx hb dP_term_288 (by decide) ?_
      refine lv_iadd hx hb dP_term_289 ?_
      refine lv_topi (fun v_45 ev_45 => ?_)
      obtain rfl : v_45 = nI (12 - d) := by rw [ev_45, nI_1, show 12 - (d + 1) + 1 = 12 - d by omega]
      refine x_calli (x_runV (n := 1) (As := [.int (nI (12 - d))]) (rest := []) ⟨hx, hb, hml, hown, hts⟩ (cP_kindTerm l D tys A cI hI ad k T d HS hd ws st hkn hp) tw_370 tw_372 ts_P_kindTerm tw_4 tw_373 (by decide +kernel) rfl rfl (xR_ok (by omega) (by omega)) ⟨Nat.zero_le _, Nat.zero_le _⟩ (va_recv hK hP (ci := 1) (q0 := k) rfl q0) hK hP hD hS hA hN rfl hl.1 rfl (lv_room (Nat.le_of_ble_eq_true rfl)) dP_term_290) hS (fun rb_47 ws_48 H locs hb_46 hP hD hS => ?_)
      obtain ⟨hb_46, hF9, hp⟩ := hb_46
      have hF := hF.tr hF9
      obtain ⟨q_490, q_49t, q_49p, q_49s, q_49a⟩ := id hp
      obtain ⟨fsTq_49, htoq_49⟩ := q_49t.obj
      obtain ⟨fsPq_49, hpoq_49⟩ := q_49p.obj
      exact x_zret hx hb hr (by rw [hb_46]; exact b2i_nar _) hlk hK hP hD hS dP_term_293 ⟨(by unfold pTerm; rw [← hkd, if_neg (by decide), if_neg (by decide), if_neg (by decide), if_neg (by decide), if_neg (by decide), if_neg (by decide), if_pos (by decide)]; exact hb_46), hF, (by unfold pTerm; rw [← hkd, if_neg (by decide), if_neg (by decide), if_neg (by decide), if_neg (by decide), if_neg (by decide), if_neg (by decide), if_pos (by decide)]; exact hp)⟩
    · have hkn : ¬ (tkAt T st).1 = 0 := by rw [← hkd]; decide
      refine lv_tableIn (tgt := 269) hx hb dP_term_21 (by decide) (by decide) rfl (by decide) ?_
      refine lv_aload_n hx hb dP_term_269 rfl (lv_at hl 1 rfl) ?_
      refine lv_iload_n hx hb dP_term_270 rfl (lv_at hl 0 rfl) ?_
      refine lv_iload_n hx hb dP_term_271 rfl (lv_at hl 2 rfl) ?_
      refine lv_iconst (v := 1) hx hb dP_term_272 (by decide) ?_
      refine lv_iadd hx hb dP_term_273 ?_
      refine lv_topi (fun v_50 ev_50 => ?_)
      obtain rfl : v_50 = nI (12 - d) := by rw [ev_50, nI_1, show 12 - (d + 1) + 1 = 12 - d by omega]
      refine x_calli (x_runV (n := 2) (As := [.int 10, .int (nI (12 - d))]) (rest := []) ⟨hx, hb, hml, hown, hts⟩ (cP_plainTerm l D tys A cI hI ad k T d HS hd ws st 10 hkn hp) tw_362 tw_364 ts_P_plainTerm tw_4 tw_365 (by decide +kernel) rfl rfl (xR_ok (by omega) (by omega)) ⟨Nat.zero_le _, Nat.zero_le _⟩ (va_recv hK hP (ci := 1) (q0 := k) rfl q0) hK hP hD hS hA hN rfl hl.1 rfl (lv_room (Nat.le_of_ble_eq_true rfl)) dP_term_274) hS (fun rb_52 ws_53 H locs hb_51 hP hD hS => ?_)
      obtain ⟨hb_51, hF9, hp⟩ := hb_51
      have hF := hF.tr hF9
      obtain ⟨q_540, q_54t, q_54p, q_54s, q_54a⟩ := id hp
      obtain ⟨fsTq_54, htoq_54⟩ := q_54t.obj
      obtain ⟨fsPq_54, hpoq_54⟩ := q_54p.obj
      exact x_zret hx hb hr (by rw [hb_51]; exact b2i_nar _) hlk hK hP hD hS dP_term_277 ⟨(by unfold pTerm; rw [← hkd, if_neg (by decide), if_neg (by decide), if_neg (by decide), if_neg (by decide), if_pos (by decide)]; exact hb_51), hF, (by unfold pTerm; rw [← hkd, if_neg (by decide), if_neg (by decide), if_neg (by decide), if_neg (by decide), if_pos (by decide)]; exact hp)⟩
    · have hkn : ¬ (tkAt T st).1 = 0 := by rw [← hkd]; decide
      refine lv_tableIn (tgt := 269) hx hb dP_term_21 (by decide) (by decide) rfl (by decide) ?_
      refine lv_aload_n hx hb dP_term_269 rfl (lv_at hl 1 rfl) ?_
      refine lv_iload_n hx hb dP_term_270 rfl (lv_at hl 0 rfl) ?_
      refine lv_iload_n hx hb dP_term_271 rfl (lv_at hl 2 rfl) ?_
      refine lv_iconst (v := 1) hx hb dP_term_272 (by decide) ?_
      refine lv_iadd hx hb dP_term_273 ?_
      refine lv_topi (fun v_55 ev_55 => ?_)
      obtain rfl : v_55 = nI (12 - d) := by rw [ev_55, nI_1, show 12 - (d + 1) + 1 = 12 - d by omega]
      refine x_calli (x_runV (n := 2) (As := [.int 11, .int (nI (12 - d))]) (rest := []) ⟨hx, hb, hml, hown, hts⟩ (cP_plainTerm l D tys A cI hI ad k T d HS hd ws st 11 hkn hp) tw_362 tw_364 ts_P_plainTerm tw_4 tw_365 (by decide +kernel) rfl rfl (xR_ok (by omega) (by omega)) ⟨Nat.zero_le _, Nat.zero_le _⟩ (va_recv hK hP (ci := 1) (q0 := k) rfl q0) hK hP hD hS hA hN rfl hl.1 rfl (lv_room (Nat.le_of_ble_eq_true rfl)) dP_term_274) hS (fun rb_57 ws_58 H locs hb_56 hP hD hS => ?_)
      obtain ⟨hb_56, hF9, hp⟩ := hb_56
      have hF := hF.tr hF9
      obtain ⟨q_590, q_59t, q_59p, q_59s, q_59a⟩ := id hp
      obtain ⟨fsTq_59, htoq_59⟩ := q_59t.obj
      obtain ⟨fsPq_59, hpoq_59⟩ := q_59p.obj
      exact x_zret hx hb hr (by rw [hb_56]; exact b2i_nar _) hlk hK hP hD hS dP_term_277 ⟨(by unfold pTerm; rw [← hkd, if_neg (by decide), if_neg (by decide), if_neg (by decide), if_neg (by decide), if_pos (by decide)]; exact hb_56), hF, (by unfold pTerm; rw [← hkd, if_neg (by decide), if_neg (by decide), if_neg (by decide), if_neg (by decide), if_pos (by decide)]; exact hp)⟩
    · have hkn : ¬ (tkAt T st).1 = 0 := by rw [← hkd]; decide
      refine lv_tableIn (tgt := 294) hx hb dP_term_21 (by decide) (by decide) rfl (by decide) ?_
      refine lv_aload_n hx hb dP_term_294 rfl (lv_at hl 1 rfl) ?_
      refine lv_iload_n hx hb dP_term_295 rfl (lv_at hl 2 rfl) ?_
      refine lv_iconst (v := 1) hx hb dP_term_296 (by decide) ?_
      refine lv_iadd hx hb dP_term_297 ?_
      refine lv_topi (fun v_60 ev_60 => ?_)
      obtain rfl : v_60 = nI (12 - d) := by rw [ev_60, nI_1, show 12 - (d + 1) + 1 = 12 - d by omega]
      refine x_calli (x_runV (n := 1) (As := [.int (nI (12 - d))]) (rest := []) ⟨hx, hb, hml, hown, hts⟩ (cP_letTerm l D tys A cI hI ad k T d HS hd ws st hkn hp) tw_374 tw_376 ts_P_letTerm tw_4 tw_377 (by decide +kernel) rfl rfl (xR_ok (by omega) (by omega)) ⟨Nat.zero_le _, Nat.zero_le _⟩ (va_recv hK hP (ci := 1) (q0 := k) rfl q0) hK hP hD hS hA hN rfl hl.1 rfl (lv_room (Nat.le_of_ble_eq_true rfl)) dP_term_298) hS (fun rb_62 ws_63 H locs hb_61 hP hD hS => ?_)
      obtain ⟨hb_61, hF9, hp⟩ := hb_61
      have hF := hF.tr hF9
      obtain ⟨q_640, q_64t, q_64p, q_64s, q_64a⟩ := id hp
      obtain ⟨fsTq_64, htoq_64⟩ := q_64t.obj
      obtain ⟨fsPq_64, hpoq_64⟩ := q_64p.obj
      exact x_zret hx hb hr (by rw [hb_61]; exact b2i_nar _) hlk hK hP hD hS dP_term_301 ⟨(by unfold pTerm; rw [← hkd, if_neg (by decide), if_neg (by decide), if_neg (by decide), if_neg (by decide), if_neg (by decide), if_neg (by decide), if_neg (by decide), if_pos (by decide)]; exact hb_61), hF, (by unfold pTerm; rw [← hkd, if_neg (by decide), if_neg (by decide), if_neg (by decide), if_neg (by decide), if_neg (by decide), if_neg (by decide), if_neg (by decide), if_pos (by decide)]; exact hp)⟩
    · have hkn : ¬ (tkAt T st).1 = 0 := by rw [← hkd]; decide
      refine lv_tableIn (tgt := 225) hx hb dP_term_21 (by decide) (by decide) rfl (by decide) ?_
      refine lv_aload_n hx hb dP_term_225 rfl (lv_at hl 1 rfl) ?_
      refine lv_dup hx hb dP_term_226 rfl ?_
      refine va_get (D := D) (cl := xCl) (ci := 1) (v := .int (nI st.1)) (C := rnP) (T := tbP) (N := 5) hx hb hts inP hown hK hP k q0 rfl 3 (by decide) (hts _ tw_100) (fun _ h9 => h9) rfl dP_term_227 ?_
      refine lv_iconst (v := 1) hx hb dP_term_230 (by decide) ?_
      refine lv_iadd hx hb dP_term_231 ?_
      refine lv_topi (fun v_65 ev_65 => ?_)
      refine va_put (D := D) (cl := xCl) (ci := 1) (v := .int v_65) (ty := .int) (C := rnP) (T := tbP) (N := 5) hx hb hts inP tyP toP nmP hown hK hP hD hS k q0 rfl 3 (by decide) (hts _ tw_100) (fun _ h9 => h9) rfl (by decide +kernel) rfl rfl (Nat.le_of_ble_eq_true rfl) dP_term_232 (fun H locs hP hD hS => ?_)
      obtain ⟨ws_67, hu_66, hP, hD⟩ := x_gen q0 hP hD
      have h_68 : ws_67[k]? = some (ad k, .inr (1, [.ref (ad (k + 1)), .ref (ad (k + 5)), .ref (ad (k + 9)), .int v_65, .int (nI st.2.2.2)])) := hu_66.1
      have h_69 := (hu_66.2 (k + 1) (by omega)).trans htoq
      have h_70 := (hu_66.2 (k + 5) (by omega)).trans hpoq
      have h_71 := (hu_66.2 (k + 9) (by omega)).trans qs
      have hp := hp.adv hu_66 ev_65 (hkn)
      have hF := hF.tr (hu_66.fr (a := k) (b := k + 10) (by omega) (by omega))
      obtain ⟨q_720, q_72t, q_72p, q_72s, q_72a⟩ := id hp
      obtain ⟨fsTq_72, htoq_72⟩ := q_72t.obj
      obtain ⟨fsPq_72, hpoq_72⟩ := q_72p.obj
      refine lv_aload_n hx hb dP_term_235 rfl (lv_at hl 1 rfl) ?_
      refine lv_iload_n hx hb dP_term_236 rfl (lv_at hl 2 rfl) ?_
      refine lv_iconst (v := 1) hx hb dP_term_237 (by decide) ?_
      refine lv_iadd hx hb dP_term_238 ?_
      refine lv_topi (fun v_73 ev_73 => ?_)
      obtain rfl : v_73 = nI (12 - d) := by rw [ev_73, nI_1, show 12 - (d + 1) + 1 = 12 - d by omega]
      refine x_calli (x_runV (n := 1) (As := [.int (nI (12 - d))]) (rest := []) ⟨hx, hb, hml, hown, hts⟩ (HS ws_67 ((pAdv st)) hp) tw_321 tw_323 ts_P_sum tw_4 tw_324 (by decide +kernel) rfl rfl (xR_ok (by omega) (by omega)) ⟨Nat.zero_le _, Nat.zero_le _⟩ (va_recv hK hP (ci := 1) (q0 := k) rfl q_720) hK hP hD hS hA hN rfl hl.1 rfl (lv_room (Nat.le_of_ble_eq_true rfl)) dP_term_239) hS (fun rb_75 ws_76 H locs hb_74 hP hD hS => ?_)
      obtain ⟨hb_74, hF9, hp⟩ := hb_74
      have hF := hF.tr hF9
      obtain ⟨q_770, q_77t, q_77p, q_77s, q_77a⟩ := id hp
      obtain ⟨fsTq_77, htoq_77⟩ := q_77t.obj
      obtain ⟨fsPq_77, hpoq_77⟩ := q_77p.obj
      refine lv_if_eq (tgt := 258) hx hb dP_term_242 (by decide) (fun c242 => ?_) (fun c242 => ?_)
      · refine lv_iconst (v := 0) hx hb dP_term_258 (by decide) ?_
        exact x_zret hx hb hr rfl hlk hK hP hD hS dP_term_259 ⟨(by have nc242 : ¬ (pSum T (pTerm T d) ((pAdv st))).1 = true := (by have q := b2i_0.mp (by rw [← hb_74]; exact c242); rw [q]; decide); unfold pTerm; rw [← hkd, if_neg (by decide), if_neg (by decide), if_pos (by decide)]; unfold pParen; rw [if_neg nc242]; rfl), hF, (by have nc242 : ¬ (pSum T (pTerm T d) ((pAdv st))).1 = true := (by have q := b2i_0.mp (by rw [← hb_74]; exact c242); rw [q]; decide); unfold pTerm; rw [← hkd, if_neg (by decide), if_neg (by decide), if_pos (by decide)]; unfold pParen; rw [if_neg nc242]; exact hp)⟩
      · refine lv_aload_n hx hb dP_term_245 rfl (lv_at hl 1 rfl) ?_
        refine lv_bipush (v := 41) hx hb dP_term_246 (by decide) ?_
        refine x_calli (x_runV (n := 1) (As := [.int 41]) (rest := []) ⟨hx, hb, hml, hown, hts⟩ (cP_take l D tys A ws_76 cI hI ad k T ((pSum T (pTerm T d) ((pAdv st))).2) 41 (by decide) hp) tw_354 tw_356 ts_P_take tw_4 tw_357 (by decide +kernel) rfl rfl (xR_ok (by omega) (by omega)) ⟨Nat.zero_le _, Nat.zero_le _⟩ (va_recv hK hP (ci := 1) (q0 := k) rfl q_770) hK hP hD hS hA hN rfl hl.1 rfl (lv_room (Nat.le_of_ble_eq_true rfl)) dP_term_248) hS (fun rb_79 ws_80 H locs hb_78 hP hD hS => ?_)
        obtain ⟨hb_78, hF9, hp⟩ := hb_78
        have hF := hF.tr hF9
        obtain ⟨q_810, q_81t, q_81p, q_81s, q_81a⟩ := id hp
        obtain ⟨fsTq_81, htoq_81⟩ := q_81t.obj
        obtain ⟨fsPq_81, hpoq_81⟩ := q_81p.obj
        refine lv_if_eq (tgt := 258) hx hb dP_term_251 (by decide) (fun c251 => ?_) (fun c251 => ?_)
        · refine lv_iconst (v := 0) hx hb dP_term_258 (by decide) ?_
          exact x_zret hx hb hr rfl hlk hK hP hD hS dP_term_259 ⟨(by have nc242 : (pSum T (pTerm T d) ((pAdv st))).1 = true := b2i_n0.mp (by rw [← hb_74]; exact c242); have nc251 : ¬ (pTake T 41 ((pSum T (pTerm T d) ((pAdv st))).2)).1 = true := (by have q := b2i_0.mp (by rw [← hb_78]; exact c251); rw [q]; decide); unfold pTerm; rw [← hkd, if_neg (by decide), if_neg (by decide), if_pos (by decide)]; unfold pParen; rw [if_pos nc242]; exact (b2i_f9 nc251).symm), hF, (by have nc242 : (pSum T (pTerm T d) ((pAdv st))).1 = true := b2i_n0.mp (by rw [← hb_74]; exact c242); have nc251 : ¬ (pTake T 41 ((pSum T (pTerm T d) ((pAdv st))).2)).1 = true := (by have q := b2i_0.mp (by rw [← hb_78]; exact c251); rw [q]; decide); unfold pTerm; rw [← hkd, if_neg (by decide), if_neg (by decide), if_pos (by decide)]; unfold pParen; rw [if_pos nc242]; exact hp)⟩
        · refine lv_iconst (v := 1) hx hb dP_term_254 (by decide) ?_
          refine lv_goto (tgt := 259) hx hb dP_term_255 (by decide) ?_
          exact x_zret hx hb hr rfl hlk hK hP hD hS dP_term_259 ⟨(by have nc242 : (pSum T (pTerm T d) ((pAdv st))).1 = true := b2i_n0.mp (by rw [← hb_74]; exact c242); have nc251 : (pTake T 41 ((pSum T (pTerm T d) ((pAdv st))).2)).1 = true := b2i_n0.mp (by rw [← hb_78]; exact c251); unfold pTerm; rw [← hkd, if_neg (by decide), if_neg (by decide), if_pos (by decide)]; unfold pParen; rw [if_pos nc242]; exact (b2i_t9 nc251).symm), hF, (by have nc242 : (pSum T (pTerm T d) ((pAdv st))).1 = true := b2i_n0.mp (by rw [← hb_74]; exact c242); have nc251 : (pTake T 41 ((pSum T (pTerm T d) ((pAdv st))).2)).1 = true := b2i_n0.mp (by rw [← hb_78]; exact c251); unfold pTerm; rw [← hkd, if_neg (by decide), if_neg (by decide), if_pos (by decide)]; unfold pParen; rw [if_pos nc242]; exact hp)⟩
    · by_cases hr9 : rkd.toInt < 2 ∨ 40 < rkd.toInt
      · refine lv_tableOut (tgt := 302) hx hb dP_term_21 hr9 (by decide) ?_
        refine lv_iconst (v := 0) hx hb dP_term_302 (by decide) ?_
        exact x_zret hx hb hr rfl hlk hK hP hD hS dP_term_303 ⟨(by rw [pTerm_no hkd hno]; rfl), hF, (by rw [pTerm_no hkd hno]; exact hp)⟩
      · obtain ⟨n9, hn9, en9⟩ : ∃ n : Nat, n < 39 ∧ rkd.toInt = (n : Int) + 2 := ⟨(rkd.toInt - 2).toNat, by omega, by omega⟩
        refine lv_tableIn (off := 281) (tgt := 302) hx hb dP_term_21 (by omega) (by omega) (by rw [show (rkd.toInt - 2).toNat = n9 by omega]; exact sw_offs n9 hn9 ⟨fun q => hno.1 (by rw [i32_eq, en9, q]; rfl), fun q => hno.2.1 (by rw [i32_eq, en9, q]; rfl), fun q => hno.2.2.1 (by rw [i32_eq, en9, q]; rfl), fun q => hno.2.2.2.1 (by rw [i32_eq, en9, q]; rfl), fun q => hno.2.2.2.2.1 (by rw [i32_eq, en9, q]; rfl), fun q => hno.2.2.2.2.2.1 (by rw [i32_eq, en9, q]; rfl), fun q => hno.2.2.2.2.2.2.1 (by rw [i32_eq, en9, q]; rfl), fun q => hno.2.2.2.2.2.2.2.1 (by rw [i32_eq, en9, q]; rfl), fun q => hno.2.2.2.2.2.2.2.2.1 (by rw [i32_eq, en9, q]; rfl), fun q => hno.2.2.2.2.2.2.2.2.2.1 (by rw [i32_eq, en9, q]; rfl), fun q => hno.2.2.2.2.2.2.2.2.2.2 (by rw [i32_eq, en9, q]; rfl)⟩) (by decide) ?_
        refine lv_iconst (v := 0) hx hb dP_term_302 (by decide) ?_
        exact x_zret hx hb hr rfl hlk hK hP hD hS dP_term_303 ⟨(by rw [pTerm_no hkd hno]; rfl), hF, (by rw [pTerm_no hkd hno]; exact hp)⟩
  · exact absurd (nI_lt (a := 12 - (d + 1)) (b := 12) (by omega) (by omega)) c3

set_option maxHeartbeats 4000000 in
set_option maxRecDepth 100000 in
theorem cP_term_0 (l : Launch) (D : va_G) (tys : List (ClassId × FieldType)) (A : Nat → Prop) (cI : ClassId) (hI : tys[0]? = some (cI, .int)) (ad : Nat → Nat) (k : Nat) (T : List Tok) : TermC l D tys A cI ad k T 0 := by
  intro ws st hp
  have hF : x_fr k (k + 10) ws ws := x_fr.rf
  obtain ⟨q0, qt, qp, qs, qa⟩ := id hp
  obtain ⟨fsTq, htoq⟩ := qt.obj
  obtain ⟨fsPq, hpoq⟩ := qp.obj
  refine x_enter (by decide) rfl (Nat.le_of_ble_eq_true rfl) (fun p e s m args below meth c ls hx hb hr hlk hml hown hnm hts hK hP hD hS hA hN hl => ?_)
  have hl : lv_has ls 3 [(0, .ref (ad k)), (1, .int (nI (12 - 0)))] := hl
  refine lv_iload_n hx hb dP_term_0 rfl (lv_at hl 1 rfl) ?_
  refine lv_bipush (v := 12) hx hb dP_term_1 (by decide) ?_
  refine lv_icmp_lt (tgt := 8) hx hb dP_term_3 (by decide) (fun c3 => ?_) (fun c3 => ?_)
  · exact absurd c3 (by decide)
  · refine lv_iconst (v := 0) hx hb dP_term_6 (by decide) ?_
    exact x_zret hx hb hr rfl hlk hK hP hD hS dP_term_7 ⟨rfl, hF, hp⟩

theorem cP_all (l : Launch) (D : va_G) (tys : List (ClassId × FieldType)) (A : Nat → Prop) (cI : ClassId) (hI : tys[0]? = some (cI, .int)) (ad : Nat → Nat) (k : Nat) (T : List Tok) : ∀ d, d ≤ 12 → TermC l D tys A cI ad k T d := by
  intro d
  induction d with
  | zero => intro _; exact cP_term_0 l D tys A cI hI ad k T
  | succ d ih => intro h; exact cP_term_s l D tys A cI hI ad k T d (cP_sum l D tys A cI hI ad k T d (ih (by omega))) (by omega)
/-- Parser.sum(0): the whole text -/
theorem cP_sum12 (l : Launch) (D : va_G) (tys : List (ClassId × FieldType)) (A : Nat → Prop) (cI : ClassId) (hI : tys[0]? = some (cI, .int)) (ad : Nat → Nat) (k : Nat) (T : List Tok) : SumC l D tys A cI ad k T 12 := cP_sum l D tys A cI hI ad k T 12 (cP_all l D tys A cI hI ad k T 12 (Nat.le_refl _))
