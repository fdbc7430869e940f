set_option maxHeartbeats 4000000 in
set_option maxRecDepth 100000 in
/-- Parser.parse(text) -/
theorem cP_parse (l : Launch) (D : va_G) (tys : List (ClassId × FieldType)) (A : Nat → Prop) (ws : va_W) (adK adV : Nat → Nat) (zf : Value) (hzf : zf = .null ∨ ∃ t, zf = .ref t) (cI : ClassId) (hI : tys[0]? = some (cI, .int)) (ad : Nat → Nat) (cC : ClassId) (hC : tys[1]? = some (cC, .char)) (k kx : Nat) (hkx : kx + 2 ≤ k ∨ k + 10 ≤ kx) (T0 : List Tok) (st0 : PSt) (cs : List Nat) (T : List Tok) (hTT : T = spT cs 0) (hp : ParserAt cI ad ws k T0 st0) (hT : TextAt cC ad ws kx cs) : x_Msi l yP_parse wP_parse (xR 40) adK adV zf D xCl tys A [.ref (ad k), .ref (ad kx)] ws (fun r ws1 => x_fr k (k + 10) ws ws1 ∧ ∃ sl : Nat → Int32, (∀ c, c < 26 → sl c = -1) ∧ r = b2i ((pSum T (pTerm T 12) (0, [], sl, 0)).1 && decide ((tkAt T (pSum T (pTerm T 12) (0, [], sl, 0)).2).1 = 0)) ∧ ParserAt cI ad ws1 k T (pSum T (pTerm T 12) (0, [], sl, 0)).2) := by
  have hF : x_fr k (k + 10) ws ws := x_fr.rf
  obtain ⟨q0, qt, qp, qs, qa⟩ := id hp
  obtain ⟨fsTq, htoq⟩ := qt.obj
  obtain ⟨fsPq, hpoq⟩ := qp.obj
  obtain ⟨fsX, hxo⟩ := hT.obj
  refine x_enters (by decide) rfl (Nat.le_of_ble_eq_true rfl) (fun p e s m args below meth c ls hx hb hr hlk hml hown hnm hts hK hP hD hS hA hN hE hl => ?_)
  have hl : lv_has ls 3 [(0, .ref (ad k)), (1, .ref (ad kx))] := hl
  have loop_27 : ∀ (fu9 : Nat) (i : Nat) (f : Nat → Int32) (hi : i ≤ 26) (ws1 : va_W) (H : Heap) (locs : List Loc) (ls : Array Slot), (∀ c, c < i → f c = -1) → x_fr k (k + 10) ws ws1 → ParserAt cI ad ws1 k T (0, [], f, 0) → 26 - i < fu9 → va_P D xCl ws1 H → va_D A ws1 → va_S A s.heap H locs → lv_has ls 3 [(0, .ref (ad k)), (1, .ref (ad kx)), (2, .int (nI i))] → W p l e (xR 40) s m args below meth c H locs 0 0 (MQ below (va_Qi (fun r ws1 => x_fr k (k + 10) ws ws1 ∧ ∃ sl : Nat → Int32, (∀ c, c < 26 → sl c = -1) ∧ r = b2i ((pSum T (pTerm T 12) (0, [], sl, 0)).1 && decide ((tkAt T (pSum T (pTerm T 12) (0, [], sl, 0)).2).1 = 0)) ∧ ParserAt cI ad ws1 k T (pSum T (pTerm T 12) (0, [], sl, 0)).2) (x_B D xCl tys A) A) args s 0 0 A) (F0 m 27 ls []) := by
    intro fu9
    induction fu9 with
    | zero => intro i f hi ws1 H locs ls hsl hF hp hme; exact absurd hme (Nat.not_lt_zero _)
    | succ fu9 ih =>
      intro i f hi ws1 H locs ls hsl hF hp hme hP hD hS hl
      obtain ⟨q0, qt, qp, qs, qa⟩ := id hp
      obtain ⟨fsTq, htoq⟩ := qt.obj
      obtain ⟨fsPq, hpoq⟩ := qp.obj
      refine lv_iload_n hx hb dP_parse_27 rfl (lv_at hl 2 rfl) ?_
      refine lv_aload_n hx hb dP_parse_28 rfl (lv_at hl 0 rfl) ?_
      refine va_get (D := D) (cl := xCl) (ci := 1) (v := .ref (ad (k + 9))) (C := rnP) (T := tbP) (N := 5) hx hb hts inP hown hK hP k q0 rfl 2 (by decide) (hts _ tw_99) (fun _ h9 => h9) rfl dP_parse_29 ?_
      refine va_alen (v := 26) hx hb hK hP (k + 9) 0 qs hI (by rfl) dP_parse_32 ?_
      refine lv_icmp_ge (tgt := 49) hx hb dP_parse_33 (by decide) (fun c33 => ?_) (fun c33 => ?_)
      · refine lv_aload_n hx hb dP_parse_49 rfl (lv_at hl 0 rfl) ?_
        refine lv_iconst (v := 0) hx hb dP_parse_50 (by decide) ?_
        refine x_calli (x_runV (n := 1) (As := [.int 0]) (rest := []) ⟨hx, hb, hml, hown, hts⟩ (cP_sum12 l D tys A cI hI ad k T ws1 (0, [], f, 0) hp) tw_321 tw_323 ts_P_sum tw_4 tw_324 (by decide +kernel) rfl rfl (xR_ok (by omega) (by omega)) ⟨Nat.zero_le _, Nat.zero_le _⟩ (va_recv hK hP (ci := 1) (q0 := k) rfl q0) hK hP hD hS hA hN rfl hl.1 rfl (lv_room (Nat.le_of_ble_eq_true rfl)) dP_parse_51) hS (fun rb_2 ws_3 H locs hb_1 hP hD hS => ?_)
        obtain ⟨hb_1, hF9, hp⟩ := hb_1
        have hF := hF.tr hF9
        obtain ⟨q_40, q_4t, q_4p, q_4s, q_4a⟩ := id hp
        obtain ⟨fsTq_4, htoq_4⟩ := q_4t.obj
        obtain ⟨fsPq_4, hpoq_4⟩ := q_4p.obj
        refine lv_if_eq (tgt := 75) hx hb dP_parse_54 (by decide) (fun c54 => ?_) (fun c54 => ?_)
        · refine lv_iconst (v := 0) hx hb dP_parse_75 (by decide) ?_
          exact x_zret hx hb hr rfl hlk hK hP hD hS dP_parse_76 ⟨hF, f, (fun c9 hc9 => hsl c9 (by have c33 : nI 26 ≤ nI i := c33; rw [nI_leI (by omega) (by omega)] at c33; omega)), (by rw [show (pSum T (pTerm T 12) (0, [], f, 0)).1 = false from b2i_0.mp (by rw [← hb_1]; exact c54)]; rfl), hp⟩
        · refine lv_aload_n hx hb dP_parse_57 rfl (lv_at hl 0 rfl) ?_
          refine va_get (D := D) (cl := xCl) (ci := 1) (v := .ref (ad (k + 1))) (C := rnP) (T := tbP) (N := 5) hx hb hts inP hown hK hP k q_40 rfl 0 (by decide) (hts _ tw_97) (fun _ h9 => h9) rfl dP_parse_58 ?_
          refine lv_aload_n hx hb dP_parse_61 rfl (lv_at hl 0 rfl) ?_
          refine va_get (D := D) (cl := xCl) (ci := 1) (v := .int (nI ((pSum T (pTerm T 12) (0, [], f, 0)).2).1)) (C := rnP) (T := tbP) (N := 5) hx hb hts inP hown hK hP k q_40 rfl 3 (by decide) (hts _ tw_100) (fun _ h9 => h9) rfl dP_parse_62 ?_
          refine x_calli (x_runV (n := 1) (As := [.int (nI ((pSum T (pTerm T 12) (0, [], f, 0)).2).1)]) (rest := []) ⟨hx, hb, hml, hown, hts⟩ (cT_kindAt l D tys A ws_3 cI hI ad (k + 1) T ((nI ((pSum T (pTerm T 12) (0, [], f, 0)).2).1)) q_4t) tw_329 tw_330 tw_331 tw_5 tw_332 (by decide +kernel) rfl rfl (xR_ok (by omega) (by omega)) ⟨Nat.zero_le _, Nat.zero_le _⟩ (va_recv hK hP (ci := 4) (q0 := k + 1) rfl htoq_4) hK hP hD hS hA hN rfl hl.1 rfl (lv_room (Nat.le_of_ble_eq_true rfl)) dP_parse_65) hS (fun rkd ws_5 H locs hkd hP hD hS => ?_)
          obtain ⟨hkd, rfl⟩ := hkd
          rw [hp.tk] at hkd
          refine lv_if_ne (tgt := 75) hx hb dP_parse_68 (by decide) (fun c68 => ?_) (fun c68 => ?_)
          · refine lv_iconst (v := 0) hx hb dP_parse_75 (by decide) ?_
            exact x_zret hx hb hr rfl hlk hK hP hD hS dP_parse_76 ⟨hF, f, (fun c9 hc9 => hsl c9 (by have c33 : nI 26 ≤ nI i := c33; rw [nI_leI (by omega) (by omega)] at c33; omega)), (by rw [decide_eq_false (show ¬ (tkAt T (pSum T (pTerm T 12) (0, [], f, 0)).2).1 = 0 from fun z9 => c68 (by rw [hkd]; exact z9)), Bool.and_false]; rfl), hp⟩
          · refine lv_iconst (v := 1) hx hb dP_parse_71 (by decide) ?_
            refine lv_goto (tgt := 76) hx hb dP_parse_72 (by decide) ?_
            exact x_zret hx hb hr rfl hlk hK hP hD hS dP_parse_76 ⟨hF, f, (fun c9 hc9 => hsl c9 (by have c33 : nI 26 ≤ nI i := c33; rw [nI_leI (by omega) (by omega)] at c33; omega)), (by rw [show (pSum T (pTerm T 12) (0, [], f, 0)).1 = true from b2i_n0.mp (by rw [← hb_1]; exact c54), decide_eq_true (show (tkAt T (pSum T (pTerm T 12) (0, [], f, 0)).2).1 = 0 by rw [← hkd]; exact c68)]; rfl), hp⟩
      · have hi2 : i < 26 := by have c33 : ¬ nI 26 ≤ nI i := c33; rw [nI_leI (by omega) (by omega)] at c33; omega
        refine lv_aload_n hx hb dP_parse_36 rfl (lv_at hl 0 rfl) ?_
        refine va_get (D := D) (cl := xCl) (ci := 1) (v := .ref (ad (k + 9))) (C := rnP) (T := tbP) (N := 5) hx hb hts inP hown hK hP k q0 rfl 2 (by decide) (hts _ tw_99) (fun _ h9 => h9) rfl dP_parse_37 ?_
        refine lv_iload_n hx hb dP_parse_40 rfl (lv_at hl 2 rfl) ?_
        refine lv_iconst (v := (-1)) hx hb dP_parse_41 (by decide) ?_
        refine va_iast hx hb hK hP hD hS (k + 9) 0 qs hI (vp_in_nI (by omega) (by omega)) dP_parse_42 (fun H locs hP hD hS => ?_)
        obtain ⟨ws_7, hu_6, hP, hD⟩ := x_gen qs hP hD
        have h_8 : ws_7[k + 9]? = some (ad (k + 9), .inl (cI, 26, .inl (upd ((0, [], f, 0)).2.2.1 ((nI i)).toNatClampNeg ((-1))))) := hu_6.1
        have h_9 := (hu_6.2 k (by omega)).trans q0
        have h_10 := (hu_6.2 (k + 1) (by omega)).trans htoq
        have h_11 := (hu_6.2 (k + 5) (by omega)).trans hpoq
        have hp : ParserAt cI ad ws_7 k T (0, [], upd f i (-1), 0) := ⟨h_9, qt.keep (hu_6.fr (a := k + 9) (b := k + 10) (by omega) (by omega)) (by omega), qp.keep (hu_6.fr (a := k + 9) (b := k + 10) (by omega) (by omega)) (by omega), (by have q9 := h_8; rw [nI_clamp (by omega)] at q9; exact q9), Nat.zero_le _⟩
        have hF := hF.tr (hu_6.fr (a := k) (b := k + 10) (by omega) (by omega))
        refine lv_iinc (v := (nI (i + 1))) (lv' := [(2, .int (nI (i + 1))), (0, .ref (ad k)), (1, .ref (ad kx))]) hx hb dP_parse_43 hl (k := 2) rfl (nI_1 _) (by decide) rfl (fun ls hl => ?_)
        refine lv_goto (tgt := 27) hx hb dP_parse_46 (by decide) ?_
        exact ih (i + 1) _ (by omega) ws_7 _ _ _ (fun c9 hc9 => by show (if c9 = i then _ else _) = _; split; rfl; exact hsl c9 (by omega)) hF hp (by omega) hP hD hS (lv_sub hl [1, 2, 0] rfl)
  refine lv_aload_n hx hb dP_parse_0 rfl (lv_at hl 1 rfl) ?_
  refine lv_aload_n hx hb dP_parse_1 rfl (lv_at hl 0 rfl) ?_
  refine va_get (D := D) (cl := xCl) (ci := 1) (v := .ref (ad (k + 1))) (C := rnP) (T := tbP) (N := 5) hx hb hts inP hown hK hP k q0 rfl 0 (by decide) (hts _ tw_97) (fun _ h9 => h9) rfl dP_parse_2 ?_
  refine x_callv (x_runVs (n := 1) (As := [.ref (ad (k + 1))]) (rest := []) ⟨hx, hb, hml, hown, hts⟩ (cX_split l D tys A ws adK adV zf hzf cC hC ad kx cs cI hI (k + 1) (by omega) T0 qt hT) tw_216 tw_217 tw_218 tw_3 tw_219 (by decide +kernel) rfl rfl ⟨by decide, by decide⟩ ⟨Nat.zero_le _, Nat.zero_le _⟩ (va_recv hK hP (ci := 5) (q0 := kx) rfl hxo) hK hP hD hS hA hN hE rfl hl.1 rfl (lv_room (Nat.le_of_ble_eq_true rfl)) dP_parse_5) hS (fun ws_12 H locs hsp hP hD hS => ?_)
  obtain ⟨hF1, hTk⟩ := hsp
  rw [← hTT] at hTk
  have hF := hF.tr (hF1.wd (by omega) (by omega))
  obtain ⟨fsT1, hto1⟩ := hTk.obj
  have qp := qp.keep hF1 (by omega)
  obtain ⟨fsP1, hpo1⟩ := qp.obj
  have z0 := (hF1 k (by omega)).trans q0
  have z9 := (hF1 (k + 9) (by omega)).trans qs
  refine lv_aload_n hx hb dP_parse_8 rfl (lv_at hl 0 rfl) ?_
  refine va_get (D := D) (cl := xCl) (ci := 1) (v := .ref (ad (k + 5))) (C := rnP) (T := tbP) (N := 5) hx hb hts inP hown hK hP k z0 rfl 1 (by decide) (hts _ tw_98) (fun _ h9 => h9) rfl dP_parse_9 ?_
  refine x_callv (x_runV (n := 0) (As := []) (rest := []) ⟨hx, hb, hml, hown, hts⟩ (cT_clear l D tys A ws_12 cI hI ad (k + 5) st0.2.1 qp) tw_320 tw_221 tw_222 tw_5 tw_223 (by decide +kernel) rfl rfl ⟨by decide, by decide⟩ ⟨Nat.zero_le _, Nat.zero_le _⟩ (va_recv hK hP (ci := 4) (q0 := k + 5) rfl hpo1) hK hP hD hS hA hN rfl hl.1 rfl (lv_room (Nat.le_of_ble_eq_true rfl)) dP_parse_12) hS (fun ws_13 H locs hcl hP hD hS => ?_)
  obtain ⟨hF2, hPk⟩ := hcl
  have hF := hF.tr (hF2.wd (by omega) (by omega))
  have hTk := hTk.keep hF2 (by omega)
  obtain ⟨fsT2, hto2⟩ := hTk.obj
  obtain ⟨fsP2, hpo2⟩ := hPk.obj
  have y0 := (hF2 k (by omega)).trans z0
  have y9 := (hF2 (k + 9) (by omega)).trans z9
  refine lv_aload_n hx hb dP_parse_15 rfl (lv_at hl 0 rfl) ?_
  refine lv_iconst (v := 0) hx hb dP_parse_16 (by decide) ?_
  refine va_put (D := D) (cl := xCl) (ci := 1) (v := .int 0) (ty := .int) (C := rnP) (T := tbP) (N := 5) hx hb hts inP tyP toP nmP hown hK hP hD hS k y0 rfl 3 (by decide) (hts _ tw_100) (fun _ h9 => h9) rfl (by decide +kernel) rfl rfl (Nat.le_of_ble_eq_true rfl) dP_parse_17 (fun H locs hP hD hS => ?_)
  obtain ⟨ws_15, hu_14, hP, hD⟩ := x_gen y0 hP hD
  have h_16 : ws_15[k]? = some (ad k, .inr (1, [.ref (ad (k + 1)), .ref (ad (k + 5)), .ref (ad (k + 9)), .int 0, .int (nI st0.2.2.2)])) := hu_14.1
  have h_17 := (hu_14.2 (k + 1) (by omega)).trans hto2
  have h_18 := (hu_14.2 (k + 5) (by omega)).trans hpo2
  have h_19 := (hu_14.2 (k + 9) (by omega)).trans y9
  refine lv_aload_n hx hb dP_parse_20 rfl (lv_at hl 0 rfl) ?_
  refine lv_iconst (v := 0) hx hb dP_parse_21 (by decide) ?_
  refine va_put (D := D) (cl := xCl) (ci := 1) (v := .int 0) (ty := .int) (C := rnP) (T := tbP) (N := 5) hx hb hts inP tyP toP nmP hown hK hP hD hS k h_16 rfl 4 (by decide) (hts _ tw_101) (fun _ h9 => h9) rfl (by decide +kernel) rfl rfl (Nat.le_of_ble_eq_true rfl) dP_parse_22 (fun H locs hP hD hS => ?_)
  obtain ⟨ws_21, hu_20, hP, hD⟩ := x_gen h_16 hP hD
  have h_22 : ws_21[k]? = some (ad k, .inr (1, [.ref (ad (k + 1)), .ref (ad (k + 5)), .ref (ad (k + 9)), .int 0, .int 0])) := hu_20.1
  have h_23 := (hu_20.2 (k + 1) (by omega)).trans h_17
  have h_24 := (hu_20.2 (k + 5) (by omega)).trans h_18
  have h_25 := (hu_20.2 (k + 9) (by omega)).trans h_19
  have hTk := hTk.keep (hu_14.fr (a := k) (b := k + 1) (by omega) (by omega)) (by omega)
  have hPk := hPk.keep (hu_14.fr (a := k) (b := k + 1) (by omega) (by omega)) (by omega)
  have hF := hF.tr (hu_14.fr (a := k) (b := k + 10) (by omega) (by omega))
  have hTk := hTk.keep (hu_20.fr (a := k) (b := k + 1) (by omega) (by omega)) (by omega)
  have hPk := hPk.keep (hu_20.fr (a := k) (b := k + 1) (by omega) (by omega)) (by omega)
  have hF := hF.tr (hu_20.fr (a := k) (b := k + 10) (by omega) (by omega))
  have hp : ParserAt cI ad ws_21 k T (0, [], st0.2.2.1, 0) := ⟨h_22, hTk, hPk, h_25, Nat.zero_le _⟩
  refine lv_iconst (v := 0) hx hb dP_parse_25 (by decide) ?_
  refine lv_istore_n (lv' := [(2, .int 0), (0, .ref (ad k)), (1, .ref (ad kx))]) hx hb dP_parse_26 rfl hl (by decide) rfl (fun ls hl => ?_)
  exact loop_27 _ 0 _ (Nat.zero_le _) ws_21 _ _ _ (fun c9 hc9 => absurd hc9 (Nat.not_lt_zero _)) hF hp (Nat.lt_succ_self _) hP hD hS (lv_sub hl [1, 2, 0] rfl)
