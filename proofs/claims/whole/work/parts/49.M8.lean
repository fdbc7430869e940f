set_option maxHeartbeats 4000000 in
set_option maxRecDepth 100000 in
theorem cM_isDigit (l : Launch) (D : va_G) (tys : List (ClassId × FieldType)) (A : Nat → Prop) (ws : va_W) (w : Nat) (hw : w < 65536) : x_Mi l yM_isDigit wM_isDigit (xR 0) D xCl tys A [.int (nI w)] ws (fun r ws1 => r = b2i (isDg w) ∧ ws = ws1) := by
  refine x_enter (by decide) rfl (Nat.le_of_ble_eq_true rfl) (fun p e s m args below meth c ls hx hb hr hlk hml hown hnm hts hK hP hD hS hA hN hl => ?_)
  have hl : lv_has ls 1 [(0, .int (nI w))] := hl
  refine lv_iload_n hx hb dM_isDigit_0 rfl (lv_at hl 0 rfl) ?_
  refine lv_bipush (v := 48) hx hb dM_isDigit_1 (by decide) ?_
  refine lv_icmp_lt (tgt := 16) hx hb dM_isDigit_3 (by decide) (fun c3 => ?_) (fun c3 => ?_)
  · refine lv_iconst (v := 0) hx hb dM_isDigit_16 (by decide) ?_
    exact x_zret hx hb hr rfl hlk hK hP hD hS dM_isDigit_17 ⟨by have nc3 : w < 48 := (by have q : nI w < nI 48 := c3; rw [nI_ltI (by omega) (by omega)] at q; exact q); rw [show isDg w = false from (by unfold isDg; exact decide_eq_false (by omega))]; rfl, rfl⟩
  · refine lv_iload_n hx hb dM_isDigit_6 rfl (lv_at hl 0 rfl) ?_
    refine lv_bipush (v := 57) hx hb dM_isDigit_7 (by decide) ?_
    refine lv_icmp_gt (tgt := 16) hx hb dM_isDigit_9 (by decide) (fun c9 => ?_) (fun c9 => ?_)
    · refine lv_iconst (v := 0) hx hb dM_isDigit_16 (by decide) ?_
      exact x_zret hx hb hr rfl hlk hK hP hD hS dM_isDigit_17 ⟨by have nc3 : ¬ w < 48 := (by have q : ¬ nI w < nI 48 := c3; rw [nI_ltI (by omega) (by omega)] at q; exact q); have nc9 : 57 < w := (by have q : nI 57 < nI w := c9; rw [nI_ltI (by omega) (by omega)] at q; exact q); rw [show isDg w = false from (by unfold isDg; exact decide_eq_false (by omega))]; rfl, rfl⟩
    · refine lv_iconst (v := 1) hx hb dM_isDigit_12 (by decide) ?_
      refine lv_goto (tgt := 17) hx hb dM_isDigit_13 (by decide) ?_
      exact x_zret hx hb hr rfl hlk hK hP hD hS dM_isDigit_17 ⟨by have nc3 : ¬ w < 48 := (by have q : ¬ nI w < nI 48 := c3; rw [nI_ltI (by omega) (by omega)] at q; exact q); have nc9 : ¬ 57 < w := (by have q : ¬ nI 57 < nI w := c9; rw [nI_ltI (by omega) (by omega)] at q; exact q); rw [show isDg w = true from (by unfold isDg; exact decide_eq_true (by omega))]; rfl, rfl⟩

set_option maxHeartbeats 4000000 in
set_option maxRecDepth 100000 in
theorem cM_isGreat (l : Launch) (D : va_G) (tys : List (ClassId × FieldType)) (A : Nat → Prop) (ws : va_W) (w : Nat) (hw : w < 65536) : x_Mi l yM_isGreat wM_isGreat (xR 0) D xCl tys A [.int (nI w)] ws (fun r ws1 => r = b2i (isCp w) ∧ ws = ws1) := by
  refine x_enter (by decide) rfl (Nat.le_of_ble_eq_true rfl) (fun p e s m args below meth c ls hx hb hr hlk hml hown hnm hts hK hP hD hS hA hN hl => ?_)
  have hl : lv_has ls 1 [(0, .int (nI w))] := hl
  refine lv_iload_n hx hb dM_isGreat_0 rfl (lv_at hl 0 rfl) ?_
  refine lv_bipush (v := 65) hx hb dM_isGreat_1 (by decide) ?_
  refine lv_icmp_lt (tgt := 16) hx hb dM_isGreat_3 (by decide) (fun c3 => ?_) (fun c3 => ?_)
  · refine lv_iconst (v := 0) hx hb dM_isGreat_16 (by decide) ?_
    exact x_zret hx hb hr rfl hlk hK hP hD hS dM_isGreat_17 ⟨by have nc3 : w < 65 := (by have q : nI w < nI 65 := c3; rw [nI_ltI (by omega) (by omega)] at q; exact q); rw [show isCp w = false from (by unfold isCp; exact decide_eq_false (by omega))]; rfl, rfl⟩
  · refine lv_iload_n hx hb dM_isGreat_6 rfl (lv_at hl 0 rfl) ?_
    refine lv_bipush (v := 90) hx hb dM_isGreat_7 (by decide) ?_
    refine lv_icmp_gt (tgt := 16) hx hb dM_isGreat_9 (by decide) (fun c9 => ?_) (fun c9 => ?_)
    · refine lv_iconst (v := 0) hx hb dM_isGreat_16 (by decide) ?_
      exact x_zret hx hb hr rfl hlk hK hP hD hS dM_isGreat_17 ⟨by have nc3 : ¬ w < 65 := (by have q : ¬ nI w < nI 65 := c3; rw [nI_ltI (by omega) (by omega)] at q; exact q); have nc9 : 90 < w := (by have q : nI 90 < nI w := c9; rw [nI_ltI (by omega) (by omega)] at q; exact q); rw [show isCp w = false from (by unfold isCp; exact decide_eq_false (by omega))]; rfl, rfl⟩
    · refine lv_iconst (v := 1) hx hb dM_isGreat_12 (by decide) ?_
      refine lv_goto (tgt := 17) hx hb dM_isGreat_13 (by decide) ?_
      exact x_zret hx hb hr rfl hlk hK hP hD hS dM_isGreat_17 ⟨by have nc3 : ¬ w < 65 := (by have q : ¬ nI w < nI 65 := c3; rw [nI_ltI (by omega) (by omega)] at q; exact q); have nc9 : ¬ 90 < w := (by have q : ¬ nI 90 < nI w := c9; rw [nI_ltI (by omega) (by omega)] at q; exact q); rw [show isCp w = true from (by unfold isCp; exact decide_eq_true (by omega))]; rfl, rfl⟩

set_option maxHeartbeats 4000000 in
set_option maxRecDepth 100000 in
theorem cM_isSign (l : Launch) (D : va_G) (tys : List (ClassId × FieldType)) (A : Nat → Prop) (ws : va_W) (w : Nat) (hw : w < 65536) : x_Mi l yM_isSign wM_isSign (xR 1) D xCl tys A [.int (nI w)] ws (fun r ws1 => r = b2i (isRw w) ∧ ws = ws1) := by
  refine x_enter (by decide) rfl (Nat.le_of_ble_eq_true rfl) (fun p e s m args below meth c ls hx hb hr hlk hml hown hnm hts hK hP hD hS hA hN hl => ?_)
  have hl : lv_has ls 1 [(0, .int (nI w))] := hl
  refine lv_iload_n hx hb dM_isSign_0 rfl (lv_at hl 0 rfl) ?_
  refine x_calli (x_runS (n := 1) (As := [.int (nI w)]) (rest := []) ⟨hx, hb, hml, hown, hts⟩ (cM_isDigit l D tys A ws w hw) tw_778 tw_779 tw_8 tw_780 (by decide +kernel) rfl rfl ⟨by decide, by decide⟩ ⟨Nat.zero_le _, Nat.zero_le _⟩ hK hP hD hS hA hN rfl hl.1 rfl (lv_room (Nat.le_of_ble_eq_true rfl)) dM_isSign_1) hS (fun rhd ws_1 H locs hd hP hD hS => ?_)
  obtain ⟨hd, rfl⟩ := hd
  refine lv_if_ne (tgt := 26) hx hb dM_isSign_4 (by decide) (fun c4 => ?_) (fun c4 => ?_)
  · refine lv_iconst (v := 1) hx hb dM_isSign_26 (by decide) ?_
    refine lv_goto (tgt := 31) hx hb dM_isSign_27 (by decide) ?_
    exact x_zret hx hb hr rfl hlk hK hP hD hS dM_isSign_31 ⟨by have nc4 : isDg w = true := (by rw [hd, b2i_n0] at c4; exact c4); unfold isDg at nc4; rw [decide_eq_true_eq] at nc4; rw [show isRw w = true from (by unfold isRw; exact decide_eq_true (by omega))]; rfl, rfl⟩
  · refine lv_iload_n hx hb dM_isSign_7 rfl (lv_at hl 0 rfl) ?_
    refine x_calli (x_runS (n := 1) (As := [.int (nI w)]) (rest := []) ⟨hx, hb, hml, hown, hts⟩ (cM_isGreat l D tys A ws w hw) tw_781 tw_782 tw_8 tw_783 (by decide +kernel) rfl rfl ⟨by decide, by decide⟩ ⟨Nat.zero_le _, Nat.zero_le _⟩ hK hP hD hS hA hN rfl hl.1 rfl (lv_room (Nat.le_of_ble_eq_true rfl)) dM_isSign_8) hS (fun rhc ws_2 H locs hc hP hD hS => ?_)
    obtain ⟨hc, rfl⟩ := hc
    refine lv_if_ne (tgt := 26) hx hb dM_isSign_11 (by decide) (fun c11 => ?_) (fun c11 => ?_)
    · refine lv_iconst (v := 1) hx hb dM_isSign_26 (by decide) ?_
      refine lv_goto (tgt := 31) hx hb dM_isSign_27 (by decide) ?_
      exact x_zret hx hb hr rfl hlk hK hP hD hS dM_isSign_31 ⟨by have nc4 : isDg w = false := (by rw [hd, b2i_0] at c4; exact c4); unfold isDg at nc4; rw [decide_eq_false_iff_not] at nc4; have nc11 : isCp w = true := (by rw [hc, b2i_n0] at c11; exact c11); unfold isCp at nc11; rw [decide_eq_true_eq] at nc11; rw [show isRw w = true from (by unfold isRw; exact decide_eq_true (by omega))]; rfl, rfl⟩
    · refine lv_iload_n hx hb dM_isSign_14 rfl (lv_at hl 0 rfl) ?_
      refine lv_bipush (v := 97) hx hb dM_isSign_15 (by decide) ?_
      refine lv_icmp_lt (tgt := 30) hx hb dM_isSign_17 (by decide) (fun c17 => ?_) (fun c17 => ?_)
      · refine lv_iconst (v := 0) hx hb dM_isSign_30 (by decide) ?_
        exact x_zret hx hb hr rfl hlk hK hP hD hS dM_isSign_31 ⟨by have nc17 : w < 97 := (by have q : nI w < nI 97 := c17; rw [nI_ltI (by omega) (by omega)] at q; exact q); have nc4 : isDg w = false := (by rw [hd, b2i_0] at c4; exact c4); unfold isDg at nc4; rw [decide_eq_false_iff_not] at nc4; have nc11 : isCp w = false := (by rw [hc, b2i_0] at c11; exact c11); unfold isCp at nc11; rw [decide_eq_false_iff_not] at nc11; rw [show isRw w = false from (by unfold isRw; exact decide_eq_false (by omega))]; rfl, rfl⟩
      · refine lv_iload_n hx hb dM_isSign_20 rfl (lv_at hl 0 rfl) ?_
        refine lv_bipush (v := 122) hx hb dM_isSign_21 (by decide) ?_
        refine lv_icmp_gt (tgt := 30) hx hb dM_isSign_23 (by decide) (fun c23 => ?_) (fun c23 => ?_)
        · refine lv_iconst (v := 0) hx hb dM_isSign_30 (by decide) ?_
          exact x_zret hx hb hr rfl hlk hK hP hD hS dM_isSign_31 ⟨by have nc17 : ¬ w < 97 := (by have q : ¬ nI w < nI 97 := c17; rw [nI_ltI (by omega) (by omega)] at q; exact q); have nc23 : 122 < w := (by have q : nI 122 < nI w := c23; rw [nI_ltI (by omega) (by omega)] at q; exact q); have nc4 : isDg w = false := (by rw [hd, b2i_0] at c4; exact c4); unfold isDg at nc4; rw [decide_eq_false_iff_not] at nc4; have nc11 : isCp w = false := (by rw [hc, b2i_0] at c11; exact c11); unfold isCp at nc11; rw [decide_eq_false_iff_not] at nc11; rw [show isRw w = false from (by unfold isRw; exact decide_eq_false (by omega))]; rfl, rfl⟩
        · refine lv_iconst (v := 1) hx hb dM_isSign_26 (by decide) ?_
          refine lv_goto (tgt := 31) hx hb dM_isSign_27 (by decide) ?_
          exact x_zret hx hb hr rfl hlk hK hP hD hS dM_isSign_31 ⟨by have nc17 : ¬ w < 97 := (by have q : ¬ nI w < nI 97 := c17; rw [nI_ltI (by omega) (by omega)] at q; exact q); have nc23 : ¬ 122 < w := (by have q : ¬ nI 122 < nI w := c23; rw [nI_ltI (by omega) (by omega)] at q; exact q); have nc4 : isDg w = false := (by rw [hd, b2i_0] at c4; exact c4); unfold isDg at nc4; rw [decide_eq_false_iff_not] at nc4; have nc11 : isCp w = false := (by rw [hc, b2i_0] at c11; exact c11); unfold isCp at nc11; rw [decide_eq_false_iff_not] at nc11; rw [show isRw w = true from (by unfold isRw; exact decide_eq_true (by omega))]; rfl, rfl⟩

set_option maxHeartbeats 4000000 in
set_option maxRecDepth 100000 in
theorem cM_fail (l : Launch) (D : va_G) (tys : List (ClassId × FieldType)) (A : Nat → Prop) (ws : va_W) (cI : ClassId) (hI : tys[0]? = some (cI, .int)) (ad : Nat → Nat) (km : Nat) (v : Nat → Int32) (F : Nat → Nat → Int32) (hM : ModF cI ad ws km v F) : x_Mv l yM_fail wM_fail (xR 0) D xCl tys A [.ref (ad km)] ws (fun ws1 => x_fr km (km + 24) ws ws1 ∧ ModF cI ad ws1 km (if v 13 = -1 then setV v 13 (v 10) else v) F) := by
  have hF : x_fr km (km + 24) ws ws := x_fr.rf
  refine x_enter (by decide) rfl (Nat.le_of_ble_eq_true rfl) (fun p e s m args below meth c ls hx hb hr hlk hml hown hnm hts hK hP hD hS hA hN hl => ?_)
  have hl : lv_has ls 1 [(0, .ref (ad km))] := hl
  refine lv_aload_n hx hb dM_fail_0 rfl (lv_at hl 0 rfl) ?_
  refine va_get (D := D) (cl := xCl) (ci := 7) (v := .int (v 13)) (C := rnM) (T := tbM) (N := 39) hx hb hts inM hown hK hP km hM.1 rfl 13 (by decide) (hts _ tw_630) (fun _ h9 => h9) rfl dM_fail_1 ?_
  refine lv_iconst (v := (-1)) hx hb dM_fail_4 (by decide) ?_
  refine lv_icmp_ne (tgt := 16) hx hb dM_fail_5 (by decide) (fun c5 => ?_) (fun c5 => ?_)
  · exact x_vret hx hb hr hlk hK hP hD hS dM_fail_16 ⟨hF, by rw [if_neg c5]; exact hM⟩
  · refine lv_aload_n hx hb dM_fail_8 rfl (lv_at hl 0 rfl) ?_
    refine lv_aload_n hx hb dM_fail_9 rfl (lv_at hl 0 rfl) ?_
    refine va_get (D := D) (cl := xCl) (ci := 7) (v := .int (v 10)) (C := rnM) (T := tbM) (N := 39) hx hb hts inM hown hK hP km hM.1 rfl 10 (by decide) (hts _ tw_627) (fun _ h9 => h9) rfl dM_fail_10 ?_
    refine va_put (D := D) (cl := xCl) (ci := 7) (v := .int (v 10)) (ty := .int) (C := rnM) (T := tbM) (N := 39) hx hb hts inM tyM toM nmM hown hK hP hD hS km hM.1 rfl 13 (by decide) (hts _ tw_630) (fun _ h9 => h9) rfl (by decide +kernel) rfl rfl (Nat.le_of_ble_eq_true rfl) dM_fail_13 (fun H locs hP hD hS => ?_)
    obtain ⟨ws_2, hu_1, hP, hD⟩ := x_gen hM.1 hP hD
    have hM : ModF cI ad ws_2 km (setV v 13 ((v 10))) F := hM.fld_13 hu_1
    have hF := hF.tr (hu_1.fr (a := km) (b := km + 24) (by omega) (by omega))
    exact x_vret hx hb hr hlk hK hP hD hS dM_fail_16 ⟨hF, by rw [if_pos c5]; exact hM⟩

set_option maxHeartbeats 4000000 in
set_option maxRecDepth 100000 in
theorem cM_wants (l : Launch) (D : va_G) (tys : List (ClassId × FieldType)) (A : Nat → Prop) (ws : va_W) (cI : ClassId) (hI : tys[0]? = some (cI, .int)) (ad : Nat → Nat) (km : Nat) (v : Nat → Int32) (F : Nat → Nat → Int32) (mu : Nat) (hmu : v 18 = nI mu) (hmu9 : mu < 400) (a1 a2 a3 : Int32) (hM : ModF cI ad ws km v F) : x_Mv l yM_wants wM_wants (xR 0) D xCl tys A [.ref (ad km), .int a1, .int a2, .int a3] ws (fun ws1 => x_fr km (km + 24) ws ws1 ∧ ModF cI ad ws1 km (setV v 18 (nI (mu + 1))) (setF (setF (setF F 7 (upd (F 7) mu a1)) 8 (upd (F 8) mu a2)) 9 (upd (F 9) mu a3))) := by
  have hF : x_fr km (km + 24) ws ws := x_fr.rf
  refine x_enter (by decide) rfl (Nat.le_of_ble_eq_true rfl) (fun p e s m args below meth c ls hx hb hr hlk hml hown hnm hts hK hP hD hS hA hN hl => ?_)
  have hl : lv_has ls 4 [(0, .ref (ad km)), (1, .int a1), (2, .int a2), (3, .int a3)] := hl
  refine lv_aload_n hx hb dM_wants_0 rfl (lv_at hl 0 rfl) ?_
  refine va_get (D := D) (cl := xCl) (ci := 7) (v := .ref (ad (km + 7))) (C := rnM) (T := tbM) (N := 39) hx hb hts inM hown hK hP km hM.1 rfl 14 (by decide) (hts _ tw_631) (fun _ h9 => h9) rfl dM_wants_1 ?_
  refine lv_aload_n hx hb dM_wants_4 rfl (lv_at hl 0 rfl) ?_
  refine va_get (D := D) (cl := xCl) (ci := 7) (v := .int (v 18)) (C := rnM) (T := tbM) (N := 39) hx hb hts inM hown hK hP km hM.1 rfl 18 (by decide) (hts _ tw_635) (fun _ h9 => h9) rfl dM_wants_5 ?_
  refine lv_iload_n hx hb dM_wants_8 rfl (lv_at hl 1 rfl) ?_
  refine va_iast hx hb hK hP hD hS (km + 7) 0 (hM.a 7 400 rfl (by omega) (by omega)) hI (by rw [hmu]; exact vp_in_nI (by omega) (by omega)) dM_wants_9 (fun H locs hP hD hS => ?_)
  obtain ⟨ws_2, hu_1, hP, hD⟩ := x_gen (hM.a 7 400 rfl (by omega) (by omega)) hP hD
  have hM : ModF cI ad ws_2 km v (setF F 7 ((upd (F 7) ((v 18)).toNatClampNeg a1))) := hM.arr 7 400 rfl (by omega) (by omega) hu_1
  have hF := hF.tr (hu_1.fr (a := km) (b := km + 24) (by omega) (by omega))
  refine lv_aload_n hx hb dM_wants_10 rfl (lv_at hl 0 rfl) ?_
  refine va_get (D := D) (cl := xCl) (ci := 7) (v := .ref (ad (km + 8))) (C := rnM) (T := tbM) (N := 39) hx hb hts inM hown hK hP km hM.1 rfl 15 (by decide) (hts _ tw_632) (fun _ h9 => h9) rfl dM_wants_11 ?_
  refine lv_aload_n hx hb dM_wants_14 rfl (lv_at hl 0 rfl) ?_
  refine va_get (D := D) (cl := xCl) (ci := 7) (v := .int (v 18)) (C := rnM) (T := tbM) (N := 39) hx hb hts inM hown hK hP km hM.1 rfl 18 (by decide) (hts _ tw_635) (fun _ h9 => h9) rfl dM_wants_15 ?_
  refine lv_iload_n hx hb dM_wants_18 rfl (lv_at hl 2 rfl) ?_
  refine va_iast hx hb hK hP hD hS (km + 8) 0 (hM.a 8 400 rfl (by omega) (by omega)) hI (by rw [hmu]; exact vp_in_nI (by omega) (by omega)) dM_wants_19 (fun H locs hP hD hS => ?_)
  obtain ⟨ws_4, hu_3, hP, hD⟩ := x_gen (hM.a 8 400 rfl (by omega) (by omega)) hP hD
  have hM : ModF cI ad ws_4 km v (setF (setF F 7 ((upd (F 7) ((v 18)).toNatClampNeg a1))) 8 ((upd (F 8) ((v 18)).toNatClampNeg a2))) := hM.arr 8 400 rfl (by omega) (by omega) hu_3
  have hF := hF.tr (hu_3.fr (a := km) (b := km + 24) (by omega) (by omega))
  refine lv_aload_n hx hb dM_wants_20 rfl (lv_at hl 0 rfl) ?_
  refine va_get (D := D) (cl := xCl) (ci := 7) (v := .ref (ad (km + 9))) (C := rnM) (T := tbM) (N := 39) hx hb hts inM hown hK hP km hM.1 rfl 16 (by decide) (hts _ tw_633) (fun _ h9 => h9) rfl dM_wants_21 ?_
  refine lv_aload_n hx hb dM_wants_24 rfl (lv_at hl 0 rfl) ?_
  refine va_get (D := D) (cl := xCl) (ci := 7) (v := .int (v 18)) (C := rnM) (T := tbM) (N := 39) hx hb hts inM hown hK hP km hM.1 rfl 18 (by decide) (hts _ tw_635) (fun _ h9 => h9) rfl dM_wants_25 ?_
  refine lv_iload_n hx hb dM_wants_28 rfl (lv_at hl 3 rfl) ?_
  refine va_iast hx hb hK hP hD hS (km + 9) 0 (hM.a 9 400 rfl (by omega) (by omega)) hI (by rw [hmu]; exact vp_in_nI (by omega) (by omega)) dM_wants_29 (fun H locs hP hD hS => ?_)
  obtain ⟨ws_6, hu_5, hP, hD⟩ := x_gen (hM.a 9 400 rfl (by omega) (by omega)) hP hD
  have hM : ModF cI ad ws_6 km v (setF (setF (setF F 7 ((upd (F 7) ((v 18)).toNatClampNeg a1))) 8 ((upd (F 8) ((v 18)).toNatClampNeg a2))) 9 ((upd (F 9) ((v 18)).toNatClampNeg a3))) := hM.arr 9 400 rfl (by omega) (by omega) hu_5
  have hF := hF.tr (hu_5.fr (a := km) (b := km + 24) (by omega) (by omega))
  refine lv_aload_n hx hb dM_wants_30 rfl (lv_at hl 0 rfl) ?_
  refine lv_dup hx hb dM_wants_31 rfl ?_
  refine va_get (D := D) (cl := xCl) (ci := 7) (v := .int (v 18)) (C := rnM) (T := tbM) (N := 39) hx hb hts inM hown hK hP km hM.1 rfl 18 (by decide) (hts _ tw_635) (fun _ h9 => h9) rfl dM_wants_32 ?_
  refine lv_iconst (v := 1) hx hb dM_wants_35 (by decide) ?_
  refine lv_iadd hx hb dM_wants_36 ?_
  refine lv_topi (fun v_7 ev_7 => ?_)
  obtain rfl := ev_7
  refine va_put (D := D) (cl := xCl) (ci := 7) (v := .int (v 18 + 1)) (ty := .int) (C := rnM) (T := tbM) (N := 39) hx hb hts inM tyM toM nmM hown hK hP hD hS km hM.1 rfl 18 (by decide) (hts _ tw_635) (fun _ h9 => h9) rfl (by decide +kernel) rfl rfl (Nat.le_of_ble_eq_true rfl) dM_wants_37 (fun H locs hP hD hS => ?_)
  obtain ⟨ws_9, hu_8, hP, hD⟩ := x_gen hM.1 hP hD
  have hM : ModF cI ad ws_9 km (setV v 18 ((v 18 + 1))) (setF (setF (setF F 7 ((upd (F 7) ((v 18)).toNatClampNeg a1))) 8 ((upd (F 8) ((v 18)).toNatClampNeg a2))) 9 ((upd (F 9) ((v 18)).toNatClampNeg a3))) := hM.fld_18 hu_8
  have hF := hF.tr (hu_8.fr (a := km) (b := km + 24) (by omega) (by omega))
  exact x_vret hx hb hr hlk hK hP hD hS dM_wants_40 ⟨hF, by have e : (v 18).toNatClampNeg = mu := (by rw [hmu, nI_clamp (by omega)]); rw [e, show v 18 + 1 = nI (mu + 1) from (by rw [hmu, nI_1])] at hM; exact hM⟩

set_option maxHeartbeats 4000000 in
set_option maxRecDepth 100000 in
theorem cM_write (l : Launch) (D : va_G) (tys : List (ClassId × FieldType)) (A : Nat → Prop) (ws : va_W) (cI : ClassId) (hI : tys[0]? = some (cI, .int)) (ad : Nat → Nat) (km : Nat) (v : Nat → Int32) (F : Nat → Nat → Int32) (mu : Nat) (hmu : v 22 = nI mu) (hmu9 : mu < 200) (a1 a2 a3 : Int32) (hM : ModF cI ad ws km v F) : x_Mv l yM_write wM_write (xR 0) D xCl tys A [.ref (ad km), .int a1, .int a2, .int a3] ws (fun ws1 => x_fr km (km + 24) ws ws1 ∧ ModF cI ad ws1 km (setV v 22 (nI (mu + 1))) (setF (setF (setF F 11 (upd (F 11) mu a1)) 12 (upd (F 12) mu a2)) 13 (upd (F 13) mu a3))) := by
  have hF : x_fr km (km + 24) ws ws := x_fr.rf
  refine x_enter (by decide) rfl (Nat.le_of_ble_eq_true rfl) (fun p e s m args below meth c ls hx hb hr hlk hml hown hnm hts hK hP hD hS hA hN hl => ?_)
  have hl : lv_has ls 4 [(0, .ref (ad km)), (1, .int a1), (2, .int a2), (3, .int a3)] := hl
  refine lv_aload_n hx hb dM_write_0 rfl (lv_at hl 0 rfl) ?_
  refine va_get (D := D) (cl := xCl) (ci := 7) (v := .ref (ad (km + 11))) (C := rnM) (T := tbM) (N := 39) hx hb hts inM hown hK hP km hM.1 rfl 19 (by decide) (hts _ tw_636) (fun _ h9 => h9) rfl dM_write_1 ?_
  refine lv_aload_n hx hb dM_write_4 rfl (lv_at hl 0 rfl) ?_
  refine va_get (D := D) (cl := xCl) (ci := 7) (v := .int (v 22)) (C := rnM) (T := tbM) (N := 39) hx hb hts inM hown hK hP km hM.1 rfl 22 (by decide) (hts _ tw_639) (fun _ h9 => h9) rfl dM_write_5 ?_
  refine lv_iload_n hx hb dM_write_8 rfl (lv_at hl 1 rfl) ?_
  refine va_iast hx hb hK hP hD hS (km + 11) 0 (hM.a 11 200 rfl (by omega) (by omega)) hI (by rw [hmu]; exact vp_in_nI (by omega) (by omega)) dM_write_9 (fun H locs hP hD hS => ?_)
  obtain ⟨ws_2, hu_1, hP, hD⟩ := x_gen (hM.a 11 200 rfl (by omega) (by omega)) hP hD
  have hM : ModF cI ad ws_2 km v (setF F 11 ((upd (F 11) ((v 22)).toNatClampNeg a1))) := hM.arr 11 200 rfl (by omega) (by omega) hu_1
  have hF := hF.tr (hu_1.fr (a := km) (b := km + 24) (by omega) (by omega))
  refine lv_aload_n hx hb dM_write_10 rfl (lv_at hl 0 rfl) ?_
  refine va_get (D := D) (cl := xCl) (ci := 7) (v := .ref (ad (km + 12))) (C := rnM) (T := tbM) (N := 39) hx hb hts inM hown hK hP km hM.1 rfl 20 (by decide) (hts _ tw_637) (fun _ h9 => h9) rfl dM_write_11 ?_
  refine lv_aload_n hx hb dM_write_14 rfl (lv_at hl 0 rfl) ?_
  refine va_get (D := D) (cl := xCl) (ci := 7) (v := .int (v 22)) (C := rnM) (T := tbM) (N := 39) hx hb hts inM hown hK hP km hM.1 rfl 22 (by decide) (hts _ tw_639) (fun _ h9 => h9) rfl dM_write_15 ?_
  refine lv_iload_n hx hb dM_write_18 rfl (lv_at hl 2 rfl) ?_
  refine va_iast hx hb hK hP hD hS (km + 12) 0 (hM.a 12 200 rfl (by omega) (by omega)) hI (by rw [hmu]; exact vp_in_nI (by omega) (by omega)) dM_write_19 (fun H locs hP hD hS => ?_)
  obtain ⟨ws_4, hu_3, hP, hD⟩ := x_gen (hM.a 12 200 rfl (by omega) (by omega)) hP hD
  have hM : ModF cI ad ws_4 km v (setF (setF F 11 ((upd (F 11) ((v 22)).toNatClampNeg a1))) 12 ((upd (F 12) ((v 22)).toNatClampNeg a2))) := hM.arr 12 200 rfl (by omega) (by omega) hu_3
  have hF := hF.tr (hu_3.fr (a := km) (b := km + 24) (by omega) (by omega))
  refine lv_aload_n hx hb dM_write_20 rfl (lv_at hl 0 rfl) ?_
  refine va_get (D := D) (cl := xCl) (ci := 7) (v := .ref (ad (km + 13))) (C := rnM) (T := tbM) (N := 39) hx hb hts inM hown hK hP km hM.1 rfl 21 (by decide) (hts _ tw_638) (fun _ h9 => h9) rfl dM_write_21 ?_
  refine lv_aload_n hx hb dM_write_24 rfl (lv_at hl 0 rfl) ?_
  refine va_get (D := D) (cl := xCl) (ci := 7) (v := .int (v 22)) (C := rnM) (T := tbM) (N := 39) hx hb hts inM hown hK hP km hM.1 rfl 22 (by decide) (hts _ tw_639) (fun _ h9 => h9) rfl dM_write_25 ?_
  refine lv_iload_n hx hb dM_write_28 rfl (lv_at hl 3 rfl) ?_
  refine va_iast hx hb hK hP hD hS (km + 13) 0 (hM.a 13 200 rfl (by omega) (by omega)) hI (by rw [hmu]; exact vp_in_nI (by omega) (by omega)) dM_write_29 (fun H locs hP hD hS => ?_)
  obtain ⟨ws_6, hu_5, hP, hD⟩ := x_gen (hM.a 13 200 rfl (by omega) (by omega)) hP hD
  have hM : ModF cI ad ws_6 km v (setF (setF (setF F 11 ((upd (F 11) ((v 22)).toNatClampNeg a1))) 12 ((upd (F 12) ((v 22)).toNatClampNeg a2))) 13 ((upd (F 13) ((v 22)).toNatClampNeg a3))) := hM.arr 13 200 rfl (by omega) (by omega) hu_5
  have hF := hF.tr (hu_5.fr (a := km) (b := km + 24) (by omega) (by omega))
  refine lv_aload_n hx hb dM_write_30 rfl (lv_at hl 0 rfl) ?_
  refine lv_dup hx hb dM_write_31 rfl ?_
  refine va_get (D := D) (cl := xCl) (ci := 7) (v := .int (v 22)) (C := rnM) (T := tbM) (N := 39) hx hb hts inM hown hK hP km hM.1 rfl 22 (by decide) (hts _ tw_639) (fun _ h9 => h9) rfl dM_write_32 ?_
  refine lv_iconst (v := 1) hx hb dM_write_35 (by decide) ?_
  refine lv_iadd hx hb dM_write_36 ?_
  refine lv_topi (fun v_7 ev_7 => ?_)
  obtain rfl := ev_7
  refine va_put (D := D) (cl := xCl) (ci := 7) (v := .int (v 22 + 1)) (ty := .int) (C := rnM) (T := tbM) (N := 39) hx hb hts inM tyM toM nmM hown hK hP hD hS km hM.1 rfl 22 (by decide) (hts _ tw_639) (fun _ h9 => h9) rfl (by decide +kernel) rfl rfl (Nat.le_of_ble_eq_true rfl) dM_write_37 (fun H locs hP hD hS => ?_)
  obtain ⟨ws_9, hu_8, hP, hD⟩ := x_gen hM.1 hP hD
  have hM : ModF cI ad ws_9 km (setV v 22 ((v 22 + 1))) (setF (setF (setF F 11 ((upd (F 11) ((v 22)).toNatClampNeg a1))) 12 ((upd (F 12) ((v 22)).toNatClampNeg a2))) 13 ((upd (F 13) ((v 22)).toNatClampNeg a3))) := hM.fld_22 hu_8
  have hF := hF.tr (hu_8.fr (a := km) (b := km + 24) (by omega) (by omega))
  exact x_vret hx hb hr hlk hK hP hD hS dM_write_40 ⟨hF, by have e : (v 22).toNatClampNeg = mu := (by rw [hmu, nI_clamp (by omega)]); rw [e, show v 22 + 1 = nI (mu + 1) from (by rw [hmu, nI_1])] at hM; exact hM⟩
