theorem rw_nb {w : Nat} (h : isRw w = true) : ¬ isBl w = true := by
  unfold isRw at h
  unfold isBl
  rw [decide_eq_true_eq] at h ⊢
  omega
theorem split_row {cs : List Nat} {i b : Nat} (h : i < cs.length) (hr : isRw (chN cs i) = true) (hb : spE isRw cs i = b + 1) : spT cs i = (rkF cs i b, rvF cs (rkF cs i b) i b, nI i) :: spT cs (b + 1) := by
  rw [spT_t h (rw_nb hr)]
  unfold tokF
  rw [if_pos h, if_pos hr, hb]
  rfl
theorem split_sign {cs : List Nat} {i : Nat} {K : Int32} (h : i < cs.length) (hr : ¬ isRw (chN cs i) = true) (hb : ¬ chN cs i = 32) (hK : K = if isSg (chN cs i) = true then nI (chN cs i) else 1) : spT cs i = (K, 0, nI i) :: spT cs (i + 1) := by
  rw [spT_t h (by unfold isBl; rw [decide_eq_true_eq]; exact hb)]
  unfold tokF
  rw [if_pos h, if_neg hr, hK]
theorem split_bl {cs : List Nat} {i : Nat} (h : i < cs.length) (hb : chN cs i = 32) : spT cs i = spT cs (i + 1) := spT_b h (by unfold isBl; rw [hb]; rfl)

set_option maxHeartbeats 4000000 in
set_option maxRecDepth 100000 in
/-- Text.split(tokens) -/
theorem cX_split (l : Launch) (D : va_G) (tys : List (ClassId × FieldType)) (A : Nat → Prop) (ws : va_W) (adK adV : Nat → Nat) (zf : Value) (hzf : zf = .null ∨ ∃ t, zf = .ref t) (cC : ClassId) (hC : tys[1]? = some (cC, .char)) (ad : Nat → Nat) (k : Nat) (cs : List Nat) (cI : ClassId) (hI : tys[0]? = some (cI, .int)) (kt : Nat) (hkt : kt + 4 ≤ k ∨ k + 2 ≤ kt) (P0 : List Tok) (hTp0 : TapeAt cI ad ws kt P0) (hT : TextAt cC ad ws k cs) : x_Msv l yX_split wX_split (xR 7) adK adV zf D xCl tys A [.ref (ad k), .ref (ad kt)] ws (fun ws1 => x_fr kt (kt + 4) ws ws1 ∧ TapeAt cI ad ws1 kt (spT cs 0)) := by
  obtain ⟨ff, h0, -, hle, -, hcs⟩ := id hT
  obtain ⟨fsT, hto⟩ := hTp0.obj
  refine x_enters (by decide) rfl (Nat.le_of_ble_eq_true rfl) (fun p e s m args below meth c ls hx hb hr hlk hml hown hnm hts hK hP hD hS hA hN hE hl => ?_)
  have hl : lv_has ls 6 [(0, .ref (ad k)), (1, .ref (ad kt))] := hl
  have loop_30 : ∀ (fu9 : Nat) (a : Nat) (b : Nat) (ws1 : va_W) (H : Heap) (locs : List Loc) (ls : Array Slot), TextAt cC ad ws1 k cs → a ≤ b → b < cs.length → spE isRw cs (b + 1) = spE isRw cs a → cs.length - b < fu9 → va_P D xCl ws1 H → va_D A ws1 → va_S A s.heap H locs → lv_has ls 6 [(0, .ref (ad k)), (1, .ref (ad kt)), (2, .int (nI b)), (3, .int (nI (chN cs a))), (4, .int (nI a))] → (∀ (b2 : Nat) (ws2 : va_W) (H2 : Heap) (locs2 : List Loc) (ls2 : Array Slot), ws1 = ws2 → spE isRw cs a = b2 + 1 → va_P D xCl ws2 H2 → va_D A ws2 → va_S A s.heap H2 locs2 → lv_has ls2 6 [(0, .ref (ad k)), (1, .ref (ad kt)), (2, .int (nI b2)), (3, .int (nI (chN cs a))), (4, .int (nI a))] → W p l e (xR 7) s m args below meth c H2 locs2 0 0 (MQ below (va_Qv (fun ws1 => x_fr kt (kt + 4) ws ws1 ∧ TapeAt cI ad ws1 kt (spT cs 0)) (x_B D xCl tys A) A) args s 0 0 A) (F0 m 59 ls2 [])) → W p l e (xR 7) s m args below meth c H locs 0 0 (MQ below (va_Qv (fun ws1 => x_fr kt (kt + 4) ws ws1 ∧ TapeAt cI ad ws1 kt (spT cs 0)) (x_B D xCl tys A) A) args s 0 0 A) (F0 m 30 ls []) := by
    intro fu9
    induction fu9 with
    | zero => intro a b ws1 H locs ls hT1 hab hbl hsp hme; exact absurd hme (Nat.not_lt_zero _)
    | succ fu9 ih =>
      intro a b ws1 H locs ls hT1 hab hbl hsp hme hP hD hS hl K
      obtain ⟨ff, h0, -, hle, -, hcs⟩ := id hT1
      have hc9 := chN_lt hcs
      refine lv_iload_n hx hb dX_split_30 rfl (lv_at hl 2 rfl) ?_
      refine lv_iconst (v := 1) hx hb dX_split_31 (by decide) ?_
      refine lv_iadd hx hb dX_split_32 ?_
      refine lv_topi (fun v_1 ev_1 => ?_)
      obtain rfl : v_1 = nI (b + 1) := by rw [ev_1, nI_1]
      refine lv_aload_n hx hb dX_split_33 rfl (lv_at hl 0 rfl) ?_
      refine va_get (D := D) (cl := xCl) (ci := 5) (v := .int (nI cs.length)) (C := rnX) (T := tbX) (N := 2) hx hb hts inX hown hK hP k h0 rfl 1 (by decide) (hts _ tw_65) (fun _ h9 => h9) rfl dX_split_34 ?_
      refine lv_icmp_ge (tgt := 59) hx hb dX_split_37 (by decide) (fun c37 => ?_) (fun c37 => ?_)
      · exact K b ws1 _ _ _ rfl (by rw [← hsp]; exact spE_e (fun c9 => by rw [nI_leI (by omega) (by omega)] at c37; omega)) hP hD hS (lv_sub hl [0, 1, 2, 3, 4] rfl)
      · have hb2 : b + 1 < cs.length := by rw [nI_leI (by omega) (by omega)] at c37; omega
        refine lv_aload_n hx hb dX_split_40 rfl (lv_at hl 0 rfl) ?_
        refine lv_iload_n hx hb dX_split_41 rfl (lv_at hl 2 rfl) ?_
        refine lv_iconst (v := 1) hx hb dX_split_42 (by decide) ?_
        refine lv_iadd hx hb dX_split_43 ?_
        refine lv_topi (fun v_2 ev_2 => ?_)
        obtain rfl : v_2 = nI (b + 1) := by rw [ev_2, nI_1]
        refine x_calli (x_runV (n := 1) (As := [.int (nI (b + 1))]) (rest := []) ⟨hx, hb, hml, hown, hts⟩ (cX_charAt l D tys A ws1 cC hC ad k cs (nI (b + 1)) hT1) tw_224 tw_226 ts_X_charAt tw_3 tw_227 (by decide +kernel) rfl rfl ⟨by decide, by decide⟩ ⟨Nat.zero_le _, Nat.zero_le _⟩ (va_recv hK hP (ci := 5) (q0 := k) rfl h0) hK hP hD hS hA hN rfl hl.1 rfl (lv_room (Nat.le_of_ble_eq_true rfl)) dX_split_44) hS (fun rc2 ws_3 H locs hc2 hP hD hS => ?_)
        obtain ⟨hc2, rfl⟩ := hc2
        obtain rfl : rc2 = nI (chN cs (b + 1)) := by rw [hc2, chI_nI cs (by omega)]
        refine x_calli (x_runS (n := 1) (As := [.int (nI (chN cs (b + 1)))]) (rest := []) ⟨hx, hb, hml, hown, hts⟩ (cX_isRowChar l D tys A ws1 (chN cs (b + 1)) (by have := hc9 (b + 1); omega)) tw_228 tw_229 tw_3 tw_230 (by decide +kernel) rfl rfl ⟨by decide, by decide⟩ ⟨Nat.zero_le _, Nat.zero_le _⟩ hK hP hD hS hA hN rfl hl.1 rfl (lv_room (Nat.le_of_ble_eq_true rfl)) dX_split_47) hS (fun rhrw2 ws_4 H locs hrw2 hP hD hS => ?_)
        obtain ⟨hrw2, rfl⟩ := hrw2
        refine lv_if_eq (tgt := 59) hx hb dX_split_50 (by decide) (fun c50 => ?_) (fun c50 => ?_)
        · exact K b ws1 _ _ _ rfl (by rw [← hsp]; exact spE_e (fun c9 => by rw [hrw2, b2i_0] at c50; rw [c50] at c9; exact absurd c9.2 (by decide))) hP hD hS (lv_sub hl [0, 1, 2, 3, 4] rfl)
        · refine lv_iinc (v := (nI (b + 1))) (lv' := [(2, .int (nI (b + 1))), (0, .ref (ad k)), (1, .ref (ad kt)), (3, .int (nI (chN cs a))), (4, .int (nI a))]) hx hb dX_split_53 hl (k := 2) rfl (nI_1 _) (by decide) rfl (fun ls hl => ?_)
          refine lv_goto (tgt := 30) hx hb dX_split_56 (by decide) ?_
          exact ih a (b + 1) ws1 _ _ _ hT1 (by omega) hb2 (by rw [← spE_s hb2 (b2i_n0.mp (by rw [← hrw2]; exact c50))]; exact hsp) (by omega) hP hD hS (lv_sub hl [1, 2, 0, 3, 4] rfl) K
  have loop_6 : ∀ (fu9 : Nat) (i : Nat) (P : List Tok) (hi : i ≤ cs.length) (ws1 : va_W) (H : Heap) (locs : List Loc) (ls : Array Slot), P ++ spT cs i = spT cs 0 → P.length ≤ i → x_fr kt (kt + 4) ws ws1 → TextAt cC ad ws1 k cs → TapeAt cI ad ws1 kt P → cs.length - i < fu9 → va_P D xCl ws1 H → va_D A ws1 → va_S A s.heap H locs → lv_has ls 6 [(0, .ref (ad k)), (1, .ref (ad kt)), (2, .int (nI i))] → W p l e (xR 7) s m args below meth c H locs 0 0 (MQ below (va_Qv (fun ws1 => x_fr kt (kt + 4) ws ws1 ∧ TapeAt cI ad ws1 kt (spT cs 0)) (x_B D xCl tys A) A) args s 0 0 A) (F0 m 6 ls []) := by
    intro fu9
    induction fu9 with
    | zero => intro i P hi ws1 H locs ls hPP hPl hF hT1 hTp hme; exact absurd hme (Nat.not_lt_zero _)
    | succ fu9 ih =>
      intro i P hi ws1 H locs ls hPP hPl hF hT1 hTp hme hP hD hS hl
      obtain ⟨ff, h0, -, hle, -, hcs⟩ := id hT1
      have hc9 := chN_lt hcs
      obtain ⟨fsT, hto⟩ := hTp.obj
      refine lv_iload_n hx hb dX_split_6 rfl (lv_at hl 2 rfl) ?_
      refine lv_aload_n hx hb dX_split_7 rfl (lv_at hl 0 rfl) ?_
      refine va_get (D := D) (cl := xCl) (ci := 5) (v := .int (nI cs.length)) (C := rnX) (T := tbX) (N := 2) hx hb hts inX hown hK hP k h0 rfl 1 (by decide) (hts _ tw_65) (fun _ h9 => h9) rfl dX_split_8 ?_
      refine lv_icmp_ge (tgt := 118) hx hb dX_split_11 (by decide) (fun c11 => ?_) (fun c11 => ?_)
      · refine lv_aload_n hx hb dX_split_118 rfl (lv_at hl 1 rfl) ?_
        refine lv_iconst (v := 0) hx hb dX_split_119 (by decide) ?_
        refine lv_iconst (v := 0) hx hb dX_split_120 (by decide) ?_
        refine lv_aload_n hx hb dX_split_121 rfl (lv_at hl 0 rfl) ?_
        refine va_get (D := D) (cl := xCl) (ci := 5) (v := .int (nI cs.length)) (C := rnX) (T := tbX) (N := 2) hx hb hts inX hown hK hP k h0 rfl 1 (by decide) (hts _ tw_65) (fun _ h9 => h9) rfl dX_split_122 ?_
        refine x_callv (x_runV (n := 3) (As := [.int 0, .int 0, .int (nI cs.length)]) (rest := []) ⟨hx, hb, hml, hown, hts⟩ (cT_add l D tys A ws1 cI hI ad kt P 0 0 ((nI cs.length)) hTp) tw_310 tw_311 tw_312 tw_5 tw_313 (by decide +kernel) rfl rfl ⟨by decide, by decide⟩ ⟨Nat.zero_le _, Nat.zero_le _⟩ (va_recv hK hP (ci := 4) (q0 := kt) rfl hto) hK hP hD hS hA hN rfl hl.1 rfl (lv_room (Nat.le_of_ble_eq_true rfl)) dX_split_125) hS (fun ws_5 H locs had hP hD hS => ?_)
        obtain ⟨hF9, hTp⟩ := had
        have hF := hF.tr hF9
        have hT1 := hT1.keep hF9 (by omega)
        rw [tpA_ok (by omega)] at hTp
        exact x_vret hx hb hr hlk hK hP hD hS dX_split_128 ⟨hF, by have e9 : ¬ i < cs.length := (by rw [nI_leI (by omega) (by omega)] at c11; omega); rw [← hPP, spT_e e9]; exact hTp⟩
      · have hi2 : i < cs.length := by rw [nI_leI (by omega) (by omega)] at c11; omega
        refine lv_aload_n hx hb dX_split_14 rfl (lv_at hl 0 rfl) ?_
        refine lv_iload_n hx hb dX_split_15 rfl (lv_at hl 2 rfl) ?_
        refine x_calli (x_runV (n := 1) (As := [.int (nI i)]) (rest := []) ⟨hx, hb, hml, hown, hts⟩ (cX_charAt l D tys A ws1 cC hC ad k cs (nI i) hT1) tw_224 tw_226 ts_X_charAt tw_3 tw_227 (by decide +kernel) rfl rfl ⟨by decide, by decide⟩ ⟨Nat.zero_le _, Nat.zero_le _⟩ (va_recv hK hP (ci := 5) (q0 := k) rfl h0) hK hP hD hS hA hN rfl hl.1 rfl (lv_room (Nat.le_of_ble_eq_true rfl)) dX_split_16) hS (fun rc1 ws_6 H locs hc1 hP hD hS => ?_)
        obtain ⟨hc1, rfl⟩ := hc1
        obtain rfl : rc1 = nI (chN cs i) := by rw [hc1, chI_nI cs (by omega)]
        refine lv_istore_n (lv' := [(3, .int (nI (chN cs i))), (0, .ref (ad k)), (1, .ref (ad kt)), (2, .int (nI i))]) hx hb dX_split_19 rfl hl (by decide) rfl (fun ls hl => ?_)
        refine lv_iload_n hx hb dX_split_20 rfl (lv_at hl 0 rfl) ?_
        refine x_calli (x_runS (n := 1) (As := [.int (nI (chN cs i))]) (rest := []) ⟨hx, hb, hml, hown, hts⟩ (cX_isRowChar l D tys A ws1 (chN cs i) (by have := hc9 i; omega)) tw_228 tw_229 tw_3 tw_230 (by decide +kernel) rfl rfl ⟨by decide, by decide⟩ ⟨Nat.zero_le _, Nat.zero_le _⟩ hK hP hD hS hA hN rfl hl.1 rfl (lv_room (Nat.le_of_ble_eq_true rfl)) dX_split_21) hS (fun rhr1 ws_7 H locs hr1 hP hD hS => ?_)
        obtain ⟨hr1, rfl⟩ := hr1
        refine lv_if_eq (tgt := 88) hx hb dX_split_24 (by decide) (fun c24 => ?_) (fun c24 => ?_)
        · have hrw : ¬ isRw (chN cs i) = true := by rw [show isRw (chN cs i) = false from b2i_0.mp (by rw [← hr1]; exact c24)]; decide
          refine lv_iload_n hx hb dX_split_88 rfl (lv_at hl 0 rfl) ?_
          refine lv_bipush (v := 32) hx hb dX_split_89 (by decide) ?_
          refine lv_icmp_eq (tgt := 112) hx hb dX_split_91 (by decide) (fun c91 => ?_) (fun c91 => ?_)
          · refine lv_iinc (v := (nI (i + 1))) (lv' := [(2, .int (nI (i + 1))), (3, .int (nI (chN cs i))), (0, .ref (ad k)), (1, .ref (ad kt))]) hx hb dX_split_112 hl (k := 3) rfl (nI_1 _) (by decide) rfl (fun ls hl => ?_)
            refine lv_goto (tgt := 6) hx hb dX_split_115 (by decide) ?_
            exact ih (i + 1) P (by omega) ws1 _ _ _ (by rw [← split_bl hi2 (by have c91 : nI (chN cs i) = nI 32 := c91; rw [nI_eq (by have := hc9 i; omega) (by omega)] at c91; exact c91)]; exact hPP) (by omega) hF hT1 hTp (by omega) hP hD hS (lv_sub hl [2, 3, 0] rfl)
          · refine lv_aload_n hx hb dX_split_94 rfl (lv_at hl 2 rfl) ?_
            refine lv_iload_n hx hb dX_split_95 rfl (lv_at hl 0 rfl) ?_
            refine x_calli (x_runS (n := 1) (As := [.int (nI (chN cs i))]) (rest := [.ref (ad kt)]) ⟨hx, hb, hml, hown, hts⟩ (cX_isSign l D tys A ws1 (chN cs i) (by have := hc9 i; omega)) tw_314 tw_315 tw_3 tw_316 (by decide +kernel) rfl rfl ⟨by decide, by decide⟩ ⟨Nat.zero_le _, Nat.zero_le _⟩ hK hP hD hS hA hN rfl hl.1 rfl (lv_room (Nat.le_of_ble_eq_true rfl)) dX_split_96) hS (fun rhsg ws_8 H locs hsg hP hD hS => ?_)
            obtain ⟨hsg, rfl⟩ := hsg
            refine lv_if_eq (tgt := 106) hx hb dX_split_99 (by decide) (fun c99 => ?_) (fun c99 => ?_)
            · refine lv_iconst (v := 1) hx hb dX_split_106 (by decide) ?_
              refine lv_iconst (v := 0) hx hb dX_split_107 (by decide) ?_
              refine lv_iload_n hx hb dX_split_108 rfl (lv_at hl 3 rfl) ?_
              refine x_callv (x_runV (n := 3) (As := [.int 1, .int 0, .int (nI i)]) (rest := []) ⟨hx, hb, hml, hown, hts⟩ (cT_add l D tys A ws1 cI hI ad kt P 1 0 ((nI i)) hTp) tw_310 tw_311 tw_312 tw_5 tw_313 (by decide +kernel) rfl rfl ⟨by decide, by decide⟩ ⟨Nat.zero_le _, Nat.zero_le _⟩ (va_recv hK hP (ci := 4) (q0 := kt) rfl hto) hK hP hD hS hA hN rfl hl.1 rfl (lv_room (Nat.le_of_ble_eq_true rfl)) dX_split_109) hS (fun ws_9 H locs had hP hD hS => ?_)
              obtain ⟨hF9, hTp⟩ := had
              have hF := hF.tr hF9
              have hT1 := hT1.keep hF9 (by omega)
              rw [tpA_ok (by omega)] at hTp
              refine lv_iinc (v := (nI (i + 1))) (lv' := [(2, .int (nI (i + 1))), (3, .int (nI (chN cs i))), (0, .ref (ad k)), (1, .ref (ad kt))]) hx hb dX_split_112 hl (k := 3) rfl (nI_1 _) (by decide) rfl (fun ls hl => ?_)
              refine lv_goto (tgt := 6) hx hb dX_split_115 (by decide) ?_
              exact ih (i + 1) _ (by omega) ws_9 _ _ _ (by rw [List.append_assoc]; show P ++ (_ :: spT cs (i + 1)) = _; rw [← split_sign hi2 hrw (fun e9 => c91 (by rw [e9]; rfl)) (by rw [show isSg (chN cs i) = false from b2i_0.mp (by rw [← hsg]; exact c99)]; rfl)]; exact hPP) (by rw [List.length_append, List.length_singleton]; omega) hF hT1 hTp (by omega) hP hD hS (lv_sub hl [2, 3, 0] rfl)
            · refine lv_iload_n hx hb dX_split_102 rfl (lv_at hl 0 rfl) ?_
              refine lv_goto (tgt := 107) hx hb dX_split_103 (by decide) ?_
              refine lv_iconst (v := 0) hx hb dX_split_107 (by decide) ?_
              refine lv_iload_n hx hb dX_split_108 rfl (lv_at hl 3 rfl) ?_
              refine x_callv (x_runV (n := 3) (As := [.int (nI (chN cs i)), .int 0, .int (nI i)]) (rest := []) ⟨hx, hb, hml, hown, hts⟩ (cT_add l D tys A ws1 cI hI ad kt P ((nI (chN cs i))) 0 ((nI i)) hTp) tw_310 tw_311 tw_312 tw_5 tw_313 (by decide +kernel) rfl rfl ⟨by decide, by decide⟩ ⟨Nat.zero_le _, Nat.zero_le _⟩ (va_recv hK hP (ci := 4) (q0 := kt) rfl hto) hK hP hD hS hA hN rfl hl.1 rfl (lv_room (Nat.le_of_ble_eq_true rfl)) dX_split_109) hS (fun ws_10 H locs had hP hD hS => ?_)
              obtain ⟨hF9, hTp⟩ := had
              have hF := hF.tr hF9
              have hT1 := hT1.keep hF9 (by omega)
              rw [tpA_ok (by omega)] at hTp
              refine lv_iinc (v := (nI (i + 1))) (lv' := [(2, .int (nI (i + 1))), (3, .int (nI (chN cs i))), (0, .ref (ad k)), (1, .ref (ad kt))]) hx hb dX_split_112 hl (k := 3) rfl (nI_1 _) (by decide) rfl (fun ls hl => ?_)
              refine lv_goto (tgt := 6) hx hb dX_split_115 (by decide) ?_
              exact ih (i + 1) _ (by omega) ws_10 _ _ _ (by rw [List.append_assoc]; show P ++ (_ :: spT cs (i + 1)) = _; rw [← split_sign hi2 hrw (fun e9 => c91 (by rw [e9]; rfl)) (by rw [if_pos (b2i_n0.mp (by rw [← hsg]; exact c99))])]; exact hPP) (by rw [List.length_append, List.length_singleton]; omega) hF hT1 hTp (by omega) hP hD hS (lv_sub hl [2, 3, 0] rfl)
        · have hrw : isRw (chN cs i) = true := b2i_n0.mp (by rw [← hr1]; exact c24)
          refine lv_iload_n hx hb dX_split_27 rfl (lv_at hl 3 rfl) ?_
          refine lv_istore (lv' := [(4, .int (nI i)), (3, .int (nI (chN cs i))), (0, .ref (ad k)), (1, .ref (ad kt)), (2, .int (nI i))]) hx hb dX_split_28 hl (by decide) rfl (fun ls hl => ?_)
          refine loop_30 _ i i ws1 _ _ _ hT1 (Nat.le_refl _) hi2 (spE_s hi2 hrw).symm (Nat.lt_succ_self _) hP hD hS (lv_sub hl [2, 3, 4, 1, 0] rfl) (fun b2 ws_11 H locs ls hw2 hb1 hP hD hS hl => ?_)
          obtain rfl := hw2
          have hb9 := spE_ub isRw (cs := cs) (a := i) (by omega)
          have hb8 := spE_s hi2 hrw
          have hb7 := spE_le isRw cs (i + 1)
          refine lv_aload_n hx hb dX_split_59 rfl (lv_at hl 0 rfl) ?_
          refine lv_iload hx hb dX_split_60 (lv_at hl 4 rfl) ?_
          refine lv_iload_n hx hb dX_split_62 rfl (lv_at hl 2 rfl) ?_
          refine x_calli (x_runVs (n := 2) (As := [.int (nI i), .int (nI b2)]) (rest := []) ⟨hx, hb, hml, hown, hts⟩ (cX_rowKind l D tys A ws1 adK adV zf hzf cC hC ad k cs i b2 (by omega) (by omega) (by omega) hT1) tw_237 tw_239 ts_X_rowKind tw_3 tw_240 (by decide +kernel) rfl rfl ⟨by decide, by decide⟩ ⟨Nat.zero_le _, Nat.zero_le _⟩ (va_recv hK hP (ci := 5) (q0 := k) rfl h0) hK hP hD hS hA hN hE rfl hl.1 rfl (lv_room (Nat.le_of_ble_eq_true rfl)) dX_split_63) hS (fun rrk ws_12 H locs hrk hP hD hS => ?_)
          obtain ⟨hrk, rfl⟩ := hrk
          obtain rfl := hrk
          refine lv_istore (lv' := [(5, .int (rkF cs i b2)), (0, .ref (ad k)), (1, .ref (ad kt)), (2, .int (nI b2)), (3, .int (nI (chN cs i))), (4, .int (nI i))]) hx hb dX_split_66 hl (by decide) rfl (fun ls hl => ?_)
          refine lv_aload_n hx hb dX_split_68 rfl (lv_at hl 2 rfl) ?_
          refine lv_iload hx hb dX_split_69 (lv_at hl 0 rfl) ?_
          refine lv_aload_n hx hb dX_split_71 rfl (lv_at hl 1 rfl) ?_
          refine lv_iload hx hb dX_split_72 (lv_at hl 0 rfl) ?_
          refine lv_iload hx hb dX_split_74 (lv_at hl 5 rfl) ?_
          refine lv_iload_n hx hb dX_split_76 rfl (lv_at hl 3 rfl) ?_
          refine x_calli (x_runV (n := 3) (As := [.int (rkF cs i b2), .int (nI i), .int (nI b2)]) (rest := [.int (rkF cs i b2), .ref (ad kt)]) ⟨hx, hb, hml, hown, hts⟩ (cX_rowValue l D tys A ws1 cC hC ad k cs ((rkF cs i b2)) i b2 (by omega) (by omega) hT1) tw_306 tw_308 ts_X_rowValue tw_3 tw_309 (by decide +kernel) rfl rfl ⟨by decide, by decide⟩ ⟨Nat.zero_le _, Nat.zero_le _⟩ (va_recv hK hP (ci := 5) (q0 := k) rfl h0) hK hP hD hS hA hN rfl hl.1 rfl (lv_room (Nat.le_of_ble_eq_true rfl)) dX_split_77) hS (fun rrv ws_13 H locs hrv hP hD hS => ?_)
          obtain ⟨hrv, rfl⟩ := hrv
          obtain rfl := hrv
          refine lv_iload hx hb dX_split_80 (lv_at hl 5 rfl) ?_
          refine x_callv (x_runV (n := 3) (As := [.int (rkF cs i b2), .int (rvF cs (rkF cs i b2) i b2), .int (nI i)]) (rest := []) ⟨hx, hb, hml, hown, hts⟩ (cT_add l D tys A ws1 cI hI ad kt P ((rkF cs i b2)) ((rvF cs (rkF cs i b2) i b2)) ((nI i)) hTp) tw_310 tw_311 tw_312 tw_5 tw_313 (by decide +kernel) rfl rfl ⟨by decide, by decide⟩ ⟨Nat.zero_le _, Nat.zero_le _⟩ (va_recv hK hP (ci := 4) (q0 := kt) rfl hto) hK hP hD hS hA hN rfl hl.1 rfl (lv_room (Nat.le_of_ble_eq_true rfl)) dX_split_82) hS (fun ws_14 H locs had hP hD hS => ?_)
          obtain ⟨hF9, hTp⟩ := had
          have hF := hF.tr hF9
          have hT1 := hT1.keep hF9 (by omega)
          rw [tpA_ok (by omega)] at hTp
          refine lv_goto (tgt := 112) hx hb dX_split_85 (by decide) ?_
          refine lv_iinc (v := (nI (b2 + 1))) (lv' := [(2, .int (nI (b2 + 1))), (5, .int (rkF cs i b2)), (0, .ref (ad k)), (1, .ref (ad kt)), (3, .int (nI (chN cs i))), (4, .int (nI i))]) hx hb dX_split_112 hl (k := 3) rfl (nI_1 _) (by decide) rfl (fun ls hl => ?_)
          refine lv_goto (tgt := 6) hx hb dX_split_115 (by decide) ?_
          exact ih (b2 + 1) _ (by omega) ws_14 _ _ _ (by rw [List.append_assoc]; show P ++ (_ :: spT cs (b2 + 1)) = _; rw [← split_row hi2 hrw hb1]; exact hPP) (by rw [List.length_append, List.length_singleton]; omega) hF hT1 hTp (by omega) hP hD hS (lv_sub hl [2, 3, 0] rfl)
  refine lv_aload_n hx hb dX_split_0 rfl (lv_at hl 1 rfl) ?_
  refine x_callv (x_runV (n := 0) (As := []) (rest := []) ⟨hx, hb, hml, hown, hts⟩ (cT_clear l D tys A ws cI hI ad kt P0 hTp0) tw_220 tw_221 tw_222 tw_5 tw_223 (by decide +kernel) rfl rfl ⟨by decide, by decide⟩ ⟨Nat.zero_le _, Nat.zero_le _⟩ (va_recv hK hP (ci := 4) (q0 := kt) rfl hto) hK hP hD hS hA hN rfl hl.1 rfl (lv_room (Nat.le_of_ble_eq_true rfl)) dX_split_1) hS (fun ws_15 H locs hcl hP hD hS => ?_)
  obtain ⟨hF, hTp⟩ := hcl
  have hT1 := hT.keep hF (by omega)
  refine lv_iconst (v := 0) hx hb dX_split_4 (by decide) ?_
  refine lv_istore_n (lv' := [(2, .int 0), (0, .ref (ad k)), (1, .ref (ad kt))]) hx hb dX_split_5 rfl hl (by decide) rfl (fun ls hl => ?_)
  exact loop_6 _ 0 [] (Nat.zero_le _) ws_15 _ _ _ rfl (Nat.le_refl _) hF hT1 hTp (Nat.lt_succ_self _) hP hD hS (lv_sub hl [1, 2, 0] rfl)
