theorem oth_9 {cs : List Nat} {i : Nat} {S : List Mu} {O : List Tok} {op : Nat → Int32} {v : Nat → Int32} {F : Nat → Nat → Int32} {d x : Int32} (hl : cs.length ≤ 80) (hk : (tk (spT cs 0) i).1 = 9) (hx : (tk (spT cs 0) (tkI (spT cs 0) 40 (i + 1))).1 = 4 → x = (tk (spT cs 0) (tkI (spT cs 0) 40 (i + 1))).2.1) (h : MP cs (tkI (spT cs 0) 44 (tkI (spT cs 0) 4 (tkI (spT cs 0) 40 (i + 1)))) ((1, d + 1, 0) :: (4, 0, 41) :: (6, x, 9) :: S) O op (tkL (spT cs 0) 44 (tkI (spT cs 0) 4 (tkI (spT cs 0) 40 (i + 1))) (tkL (spT cs 0) 4 (tkI (spT cs 0) 40 (i + 1)) (tkL (spT cs 0) 40 (i + 1) (-1)))) v F) : MPr cs (oT (spT cs 0) d i S O op) v F := by
  have e : oT (spT cs 0) d i S O op = (if (tk (spT cs 0) (i + 1)).1 = 40 then (if (tk (spT cs 0) (i + 2)).1 = 4 then (if (tk (spT cs 0) (i + 3)).1 = 44 then .inr (i + 4, (1, d + 1, 0) :: (4, 0, 41) :: (6, (tk (spT cs 0) (i + 2)).2.1, 9) :: S, O, op) else .inl (tk (spT cs 0) (i + 3)).2.2) else .inl (tk (spT cs 0) (i + 2)).2.2) else .inl (tk (spT cs 0) (i + 1)).2.2) := if_pos hk
  by_cases c1 : (tk (spT cs 0) (i + 1)).1 = 40
  · rw [if_pos c1] at e
    rw [tkI_t c1] at h hx
    rw [tkL_t c1] at h
    by_cases c2 : (tk (spT cs 0) (i + 2)).1 = 4
    · rw [if_pos c2] at e
      rw [hx c2, tkI_t (i := i + 1 + 1) c2, tkL_t (i := i + 1 + 1) c2] at h
      by_cases c3 : (tk (spT cs 0) (i + 3)).1 = 44
      · rw [if_pos c3] at e
        rw [tkI_t (i := i + 1 + 1 + 1) c3, tkL_t (i := i + 1 + 1 + 1) c3] at h
        exact MPr.r e h
      · rw [if_neg c3] at e
        rw [tkL_f (i := i + 1 + 1 + 1) c3] at h
        exact MPr.l e h
    · rw [if_neg c2] at e
      rw [tkL_f (i := i + 1 + 1) c2, tkL_k (pl_n hl _)] at h
      exact MPr.l e h
  · rw [if_neg c1] at e
    rw [tkL_f c1, tkL_k (pl_n hl _), tkL_k (pl_n hl _)] at h
    exact MPr.l e h
theorem oth_12 {cs : List Nat} {i : Nat} {S : List Mu} {O : List Tok} {op : Nat → Int32} {v : Nat → Int32} {F : Nat → Nat → Int32} {d x : Int32} (hl : cs.length ≤ 80) (hk : (tk (spT cs 0) i).1 = 12) (hx : (tk (spT cs 0) (i + 1)).1 = 3 → x = (tk (spT cs 0) (i + 1)).2.1) (h : MP cs (tkI (spT cs 0) 61 (tkI (spT cs 0) 3 (i + 1))) ((1, d + 1, 0) :: (7, 0, x) :: (1, d + 1, 0) :: (8, 0, x) :: S) O op (tkL (spT cs 0) 61 (tkI (spT cs 0) 3 (i + 1)) (tkL (spT cs 0) 3 (i + 1) (-1))) v F) : MPr cs (oT (spT cs 0) d i S O op) v F := by
  have e : oT (spT cs 0) d i S O op = (if (tk (spT cs 0) (i + 1)).1 = 3 then (if (tk (spT cs 0) (i + 2)).1 = 61 then .inr (i + 3, (1, d + 1, 0) :: (7, 0, (tk (spT cs 0) (i + 1)).2.1) :: (1, d + 1, 0) :: (8, 0, (tk (spT cs 0) (i + 1)).2.1) :: S, O, op) else .inl (tk (spT cs 0) (i + 2)).2.2) else .inl (tk (spT cs 0) (i + 1)).2.2) := by
    unfold oT
    rw [if_neg (by rw [hk]; decide), if_pos hk]
  by_cases c1 : (tk (spT cs 0) (i + 1)).1 = 3
  · rw [if_pos c1] at e
    rw [tkI_t c1, tkL_t c1, hx c1] at h
    by_cases c2 : (tk (spT cs 0) (i + 2)).1 = 61
    · rw [if_pos c2] at e
      rw [tkI_t (i := i + 1 + 1) c2, tkL_t (i := i + 1 + 1) c2] at h
      exact MPr.r e h
    · rw [if_neg c2] at e
      rw [tkL_f (i := i + 1 + 1) c2] at h
      exact MPr.l e h
  · rw [if_neg c1] at e
    rw [tkL_f c1, tkL_k (pl_n hl _)] at h
    exact MPr.l e h
/-- the words with ( behind them -/
theorem opn_R {cs : List Nat} {i : Nat} {S2 : List Mu} {O : List Tok} {op : Nat → Int32} {v : Nat → Int32} {F : Nat → Nat → Int32} {R : Sum Int32 MS} (e : R = if (tk (spT cs 0) (i + 1)).1 = 40 then .inr (i + 2, S2, O, op) else .inl (tk (spT cs 0) (i + 1)).2.2) (h : MP cs (tkI (spT cs 0) 40 (i + 1)) S2 O op (tkL (spT cs 0) 40 (i + 1) (-1)) v F) : MPr cs R v F := by
  by_cases c1 : (tk (spT cs 0) (i + 1)).1 = 40
  · rw [if_pos c1] at e
    rw [tkI_t c1, tkL_t c1] at h
    exact MPr.r e h
  · rw [if_neg c1] at e
    rw [tkL_f c1] at h
    exact MPr.l e h
theorem rnd_R {cs : List Nat} {i : Nat} {S : List Mu} {O : List Tok} {op : Nat → Int32} {v : Nat → Int32} {F : Nat → Nat → Int32} {K y : Int32} {R : Sum Int32 MS} (hl : cs.length ≤ 80) (e : R = mst (spT cs 0) (5, y, K) i S O op) (hk : (tk (spT cs 0) i).1 = 44) {x : Int32} (hx : (tk (spT cs 0) (i + 1)).1 = 4 → x = (tk (spT cs 0) (i + 1)).2.1) (h : MP cs (tkI (spT cs 0) 41 (tkI (spT cs 0) 4 (i + 1))) S (O ++ [(K, x, 0)]) op (tkL (spT cs 0) 41 (tkI (spT cs 0) 4 (i + 1)) (tkL (spT cs 0) 4 (i + 1) (-1))) v F) : MPr cs R v F := by
  replace e : R = (if (tk (spT cs 0) i).1 = 44 then (if (tk (spT cs 0) (i + 1)).1 = 4 then (if (tk (spT cs 0) (i + 2)).1 = 41 then .inr (i + 3, S, O ++ [(K, (tk (spT cs 0) (i + 1)).2.1, 0)], op) else .inl (tk (spT cs 0) (i + 2)).2.2) else .inl (tk (spT cs 0) (i + 1)).2.2) else (if (tk (spT cs 0) i).1 = 41 then .inr (i + 1, S, O ++ [(K, -1, 0)], op) else .inl (tk (spT cs 0) i).2.2)) := e
  rw [if_pos hk] at e
  by_cases c1 : (tk (spT cs 0) (i + 1)).1 = 4
  · rw [if_pos c1] at e
    rw [tkI_t c1, tkL_t c1, hx c1] at h
    by_cases c2 : (tk (spT cs 0) (i + 2)).1 = 41
    · rw [if_pos c2] at e
      rw [tkI_t (i := i + 1 + 1) c2, tkL_t (i := i + 1 + 1) c2] at h
      exact MPr.r e h
    · rw [if_neg c2] at e
      rw [tkL_f (i := i + 1 + 1) c2] at h
      exact MPr.l e h
  · rw [if_neg c1] at e
    rw [tkL_f c1, tkL_k (pl_n hl _)] at h
    exact MPr.l e h
theorem rnd_N {cs : List Nat} {i : Nat} {S : List Mu} {O : List Tok} {op : Nat → Int32} {v : Nat → Int32} {F : Nat → Nat → Int32} {K y : Int32} {R : Sum Int32 MS} (e : R = mst (spT cs 0) (5, y, K) i S O op) (hk : ¬ (tk (spT cs 0) i).1 = 44) (h : MP cs (tkI (spT cs 0) 41 i) S (O ++ [(K, -1, 0)]) op (tkL (spT cs 0) 41 i (-1)) v F) : MPr cs R v F := by
  replace e : R = (if (tk (spT cs 0) i).1 = 44 then (if (tk (spT cs 0) (i + 1)).1 = 4 then (if (tk (spT cs 0) (i + 2)).1 = 41 then .inr (i + 3, S, O ++ [(K, (tk (spT cs 0) (i + 1)).2.1, 0)], op) else .inl (tk (spT cs 0) (i + 2)).2.2) else .inl (tk (spT cs 0) (i + 1)).2.2) else (if (tk (spT cs 0) i).1 = 41 then .inr (i + 1, S, O ++ [(K, -1, 0)], op) else .inl (tk (spT cs 0) i).2.2)) := e
  rw [if_neg hk] at e
  by_cases c2 : (tk (spT cs 0) i).1 = 41
  · rw [if_pos c2] at e
    rw [tkI_t c2, tkL_t c2] at h
    exact MPr.r e h
  · rw [if_neg c2] at e
    rw [tkL_f c2] at h
    exact MPr.l e h
theorem sgn_R {cs : List Nat} {i : Nat} {S : List Mu} {O : List Tok} {op : Nat → Int32} {v : Nat → Int32} {F : Nat → Nat → Int32} {K y : Int32} {R : Sum Int32 MS} (e : R = mst (spT cs 0) (4, y, K) i S O op) (h : MP cs (tkI (spT cs 0) K i) S O op (tkL (spT cs 0) K i (-1)) v F) : MPr cs R v F := by
  replace e : R = (if (tk (spT cs 0) i).1 = K then .inr (i + 1, S, O, op) else .inl (tk (spT cs 0) i).2.2) := e
  by_cases c2 : (tk (spT cs 0) i).1 = K
  · rw [if_pos c2] at e
    rw [tkI_t c2, tkL_t c2] at h
    exact MPr.r e h
  · rw [if_neg c2] at e
    rw [tkL_f c2] at h
    exact MPr.l e h
theorem in_R {cs : List Nat} {i c : Nat} {S : List Mu} {O : List Tok} {op : Nat → Int32} {v : Nat → Int32} {F : Nat → Nat → Int32} {y : Int32} {R : Sum Int32 MS} (hc : c < 26) (e : R = mst (spT cs 0) (7, y, nI c) i S O op) (h : MP cs (tkI (spT cs 0) 13 i) S (O ++ [(20, nI c, 0)]) (upd op c (op c + 1)) (tkL (spT cs 0) 13 i (-1)) v F) : MPr cs R v F := by
  replace e : R = (if (tk (spT cs 0) i).1 = 13 then .inr (i + 1, S, O ++ [(20, nI c, 0)], upd op (nI c).toNatClampNeg (op (nI c).toNatClampNeg + 1)) else .inl (tk (spT cs 0) i).2.2) := e
  rw [nI_clamp (by omega)] at e
  by_cases c2 : (tk (spT cs 0) i).1 = 13
  · rw [if_pos c2] at e
    rw [tkI_t c2, tkL_t c2] at h
    exact MPr.r e h
  · rw [if_neg c2] at e
    rw [tkL_f c2] at h
    exact MPr.l e h

set_option maxHeartbeats 4000000 in
set_option maxRecDepth 100000 in
/-- others(was, deep) -/
theorem cM_others (l : Launch) (D : va_G) (tys : List (ClassId × FieldType)) (A : Nat → Prop) (ws : va_W) (cI : ClassId) (hI : tys[0]? = some (cI, .int)) (ad : Nat → Nat) (km : Nat) (v : Nat → Int32) (F : Nat → Nat → Int32) (cs : List Nat) (i : Nat) (S : List Mu) (O : List Tok) (op : Nat → Int32) (hQ : MP cs i S O op (-1) v F) (was dd : Int32) (hw9 : was = (tk (spT cs 0) i).1) (hSl : S.length ≤ 100) (hM : ModF cI ad ws km v F) : x_Mv l yM_others wM_others (xR 4) D xCl tys A [.ref (ad km), .int was, .int dd] ws (fun ws1 => x_fr km (km + 24) ws ws1 ∧ ∃ v9 F9, ModF cI ad ws1 km v9 F9 ∧ kpR v F v9 F9 ∧ MPr cs (oT (spT cs 0) dd i S O op) v9 F9) := by
  have hF : x_fr km (km + 24) ws ws := x_fr.rf
  have hkp : kpR v F v F := kpR.rf
  refine x_enter (by decide) rfl (Nat.le_of_ble_eq_true rfl) (fun p e s m args below meth c ls hx hb hr hlk hml hown hnm hts hK hP hD hS hA hN hl => ?_)
  have hl : lv_has ls 4 [(0, .ref (ad km)), (1, .int was), (2, .int dd)] := hl
  refine lv_iload_n hx hb dM_others_0 rfl (lv_at hl 1 rfl) ?_
  refine lv_bipush (v := 9) hx hb dM_others_1 (by decide) ?_
  refine lv_icmp_eq (tgt := 17) hx hb dM_others_3 (by decide) (fun c3 => ?_) (fun c3 => ?_)
  · have hk9 : (tk (spT cs 0) i).1 = 9 := by rw [← hw9]; exact c3
    obtain rfl : was = 9 := c3
    refine lv_aload_n hx hb dM_others_17 rfl (lv_at hl 0 rfl) ?_
    obtain ⟨en1, hcun1, hnxn1⟩ := hQ.2.1
    refine x_callv (x_runV (n := 0) (As := []) (rest := []) ⟨hx, hb, hml, hown, hts⟩ (cM_next l D tys A ws cI hI ad km v F cs hQ.1 (tokA cs en1).2 (Cu_ub hQ.1 hcun1) hnxn1.2.2.1 hM) tw_771 tw_773 ts_M_next tw_8 tw_774 (by decide +kernel) rfl rfl ⟨by decide, by decide⟩ ⟨Nat.zero_le _, Nat.zero_le _⟩ (va_recv hK hP (ci := 7) (q0 := km) rfl hM.1) hK hP hD hS hA hN rfl hl.1 rfl (lv_room (Nat.le_of_ble_eq_true rfl)) dM_others_18) hS (fun ws_2 H locs hwn1 hP hD hS => ?_)
    obtain ⟨hF9, vn1, hM, hvn1, hnn1⟩ := hwn1
    have hF := hF.tr hF9
    obtain ⟨hQ, hkp⟩ := hQ.nxt hkp hcun1 (by rw [hk9]; decide) hvn1 hnn1
    refine lv_iload_n hx hb dM_others_21 rfl (lv_at hl 1 rfl) ?_
    refine lv_bipush (v := 9) hx hb dM_others_22 (by decide) ?_
    refine lv_icmp_ne (tgt := 33) hx hb dM_others_24 (by decide) (fun c24 => ?_) (fun c24 => ?_)
    · exact absurd rfl c24
    · refine lv_aload_n hx hb dM_others_27 rfl (lv_at hl 0 rfl) ?_
      refine lv_bipush (v := 40) hx hb dM_others_28 (by decide) ?_
      refine x_callv (x_runV (n := 1) (As := [.int 40]) (rest := []) ⟨hx, hb, hml, hown, hts⟩ (cM_take l D tys A ws_2 cI hI ad km vn1 F cs (i + 1) S O op ((-1)) hQ 40 (by decide) hM) tw_817 tw_819 ts_M_take tw_8 tw_820 (by decide +kernel) rfl rfl ⟨by decide, by decide⟩ ⟨Nat.zero_le _, Nat.zero_le _⟩ (va_recv hK hP (ci := 7) (q0 := km) rfl hM.1) hK hP hD hS hA hN rfl hl.1 rfl (lv_room (Nat.le_of_ble_eq_true rfl)) dM_others_30) hS (fun ws_4 H locs hwn3 hP hD hS => ?_)
      obtain ⟨hF9, vn3, hM, hQ, hkq⟩ := hwn3
      have hF := hF.tr hF9
      have hkp := hkp.tr hkq
      refine lv_aload_n hx hb dM_others_33 rfl (lv_at hl 0 rfl) ?_
      refine va_get (D := D) (cl := xCl) (ci := 7) (v := .int (vn3 12)) (C := rnM) (T := tbM) (N := 39) hx hb hts inM hown hK hP km hM.1 rfl 12 (by decide) (hts _ tw_629) (fun _ h9 => h9) rfl dM_others_34 ?_
      have hx9 : (tk (spT cs 0) (tkI (spT cs 0) 40 (i + 1))).1 = 4 → (vn3 12) = (tk (spT cs 0) (tkI (spT cs 0) 40 (i + 1))).2.1 := fun z9 => hQ.k.2.2.1 (Or.inr (Or.inr z9))
      refine lv_istore_n (lv' := [(3, .int (vn3 12)), (0, .ref (ad km)), (1, .int 9), (2, .int dd)]) hx hb dM_others_37 rfl hl (by decide) rfl (fun ls hl => ?_)
      refine lv_aload_n hx hb dM_others_38 rfl (lv_at hl 1 rfl) ?_
      refine lv_iload_n hx hb dM_others_39 rfl (lv_at hl 2 rfl) ?_
      refine lv_bipush (v := 9) hx hb dM_others_40 (by decide) ?_
      refine lv_icmp_ne (tgt := 49) hx hb dM_others_42 (by decide) (fun c42 => ?_) (fun c42 => ?_)
      · exact absurd rfl c42
      · refine lv_iconst (v := 4) hx hb dM_others_45 (by decide) ?_
        refine lv_goto (tgt := 50) hx hb dM_others_46 (by decide) ?_
        refine x_callv (x_runV (n := 1) (As := [.int 4]) (rest := []) ⟨hx, hb, hml, hown, hts⟩ (cM_take l D tys A ws_4 cI hI ad km vn3 F cs (tkI (spT cs 0) 40 (i + 1)) S O op ((tkL (spT cs 0) 40 (i + 1) (-1))) hQ 4 (by decide) hM) tw_817 tw_819 ts_M_take tw_8 tw_820 (by decide +kernel) rfl rfl ⟨by decide, by decide⟩ ⟨Nat.zero_le _, Nat.zero_le _⟩ (va_recv hK hP (ci := 7) (q0 := km) rfl hM.1) hK hP hD hS hA hN rfl hl.1 rfl (lv_room (Nat.le_of_ble_eq_true rfl)) dM_others_50) hS (fun ws_6 H locs hwn5 hP hD hS => ?_)
        obtain ⟨hF9, vn5, hM, hQ, hkq⟩ := hwn5
        have hF := hF.tr hF9
        have hkp := hkp.tr hkq
        refine lv_iload_n hx hb dM_others_53 rfl (lv_at hl 2 rfl) ?_
        refine lv_bipush (v := 9) hx hb dM_others_54 (by decide) ?_
        refine lv_icmp_ne (tgt := 94) hx hb dM_others_56 (by decide) (fun c56 => ?_) (fun c56 => ?_)
        · exact absurd rfl c56
        · refine lv_aload_n hx hb dM_others_59 rfl (lv_at hl 1 rfl) ?_
          refine lv_bipush (v := 44) hx hb dM_others_60 (by decide) ?_
          refine x_callv (x_runV (n := 1) (As := [.int 44]) (rest := []) ⟨hx, hb, hml, hown, hts⟩ (cM_take l D tys A ws_6 cI hI ad km vn5 F cs (tkI (spT cs 0) 4 (tkI (spT cs 0) 40 (i + 1))) S O op ((tkL (spT cs 0) 4 (tkI (spT cs 0) 40 (i + 1)) (tkL (spT cs 0) 40 (i + 1) (-1)))) hQ 44 (by decide) hM) tw_817 tw_819 ts_M_take tw_8 tw_820 (by decide +kernel) rfl rfl ⟨by decide, by decide⟩ ⟨Nat.zero_le _, Nat.zero_le _⟩ (va_recv hK hP (ci := 7) (q0 := km) rfl hM.1) hK hP hD hS hA hN rfl hl.1 rfl (lv_room (Nat.le_of_ble_eq_true rfl)) dM_others_62) hS (fun ws_8 H locs hwn7 hP hD hS => ?_)
          obtain ⟨hF9, vn7, hM, hQ, hkq⟩ := hwn7
          have hF := hF.tr hF9
          have hkp := hkp.tr hkq
          refine lv_aload_n hx hb dM_others_65 rfl (lv_at hl 1 rfl) ?_
          refine lv_bipush (v := 6) hx hb dM_others_66 (by decide) ?_
          refine lv_iload_n hx hb dM_others_68 rfl (lv_at hl 0 rfl) ?_
          refine lv_bipush (v := 9) hx hb dM_others_69 (by decide) ?_
          refine x_callv (x_runV (n := 3) (As := [.int 6, .int (vn3 12), .int 9]) (rest := []) ⟨hx, hb, hml, hown, hts⟩ (cM_wants l D tys A ws_8 cI hI ad km vn7 F S.length hQ.2.2.1.1 (by (try simp only [List.length_cons]); omega) 6 ((vn3 12)) 9 hM) tw_797 tw_799 ts_M_wants tw_8 tw_800 (by decide +kernel) rfl rfl ⟨by decide, by decide⟩ ⟨Nat.zero_le _, Nat.zero_le _⟩ (va_recv hK hP (ci := 7) (q0 := km) rfl hM.1) hK hP hD hS hA hN rfl hl.1 rfl (lv_room (Nat.le_of_ble_eq_true rfl)) dM_others_71) hS (fun ws_10 H locs hwn9 hP hD hS => ?_)
          obtain ⟨hF9, hM⟩ := hwn9
          have hF := hF.tr hF9
          obtain ⟨vn9, Fn9, hM, hQ, hkp⟩ := hQ.want hkp (by (try simp only [List.length_cons]); omega) hM
          refine lv_aload_n hx hb dM_others_74 rfl (lv_at hl 1 rfl) ?_
          refine lv_iconst (v := 4) hx hb dM_others_75 (by decide) ?_
          refine lv_iconst (v := 0) hx hb dM_others_76 (by decide) ?_
          refine lv_bipush (v := 41) hx hb dM_others_77 (by decide) ?_
          refine x_callv (x_runV (n := 3) (As := [.int 4, .int 0, .int 41]) (rest := []) ⟨hx, hb, hml, hown, hts⟩ (cM_wants l D tys A ws_10 cI hI ad km vn9 Fn9 (((6, ((vn3 12)), 9) :: S)).length hQ.2.2.1.1 (by (try simp only [List.length_cons]); omega) 4 0 41 hM) tw_797 tw_799 ts_M_wants tw_8 tw_800 (by decide +kernel) rfl rfl ⟨by decide, by decide⟩ ⟨Nat.zero_le _, Nat.zero_le _⟩ (va_recv hK hP (ci := 7) (q0 := km) rfl hM.1) hK hP hD hS hA hN rfl hl.1 rfl (lv_room (Nat.le_of_ble_eq_true rfl)) dM_others_79) hS (fun ws_12 H locs hwn11 hP hD hS => ?_)
          obtain ⟨hF9, hM⟩ := hwn11
          have hF := hF.tr hF9
          obtain ⟨vn11, Fn11, hM, hQ, hkp⟩ := hQ.want hkp (by (try simp only [List.length_cons]); omega) hM
          refine lv_aload_n hx hb dM_others_82 rfl (lv_at hl 1 rfl) ?_
          refine lv_iconst (v := 1) hx hb dM_others_83 (by decide) ?_
          refine lv_iload_n hx hb dM_others_84 rfl (lv_at hl 3 rfl) ?_
          refine lv_iconst (v := 1) hx hb dM_others_85 (by decide) ?_
          refine lv_iadd hx hb dM_others_86 ?_
          refine lv_iconst (v := 0) hx hb dM_others_87 (by decide) ?_
          refine x_callv (x_runV (n := 3) (As := [.int 1, .int (dd + 1), .int 0]) (rest := []) ⟨hx, hb, hml, hown, hts⟩ (cM_wants l D tys A ws_12 cI hI ad km vn11 Fn11 (((4, 0, 41) :: ((6, ((vn3 12)), 9) :: S))).length hQ.2.2.1.1 (by (try simp only [List.length_cons]); omega) 1 ((dd + 1)) 0 hM) tw_797 tw_799 ts_M_wants tw_8 tw_800 (by decide +kernel) rfl rfl ⟨by decide, by decide⟩ ⟨Nat.zero_le _, Nat.zero_le _⟩ (va_recv hK hP (ci := 7) (q0 := km) rfl hM.1) hK hP hD hS hA hN rfl hl.1 rfl (lv_room (Nat.le_of_ble_eq_true rfl)) dM_others_88) hS (fun ws_14 H locs hwn13 hP hD hS => ?_)
          obtain ⟨hF9, hM⟩ := hwn13
          have hF := hF.tr hF9
          obtain ⟨vn13, Fn13, hM, hQ, hkp⟩ := hQ.want hkp (by (try simp only [List.length_cons]); omega) hM
          refine lv_goto (tgt := 134) hx hb dM_others_91 (by decide) ?_
          exact x_vret hx hb hr hlk hK hP hD hS dM_others_134 ⟨hF, _, _, hM, hkp, oth_9 hQ.1.2.1 hk9 hx9 (by first | exact hQ | (rw [show dd + 1 = dd + 1 from rfl] at hQ; exact hQ))⟩
  · refine lv_iload_n hx hb dM_others_6 rfl (lv_at hl 1 rfl) ?_
    refine lv_bipush (v := 12) hx hb dM_others_7 (by decide) ?_
    refine lv_icmp_eq (tgt := 17) hx hb dM_others_9 (by decide) (fun c9 => ?_) (fun c9 => ?_)
    · have hk9 : (tk (spT cs 0) i).1 = 12 := by rw [← hw9]; exact c9
      obtain rfl : was = 12 := c9
      refine lv_aload_n hx hb dM_others_17 rfl (lv_at hl 0 rfl) ?_
      obtain ⟨en15, hcun15, hnxn15⟩ := hQ.2.1
      refine x_callv (x_runV (n := 0) (As := []) (rest := []) ⟨hx, hb, hml, hown, hts⟩ (cM_next l D tys A ws cI hI ad km v F cs hQ.1 (tokA cs en15).2 (Cu_ub hQ.1 hcun15) hnxn15.2.2.1 hM) tw_771 tw_773 ts_M_next tw_8 tw_774 (by decide +kernel) rfl rfl ⟨by decide, by decide⟩ ⟨Nat.zero_le _, Nat.zero_le _⟩ (va_recv hK hP (ci := 7) (q0 := km) rfl hM.1) hK hP hD hS hA hN rfl hl.1 rfl (lv_room (Nat.le_of_ble_eq_true rfl)) dM_others_18) hS (fun ws_16 H locs hwn15 hP hD hS => ?_)
      obtain ⟨hF9, vn15, hM, hvn15, hnn15⟩ := hwn15
      have hF := hF.tr hF9
      obtain ⟨hQ, hkp⟩ := hQ.nxt hkp hcun15 (by rw [hk9]; decide) hvn15 hnn15
      refine lv_iload_n hx hb dM_others_21 rfl (lv_at hl 1 rfl) ?_
      refine lv_bipush (v := 9) hx hb dM_others_22 (by decide) ?_
      refine lv_icmp_ne (tgt := 33) hx hb dM_others_24 (by decide) (fun c24 => ?_) (fun c24 => ?_)
      · refine lv_aload_n hx hb dM_others_33 rfl (lv_at hl 0 rfl) ?_
        refine va_get (D := D) (cl := xCl) (ci := 7) (v := .int (vn15 12)) (C := rnM) (T := tbM) (N := 39) hx hb hts inM hown hK hP km hM.1 rfl 12 (by decide) (hts _ tw_629) (fun _ h9 => h9) rfl dM_others_34 ?_
        have hx9 : (tk (spT cs 0) (i + 1)).1 = 3 → (vn15 12) = (tk (spT cs 0) (i + 1)).2.1 := fun z9 => hQ.k.2.2.1 (Or.inr (Or.inl z9))
        refine lv_istore_n (lv' := [(3, .int (vn15 12)), (0, .ref (ad km)), (1, .int 12), (2, .int dd)]) hx hb dM_others_37 rfl hl (by decide) rfl (fun ls hl => ?_)
        refine lv_aload_n hx hb dM_others_38 rfl (lv_at hl 1 rfl) ?_
        refine lv_iload_n hx hb dM_others_39 rfl (lv_at hl 2 rfl) ?_
        refine lv_bipush (v := 9) hx hb dM_others_40 (by decide) ?_
        refine lv_icmp_ne (tgt := 49) hx hb dM_others_42 (by decide) (fun c42 => ?_) (fun c42 => ?_)
        · refine lv_iconst (v := 3) hx hb dM_others_49 (by decide) ?_
          refine x_callv (x_runV (n := 1) (As := [.int 3]) (rest := []) ⟨hx, hb, hml, hown, hts⟩ (cM_take l D tys A ws_16 cI hI ad km vn15 F cs (i + 1) S O op ((-1)) hQ 3 (by decide) hM) tw_817 tw_819 ts_M_take tw_8 tw_820 (by decide +kernel) rfl rfl ⟨by decide, by decide⟩ ⟨Nat.zero_le _, Nat.zero_le _⟩ (va_recv hK hP (ci := 7) (q0 := km) rfl hM.1) hK hP hD hS hA hN rfl hl.1 rfl (lv_room (Nat.le_of_ble_eq_true rfl)) dM_others_50) hS (fun ws_18 H locs hwn17 hP hD hS => ?_)
          obtain ⟨hF9, vn17, hM, hQ, hkq⟩ := hwn17
          have hF := hF.tr hF9
          have hkp := hkp.tr hkq
          refine lv_iload_n hx hb dM_others_53 rfl (lv_at hl 2 rfl) ?_
          refine lv_bipush (v := 9) hx hb dM_others_54 (by decide) ?_
          refine lv_icmp_ne (tgt := 94) hx hb dM_others_56 (by decide) (fun c56 => ?_) (fun c56 => ?_)
          · refine lv_aload_n hx hb dM_others_94 rfl (lv_at hl 1 rfl) ?_
            refine lv_bipush (v := 61) hx hb dM_others_95 (by decide) ?_
            refine x_callv (x_runV (n := 1) (As := [.int 61]) (rest := []) ⟨hx, hb, hml, hown, hts⟩ (cM_take l D tys A ws_18 cI hI ad km vn17 F cs (tkI (spT cs 0) 3 (i + 1)) S O op ((tkL (spT cs 0) 3 (i + 1) (-1))) hQ 61 (by decide) hM) tw_817 tw_819 ts_M_take tw_8 tw_820 (by decide +kernel) rfl rfl ⟨by decide, by decide⟩ ⟨Nat.zero_le _, Nat.zero_le _⟩ (va_recv hK hP (ci := 7) (q0 := km) rfl hM.1) hK hP hD hS hA hN rfl hl.1 rfl (lv_room (Nat.le_of_ble_eq_true rfl)) dM_others_97) hS (fun ws_20 H locs hwn19 hP hD hS => ?_)
            obtain ⟨hF9, vn19, hM, hQ, hkq⟩ := hwn19
            have hF := hF.tr hF9
            have hkp := hkp.tr hkq
            refine lv_aload_n hx hb dM_others_100 rfl (lv_at hl 1 rfl) ?_
            refine lv_bipush (v := 8) hx hb dM_others_101 (by decide) ?_
            refine lv_iconst (v := 0) hx hb dM_others_103 (by decide) ?_
            refine lv_iload_n hx hb dM_others_104 rfl (lv_at hl 0 rfl) ?_
            refine x_callv (x_runV (n := 3) (As := [.int 8, .int 0, .int (vn15 12)]) (rest := []) ⟨hx, hb, hml, hown, hts⟩ (cM_wants l D tys A ws_20 cI hI ad km vn19 F S.length hQ.2.2.1.1 (by (try simp only [List.length_cons]); omega) 8 0 ((vn15 12)) hM) tw_797 tw_799 ts_M_wants tw_8 tw_800 (by decide +kernel) rfl rfl ⟨by decide, by decide⟩ ⟨Nat.zero_le _, Nat.zero_le _⟩ (va_recv hK hP (ci := 7) (q0 := km) rfl hM.1) hK hP hD hS hA hN rfl hl.1 rfl (lv_room (Nat.le_of_ble_eq_true rfl)) dM_others_105) hS (fun ws_22 H locs hwn21 hP hD hS => ?_)
            obtain ⟨hF9, hM⟩ := hwn21
            have hF := hF.tr hF9
            obtain ⟨vn21, Fn21, hM, hQ, hkp⟩ := hQ.want hkp (by (try simp only [List.length_cons]); omega) hM
            refine lv_aload_n hx hb dM_others_108 rfl (lv_at hl 1 rfl) ?_
            refine lv_iconst (v := 1) hx hb dM_others_109 (by decide) ?_
            refine lv_iload_n hx hb dM_others_110 rfl (lv_at hl 3 rfl) ?_
            refine lv_iconst (v := 1) hx hb dM_others_111 (by decide) ?_
            refine lv_iadd hx hb dM_others_112 ?_
            refine lv_iconst (v := 0) hx hb dM_others_113 (by decide) ?_
            refine x_callv (x_runV (n := 3) (As := [.int 1, .int (dd + 1), .int 0]) (rest := []) ⟨hx, hb, hml, hown, hts⟩ (cM_wants l D tys A ws_22 cI hI ad km vn21 Fn21 (((8, 0, ((vn15 12))) :: S)).length hQ.2.2.1.1 (by (try simp only [List.length_cons]); omega) 1 ((dd + 1)) 0 hM) tw_797 tw_799 ts_M_wants tw_8 tw_800 (by decide +kernel) rfl rfl ⟨by decide, by decide⟩ ⟨Nat.zero_le _, Nat.zero_le _⟩ (va_recv hK hP (ci := 7) (q0 := km) rfl hM.1) hK hP hD hS hA hN rfl hl.1 rfl (lv_room (Nat.le_of_ble_eq_true rfl)) dM_others_114) hS (fun ws_24 H locs hwn23 hP hD hS => ?_)
            obtain ⟨hF9, hM⟩ := hwn23
            have hF := hF.tr hF9
            obtain ⟨vn23, Fn23, hM, hQ, hkp⟩ := hQ.want hkp (by (try simp only [List.length_cons]); omega) hM
            refine lv_aload_n hx hb dM_others_117 rfl (lv_at hl 1 rfl) ?_
            refine lv_bipush (v := 7) hx hb dM_others_118 (by decide) ?_
            refine lv_iconst (v := 0) hx hb dM_others_120 (by decide) ?_
            refine lv_iload_n hx hb dM_others_121 rfl (lv_at hl 0 rfl) ?_
            refine x_callv (x_runV (n := 3) (As := [.int 7, .int 0, .int (vn15 12)]) (rest := []) ⟨hx, hb, hml, hown, hts⟩ (cM_wants l D tys A ws_24 cI hI ad km vn23 Fn23 (((1, ((dd + 1)), 0) :: ((8, 0, ((vn15 12))) :: S))).length hQ.2.2.1.1 (by (try simp only [List.length_cons]); omega) 7 0 ((vn15 12)) hM) tw_797 tw_799 ts_M_wants tw_8 tw_800 (by decide +kernel) rfl rfl ⟨by decide, by decide⟩ ⟨Nat.zero_le _, Nat.zero_le _⟩ (va_recv hK hP (ci := 7) (q0 := km) rfl hM.1) hK hP hD hS hA hN rfl hl.1 rfl (lv_room (Nat.le_of_ble_eq_true rfl)) dM_others_122) hS (fun ws_26 H locs hwn25 hP hD hS => ?_)
            obtain ⟨hF9, hM⟩ := hwn25
            have hF := hF.tr hF9
            obtain ⟨vn25, Fn25, hM, hQ, hkp⟩ := hQ.want hkp (by (try simp only [List.length_cons]); omega) hM
            refine lv_aload_n hx hb dM_others_125 rfl (lv_at hl 1 rfl) ?_
            refine lv_iconst (v := 1) hx hb dM_others_126 (by decide) ?_
            refine lv_iload_n hx hb dM_others_127 rfl (lv_at hl 3 rfl) ?_
            refine lv_iconst (v := 1) hx hb dM_others_128 (by decide) ?_
            refine lv_iadd hx hb dM_others_129 ?_
            refine lv_iconst (v := 0) hx hb dM_others_130 (by decide) ?_
            refine x_callv (x_runV (n := 3) (As := [.int 1, .int (dd + 1), .int 0]) (rest := []) ⟨hx, hb, hml, hown, hts⟩ (cM_wants l D tys A ws_26 cI hI ad km vn25 Fn25 (((7, 0, ((vn15 12))) :: ((1, ((dd + 1)), 0) :: ((8, 0, ((vn15 12))) :: S)))).length hQ.2.2.1.1 (by (try simp only [List.length_cons]); omega) 1 ((dd + 1)) 0 hM) tw_797 tw_799 ts_M_wants tw_8 tw_800 (by decide +kernel) rfl rfl ⟨by decide, by decide⟩ ⟨Nat.zero_le _, Nat.zero_le _⟩ (va_recv hK hP (ci := 7) (q0 := km) rfl hM.1) hK hP hD hS hA hN rfl hl.1 rfl (lv_room (Nat.le_of_ble_eq_true rfl)) dM_others_131) hS (fun ws_28 H locs hwn27 hP hD hS => ?_)
            obtain ⟨hF9, hM⟩ := hwn27
            have hF := hF.tr hF9
            obtain ⟨vn27, Fn27, hM, hQ, hkp⟩ := hQ.want hkp (by (try simp only [List.length_cons]); omega) hM
            exact x_vret hx hb hr hlk hK hP hD hS dM_others_134 ⟨hF, _, _, hM, hkp, oth_12 hQ.1.2.1 hk9 hx9 (by first | exact hQ | (rw [show dd + 1 = dd + 1 from rfl] at hQ; exact hQ))⟩
          · exact absurd c56 (by decide)
        · exact absurd c42 (by decide)
      · exact absurd c24 (by decide)
    · refine lv_aload_n hx hb dM_others_12 rfl (lv_at hl 0 rfl) ?_
      refine x_callv (x_runV (n := 0) (As := []) (rest := []) ⟨hx, hb, hml, hown, hts⟩ (cM_fail l D tys A ws cI hI ad km v F hM) tw_809 tw_811 ts_M_fail tw_8 tw_812 (by decide +kernel) rfl rfl ⟨by decide, by decide⟩ ⟨Nat.zero_le _, Nat.zero_le _⟩ (va_recv hK hP (ci := 7) (q0 := km) rfl hM.1) hK hP hD hS hA hN rfl hl.1 rfl (lv_room (Nat.le_of_ble_eq_true rfl)) dM_others_13) hS (fun ws_30 H locs hwn29 hP hD hS => ?_)
      obtain ⟨hF9, hM⟩ := hwn29
      have hF := hF.tr hF9
      obtain ⟨hQ, hkp⟩ := hQ.fail hkp
      exact x_vret hx hb hr hlk hK hP hD hS dM_others_16 (by have e9 : oT (spT cs 0) dd i S O op = .inl (tk (spT cs 0) i).2.2 := (by unfold oT; rw [if_neg (by rw [← hw9]; exact c3), if_neg (by rw [← hw9]; exact c9)]); rw [if_pos rfl] at hQ; exact ⟨hF, _, _, hM, hkp, MPr.l e9 hQ⟩)

theorem sw_mt (x : Int32) : x = 2 ∨ x = 3 ∨ x = 5 ∨ x = 6 ∨ x = 7 ∨ x = 8 ∨ x = 10 ∨ x = 11 ∨ x = 40 ∨ (¬ x = 2 ∧ ¬ x = 3 ∧ ¬ x = 5 ∧ ¬ x = 6 ∧ ¬ x = 7 ∧ ¬ x = 8 ∧ ¬ x = 10 ∧ ¬ x = 11 ∧ ¬ x = 40) := by
  by_cases h2 : x = 2
  · exact Or.inl h2
  by_cases h3 : x = 3
  · exact Or.inr (Or.inl h3)
  by_cases h5 : x = 5
  · exact Or.inr (Or.inr (Or.inl h5))
  by_cases h6 : x = 6
  · exact Or.inr (Or.inr (Or.inr (Or.inl h6)))
  by_cases h7 : x = 7
  · exact Or.inr (Or.inr (Or.inr (Or.inr (Or.inl h7))))
  by_cases h8 : x = 8
  · exact Or.inr (Or.inr (Or.inr (Or.inr (Or.inr (Or.inl h8)))))
  by_cases h10 : x = 10
  · exact Or.inr (Or.inr (Or.inr (Or.inr (Or.inr (Or.inr (Or.inl h10))))))
  by_cases h11 : x = 11
  · exact Or.inr (Or.inr (Or.inr (Or.inr (Or.inr (Or.inr (Or.inr (Or.inl h11)))))))
  by_cases h40 : x = 40
  · exact Or.inr (Or.inr (Or.inr (Or.inr (Or.inr (Or.inr (Or.inr (Or.inr (Or.inl h40))))))))
  exact Or.inr (Or.inr (Or.inr (Or.inr (Or.inr (Or.inr (Or.inr (Or.inr (Or.inr (⟨h2, h3, h5, h6, h7, h8, h10, h11, h40⟩)))))))))
theorem lk_mt {x : Int32} (h : ¬ x = 2 ∧ ¬ x = 3 ∧ ¬ x = 5 ∧ ¬ x = 6 ∧ ¬ x = 7 ∧ ¬ x = 8 ∧ ¬ x = 10 ∧ ¬ x = 11 ∧ ¬ x = 40) : Op.lookupswitch.offset (#[(2, 82), (3, 82), (5, 82), (6, 121), (7, 121), (8, 188), (10, 150), (11, 150), (40, 97)] : Array (Int × Int)).toList 244 x.toInt = 244 := by
  obtain ⟨h2, h3, h5, h6, h7, h8, h10, h11, h40⟩ := h
  have k : ∀ (n : Int32), ¬ x = n → ¬ n.toInt = x.toInt := fun n hn e => hn (Int32.toInt_inj.mp e.symm)
  simp [Op.lookupswitch.offset, List.find?, show ¬ ((2 : Int) = x.toInt) from k 2 h2, show ¬ ((3 : Int) = x.toInt) from k 3 h3, show ¬ ((5 : Int) = x.toInt) from k 5 h5, show ¬ ((6 : Int) = x.toInt) from k 6 h6, show ¬ ((7 : Int) = x.toInt) from k 7 h7, show ¬ ((8 : Int) = x.toInt) from k 8 h8, show ¬ ((10 : Int) = x.toInt) from k 10 h10, show ¬ ((11 : Int) = x.toInt) from k 11 h11, show ¬ ((40 : Int) = x.toInt) from k 40 h40]

set_option maxHeartbeats 4000000 in
set_option maxRecDepth 100000 in
/-- term(deep) -/
theorem cM_term (l : Launch) (D : va_G) (tys : List (ClassId × FieldType)) (A : Nat → Prop) (ws : va_W) (cI : ClassId) (hI : tys[0]? = some (cI, .int)) (ad : Nat → Nat) (km : Nat) (v : Nat → Int32) (F : Nat → Nat → Int32) (cs : List Nat) (i : Nat) (S : List Mu) (O : List Tok) (op : Nat → Int32) (hQ : MP cs i S O op (-1) v F) (ee : Nat) (hee : ee ≤ 12) (hSl : S.length ≤ 100) (hOl : O.length ≤ 100) (hM : ModF cI ad ws km v F) : x_Mv l yM_term wM_term (xR 5) D xCl tys A [.ref (ad km), .int (nI ee)] ws (fun ws1 => x_fr km (km + 24) ws ws1 ∧ ∃ v9 F9, ModF cI ad ws1 km v9 F9 ∧ kpR v F v9 F9 ∧ MPr cs (mTerm (spT cs 0) (nI ee) i S O op) v9 F9) := by
  have hF : x_fr km (km + 24) ws ws := x_fr.rf
  have hkp : kpR v F v F := kpR.rf
  have hQ0 := hQ
  have hk := hQ.k
  refine x_enter (by decide) rfl (Nat.le_of_ble_eq_true rfl) (fun p e s m args below meth c ls hx hb hr hlk hml hown hnm hts hK hP hD hS hA hN hl => ?_)
  have hl : lv_has ls 5 [(0, .ref (ad km)), (1, .int (nI ee))] := hl
  refine lv_aload_n hx hb dM_term_0 rfl (lv_at hl 0 rfl) ?_
  refine va_get (D := D) (cl := xCl) (ci := 7) (v := .int (v 9)) (C := rnM) (T := tbM) (N := 39) hx hb hts inM hown hK hP km hM.1 rfl 9 (by decide) (hts _ tw_626) (fun _ h9 => h9) rfl dM_term_1 ?_
  refine lv_istore_n (lv' := [(2, .int (v 9)), (0, .ref (ad km)), (1, .int (nI ee))]) hx hb dM_term_4 rfl hl (by decide) rfl (fun ls hl => ?_)
  refine lv_aload_n hx hb dM_term_5 rfl (lv_at hl 1 rfl) ?_
  refine va_get (D := D) (cl := xCl) (ci := 7) (v := .int (v 12)) (C := rnM) (T := tbM) (N := 39) hx hb hts inM hown hK hP km hM.1 rfl 12 (by decide) (hts _ tw_629) (fun _ h9 => h9) rfl dM_term_6 ?_
  refine lv_istore_n (lv' := [(3, .int (v 12)), (2, .int (v 9)), (0, .ref (ad km)), (1, .int (nI ee))]) hx hb dM_term_9 rfl hl (by decide) rfl (fun ls hl => ?_)
  refine lv_aload_n hx hb dM_term_10 rfl (lv_at hl 2 rfl) ?_
  refine va_get (D := D) (cl := xCl) (ci := 7) (v := .int (v 10)) (C := rnM) (T := tbM) (N := 39) hx hb hts inM hown hK hP km hM.1 rfl 10 (by decide) (hts _ tw_627) (fun _ h9 => h9) rfl dM_term_11 ?_
  refine lv_istore (lv' := [(4, .int (v 10)), (3, .int (v 12)), (2, .int (v 9)), (0, .ref (ad km)), (1, .int (nI ee))]) hx hb dM_term_14 hl (by decide) rfl (fun ls hl => ?_)
  refine lv_iload_n hx hb dM_term_16 rfl (lv_at hl 4 rfl) ?_
  refine lv_bipush (v := 12) hx hb dM_term_17 (by decide) ?_
  refine lv_icmp_eq (tgt := 36) hx hb dM_term_19 (by decide) (fun c19 => ?_) (fun c19 => ?_)
  · refine lv_aload_n hx hb dM_term_36 rfl (lv_at hl 3 rfl) ?_
    refine x_callv (x_runV (n := 0) (As := []) (rest := []) ⟨hx, hb, hml, hown, hts⟩ (cM_fail l D tys A ws cI hI ad km v F hM) tw_809 tw_811 ts_M_fail tw_8 tw_812 (by decide +kernel) rfl rfl ⟨by decide, by decide⟩ ⟨Nat.zero_le _, Nat.zero_le _⟩ (va_recv hK hP (ci := 7) (q0 := km) rfl hM.1) hK hP hD hS hA hN rfl hl.1 rfl (lv_room (Nat.le_of_ble_eq_true rfl)) dM_term_37) hS (fun ws_2 H locs hwn1 hP hD hS => ?_)
    obtain ⟨hF9, hM⟩ := hwn1
    have hF := hF.tr hF9
    obtain ⟨hQ, hkp⟩ := hQ.fail hkp
    exact x_vret hx hb hr hlk hK hP hD hS dM_term_40 (by have e9 : mTerm (spT cs 0) (nI ee) i S O op = .inl (tk (spT cs 0) i).2.2 := if_pos (Or.inl c19); rw [if_pos rfl] at hQ; exact ⟨hF, _, _, hM, hkp, MPr.l e9 hQ⟩)
  · refine lv_iload_n hx hb dM_term_22 rfl (lv_at hl 2 rfl) ?_
    refine lv_iconst (v := 3) hx hb dM_term_23 (by decide) ?_
    refine lv_icmp_ne (tgt := 41) hx hb dM_term_24 (by decide) (fun c24 => ?_) (fun c24 => ?_)
    · refine lv_iload_n hx hb dM_term_41 rfl (lv_at hl 2 rfl) ?_
      have hno : ¬ (nI ee = 12 ∨ ((tk (spT cs 0) i).1 = 3 ∧ op (tk (spT cs 0) i).2.1.toNatClampNeg = 0)) := by rintro (z9 | ⟨z9, -⟩); exact c19 z9; exact c24 (hk.1.trans z9)
      rcases sw_mt (v 9) with h9 | h9 | h9 | h9 | h9 | h9 | h9 | h9 | h9 | hoth
      · have hkc : (tk (spT cs 0) i).1 = 2 := by rw [← hk.1]; exact h9
        refine lv_lookup (off := 82) (tgt := 124) hx hb dM_term_42 (by decide) (by rw [h9]; decide) (by decide) ?_
        refine lv_aload_n hx hb dM_term_124 rfl (lv_at hl 3 rfl) ?_
        refine lv_iload_n hx hb dM_term_125 rfl (lv_at hl 2 rfl) ?_
        refine lv_iload_n hx hb dM_term_126 rfl (lv_at hl 1 rfl) ?_
        refine lv_iload hx hb dM_term_127 (lv_at hl 0 rfl) ?_
        refine x_callv (x_runV (n := 3) (As := [.int (v 9), .int (v 12), .int (v 10)]) (rest := []) ⟨hx, hb, hml, hown, hts⟩ (cM_write l D tys A ws cI hI ad km v F O.length hQ.2.2.2.1.1 (by omega) ((v 9)) ((v 12)) ((v 10)) hM) tw_813 tw_815 ts_M_write tw_8 tw_816 (by decide +kernel) rfl rfl ⟨by decide, by decide⟩ ⟨Nat.zero_le _, Nat.zero_le _⟩ (va_recv hK hP (ci := 7) (q0 := km) rfl hM.1) hK hP hD hS hA hN rfl hl.1 rfl (lv_room (Nat.le_of_ble_eq_true rfl)) dM_term_129) hS (fun ws_4 H locs hwn3 hP hD hS => ?_)
        obtain ⟨hF9, hM⟩ := hwn3
        have hF := hF.tr hF9
        obtain ⟨vn3, Fn3, hM, hQ, hkp⟩ := MP.writ (tk (spT cs 0) i) hk.1 (fun _ => hk.2.2.1 (Or.inl hkc)) hk.2.1 hQ hkp (by omega) hM
        refine lv_aload_n hx hb dM_term_132 rfl (lv_at hl 3 rfl) ?_
        obtain ⟨en5, hcun5, hnxn5⟩ := hQ.2.1
        refine x_callv (x_runV (n := 0) (As := []) (rest := []) ⟨hx, hb, hml, hown, hts⟩ (cM_next l D tys A ws_4 cI hI ad km vn3 Fn3 cs hQ.1 (tokA cs en5).2 (Cu_ub hQ.1 hcun5) hnxn5.2.2.1 hM) tw_771 tw_773 ts_M_next tw_8 tw_774 (by decide +kernel) rfl rfl ⟨by decide, by decide⟩ ⟨Nat.zero_le _, Nat.zero_le _⟩ (va_recv hK hP (ci := 7) (q0 := km) rfl hM.1) hK hP hD hS hA hN rfl hl.1 rfl (lv_room (Nat.le_of_ble_eq_true rfl)) dM_term_133) hS (fun ws_6 H locs hwn5 hP hD hS => ?_)
        obtain ⟨hF9, vn5, hM, hvn5, hnn5⟩ := hwn5
        have hF := hF.tr hF9
        obtain ⟨hQ, hkp⟩ := hQ.nxt hkp hcun5 (by rw [hkc]; decide) hvn5 hnn5
        refine lv_goto (tgt := 292) hx hb dM_term_136 (by decide) ?_
        exact x_vret hx hb hr hlk hK hP hD hS dM_term_292 (by have e9 : mTerm (spT cs 0) (nI ee) i S O op = .inr (i + 1, S, O ++ [tk (spT cs 0) i], op) := (by unfold mTerm; rw [if_neg hno, hkc, if_pos (Or.inl rfl)]); exact ⟨hF, _, _, hM, hkp, MPr.r e9 hQ⟩)
      · exact absurd h9 c24
      · have hkc : (tk (spT cs 0) i).1 = 5 := by rw [← hk.1]; exact h9
        refine lv_lookup (off := 82) (tgt := 124) hx hb dM_term_42 (by decide) (by rw [h9]; decide) (by decide) ?_
        refine lv_aload_n hx hb dM_term_124 rfl (lv_at hl 3 rfl) ?_
        refine lv_iload_n hx hb dM_term_125 rfl (lv_at hl 2 rfl) ?_
        refine lv_iload_n hx hb dM_term_126 rfl (lv_at hl 1 rfl) ?_
        refine lv_iload hx hb dM_term_127 (lv_at hl 0 rfl) ?_
        refine x_callv (x_runV (n := 3) (As := [.int (v 9), .int (v 12), .int (v 10)]) (rest := []) ⟨hx, hb, hml, hown, hts⟩ (cM_write l D tys A ws cI hI ad km v F O.length hQ.2.2.2.1.1 (by omega) ((v 9)) ((v 12)) ((v 10)) hM) tw_813 tw_815 ts_M_write tw_8 tw_816 (by decide +kernel) rfl rfl ⟨by decide, by decide⟩ ⟨Nat.zero_le _, Nat.zero_le _⟩ (va_recv hK hP (ci := 7) (q0 := km) rfl hM.1) hK hP hD hS hA hN rfl hl.1 rfl (lv_room (Nat.le_of_ble_eq_true rfl)) dM_term_129) hS (fun ws_8 H locs hwn7 hP hD hS => ?_)
        obtain ⟨hF9, hM⟩ := hwn7
        have hF := hF.tr hF9
        obtain ⟨vn7, Fn7, hM, hQ, hkp⟩ := MP.writ (tk (spT cs 0) i) hk.1 (fun z9 => absurd hkc z9) hk.2.1 hQ hkp (by omega) hM
        refine lv_aload_n hx hb dM_term_132 rfl (lv_at hl 3 rfl) ?_
        obtain ⟨en9, hcun9, hnxn9⟩ := hQ.2.1
        refine x_callv (x_runV (n := 0) (As := []) (rest := []) ⟨hx, hb, hml, hown, hts⟩ (cM_next l D tys A ws_8 cI hI ad km vn7 Fn7 cs hQ.1 (tokA cs en9).2 (Cu_ub hQ.1 hcun9) hnxn9.2.2.1 hM) tw_771 tw_773 ts_M_next tw_8 tw_774 (by decide +kernel) rfl rfl ⟨by decide, by decide⟩ ⟨Nat.zero_le _, Nat.zero_le _⟩ (va_recv hK hP (ci := 7) (q0 := km) rfl hM.1) hK hP hD hS hA hN rfl hl.1 rfl (lv_room (Nat.le_of_ble_eq_true rfl)) dM_term_133) hS (fun ws_10 H locs hwn9 hP hD hS => ?_)
        obtain ⟨hF9, vn9, hM, hvn9, hnn9⟩ := hwn9
        have hF := hF.tr hF9
        obtain ⟨hQ, hkp⟩ := hQ.nxt hkp hcun9 (by rw [hkc]; decide) hvn9 hnn9
        refine lv_goto (tgt := 292) hx hb dM_term_136 (by decide) ?_
        exact x_vret hx hb hr hlk hK hP hD hS dM_term_292 (by have e9 : mTerm (spT cs 0) (nI ee) i S O op = .inr (i + 1, S, O ++ [tk (spT cs 0) i], op) := (by unfold mTerm; rw [if_neg hno, hkc, if_pos (Or.inr (Or.inr rfl))]); exact ⟨hF, _, _, hM, hkp, MPr.r e9 hQ⟩)
      · have hkc : (tk (spT cs 0) i).1 = 6 := by rw [← hk.1]; exact h9
        refine lv_lookup (off := 121) (tgt := 163) hx hb dM_term_42 (by decide) (by rw [h9]; decide) (by decide) ?_
        refine lv_aload_n hx hb dM_term_163 rfl (lv_at hl 3 rfl) ?_
        obtain ⟨en11, hcun11, hnxn11⟩ := hQ.2.1
        refine x_callv (x_runV (n := 0) (As := []) (rest := []) ⟨hx, hb, hml, hown, hts⟩ (cM_next l D tys A ws cI hI ad km v F cs hQ.1 (tokA cs en11).2 (Cu_ub hQ.1 hcun11) hnxn11.2.2.1 hM) tw_771 tw_773 ts_M_next tw_8 tw_774 (by decide +kernel) rfl rfl ⟨by decide, by decide⟩ ⟨Nat.zero_le _, Nat.zero_le _⟩ (va_recv hK hP (ci := 7) (q0 := km) rfl hM.1) hK hP hD hS hA hN rfl hl.1 rfl (lv_room (Nat.le_of_ble_eq_true rfl)) dM_term_164) hS (fun ws_12 H locs hwn11 hP hD hS => ?_)
        obtain ⟨hF9, vn11, hM, hvn11, hnn11⟩ := hwn11
        have hF := hF.tr hF9
        obtain ⟨hQ, hkp⟩ := hQ.nxt hkp hcun11 (by rw [hkc]; decide) hvn11 hnn11
        refine lv_aload_n hx hb dM_term_167 rfl (lv_at hl 3 rfl) ?_
        refine lv_bipush (v := 40) hx hb dM_term_168 (by decide) ?_
        refine x_callv (x_runV (n := 1) (As := [.int 40]) (rest := []) ⟨hx, hb, hml, hown, hts⟩ (cM_take l D tys A ws_12 cI hI ad km vn11 F cs (i + 1) S O op ((-1)) hQ 40 (by decide) hM) tw_817 tw_819 ts_M_take tw_8 tw_820 (by decide +kernel) rfl rfl ⟨by decide, by decide⟩ ⟨Nat.zero_le _, Nat.zero_le _⟩ (va_recv hK hP (ci := 7) (q0 := km) rfl hM.1) hK hP hD hS hA hN rfl hl.1 rfl (lv_room (Nat.le_of_ble_eq_true rfl)) dM_term_170) hS (fun ws_14 H locs hwn13 hP hD hS => ?_)
        obtain ⟨hF9, vn13, hM, hQ, hkq⟩ := hwn13
        have hF := hF.tr hF9
        have hkp := hkp.tr hkq
        refine lv_aload_n hx hb dM_term_173 rfl (lv_at hl 3 rfl) ?_
        refine lv_iconst (v := 5) hx hb dM_term_174 (by decide) ?_
        refine lv_iconst (v := 0) hx hb dM_term_175 (by decide) ?_
        refine lv_iload_n hx hb dM_term_176 rfl (lv_at hl 2 rfl) ?_
        refine x_callv (x_runV (n := 3) (As := [.int 5, .int 0, .int (v 9)]) (rest := []) ⟨hx, hb, hml, hown, hts⟩ (cM_wants l D tys A ws_14 cI hI ad km vn13 F S.length hQ.2.2.1.1 (by (try simp only [List.length_cons]); omega) 5 0 ((v 9)) hM) tw_797 tw_799 ts_M_wants tw_8 tw_800 (by decide +kernel) rfl rfl ⟨by decide, by decide⟩ ⟨Nat.zero_le _, Nat.zero_le _⟩ (va_recv hK hP (ci := 7) (q0 := km) rfl hM.1) hK hP hD hS hA hN rfl hl.1 rfl (lv_room (Nat.le_of_ble_eq_true rfl)) dM_term_177) hS (fun ws_16 H locs hwn15 hP hD hS => ?_)
        obtain ⟨hF9, hM⟩ := hwn15
        have hF := hF.tr hF9
        obtain ⟨vn15, Fn15, hM, hQ, hkp⟩ := hQ.want hkp (by (try simp only [List.length_cons]); omega) hM
        refine lv_aload_n hx hb dM_term_180 rfl (lv_at hl 3 rfl) ?_
        refine lv_iconst (v := 1) hx hb dM_term_181 (by decide) ?_
        refine lv_iload_n hx hb dM_term_182 rfl (lv_at hl 4 rfl) ?_
        refine lv_iconst (v := 1) hx hb dM_term_183 (by decide) ?_
        refine lv_iadd hx hb dM_term_184 ?_
        refine lv_iconst (v := 0) hx hb dM_term_185 (by decide) ?_
        refine x_callv (x_runV (n := 3) (As := [.int 1, .int ((nI ee) + 1), .int 0]) (rest := []) ⟨hx, hb, hml, hown, hts⟩ (cM_wants l D tys A ws_16 cI hI ad km vn15 Fn15 (((5, 0, ((v 9))) :: S)).length hQ.2.2.1.1 (by (try simp only [List.length_cons]); omega) 1 (((nI ee) + 1)) 0 hM) tw_797 tw_799 ts_M_wants tw_8 tw_800 (by decide +kernel) rfl rfl ⟨by decide, by decide⟩ ⟨Nat.zero_le _, Nat.zero_le _⟩ (va_recv hK hP (ci := 7) (q0 := km) rfl hM.1) hK hP hD hS hA hN rfl hl.1 rfl (lv_room (Nat.le_of_ble_eq_true rfl)) dM_term_186) hS (fun ws_18 H locs hwn17 hP hD hS => ?_)
        obtain ⟨hF9, hM⟩ := hwn17
        have hF := hF.tr hF9
        obtain ⟨vn17, Fn17, hM, hQ, hkp⟩ := hQ.want hkp (by (try simp only [List.length_cons]); omega) hM
        refine lv_goto (tgt := 292) hx hb dM_term_189 (by decide) ?_
        exact x_vret hx hb hr hlk hK hP hD hS dM_term_292 (by have e9 : mTerm (spT cs 0) (nI ee) i S O op = (if (tk (spT cs 0) (i + 1)).1 = 40 then .inr (i + 2, (1, nI ee + 1, 0) :: (5, 0, (tk (spT cs 0) i).1) :: S, O, op) else .inl (tk (spT cs 0) (i + 1)).2.2) := (by unfold mTerm; rw [if_neg hno]; rw [hkc]; rw [if_neg (by decide), if_neg (by decide), if_pos (by decide)]); exact ⟨hF, _, _, hM, hkp, opn_R e9 (by rw [hk.1] at hQ; exact hQ)⟩)
      · have hkc : (tk (spT cs 0) i).1 = 7 := by rw [← hk.1]; exact h9
        refine lv_lookup (off := 121) (tgt := 163) hx hb dM_term_42 (by decide) (by rw [h9]; decide) (by decide) ?_
        refine lv_aload_n hx hb dM_term_163 rfl (lv_at hl 3 rfl) ?_
        obtain ⟨en19, hcun19, hnxn19⟩ := hQ.2.1
        refine x_callv (x_runV (n := 0) (As := []) (rest := []) ⟨hx, hb, hml, hown, hts⟩ (cM_next l D tys A ws cI hI ad km v F cs hQ.1 (tokA cs en19).2 (Cu_ub hQ.1 hcun19) hnxn19.2.2.1 hM) tw_771 tw_773 ts_M_next tw_8 tw_774 (by decide +kernel) rfl rfl ⟨by decide, by decide⟩ ⟨Nat.zero_le _, Nat.zero_le _⟩ (va_recv hK hP (ci := 7) (q0 := km) rfl hM.1) hK hP hD hS hA hN rfl hl.1 rfl (lv_room (Nat.le_of_ble_eq_true rfl)) dM_term_164) hS (fun ws_20 H locs hwn19 hP hD hS => ?_)
        obtain ⟨hF9, vn19, hM, hvn19, hnn19⟩ := hwn19
        have hF := hF.tr hF9
        obtain ⟨hQ, hkp⟩ := hQ.nxt hkp hcun19 (by rw [hkc]; decide) hvn19 hnn19
        refine lv_aload_n hx hb dM_term_167 rfl (lv_at hl 3 rfl) ?_
        refine lv_bipush (v := 40) hx hb dM_term_168 (by decide) ?_
        refine x_callv (x_runV (n := 1) (As := [.int 40]) (rest := []) ⟨hx, hb, hml, hown, hts⟩ (cM_take l D tys A ws_20 cI hI ad km vn19 F cs (i + 1) S O op ((-1)) hQ 40 (by decide) hM) tw_817 tw_819 ts_M_take tw_8 tw_820 (by decide +kernel) rfl rfl ⟨by decide, by decide⟩ ⟨Nat.zero_le _, Nat.zero_le _⟩ (va_recv hK hP (ci := 7) (q0 := km) rfl hM.1) hK hP hD hS hA hN rfl hl.1 rfl (lv_room (Nat.le_of_ble_eq_true rfl)) dM_term_170) hS (fun ws_22 H locs hwn21 hP hD hS => ?_)
        obtain ⟨hF9, vn21, hM, hQ, hkq⟩ := hwn21
        have hF := hF.tr hF9
        have hkp := hkp.tr hkq
        refine lv_aload_n hx hb dM_term_173 rfl (lv_at hl 3 rfl) ?_
        refine lv_iconst (v := 5) hx hb dM_term_174 (by decide) ?_
        refine lv_iconst (v := 0) hx hb dM_term_175 (by decide) ?_
        refine lv_iload_n hx hb dM_term_176 rfl (lv_at hl 2 rfl) ?_
        refine x_callv (x_runV (n := 3) (As := [.int 5, .int 0, .int (v 9)]) (rest := []) ⟨hx, hb, hml, hown, hts⟩ (cM_wants l D tys A ws_22 cI hI ad km vn21 F S.length hQ.2.2.1.1 (by (try simp only [List.length_cons]); omega) 5 0 ((v 9)) hM) tw_797 tw_799 ts_M_wants tw_8 tw_800 (by decide +kernel) rfl rfl ⟨by decide, by decide⟩ ⟨Nat.zero_le _, Nat.zero_le _⟩ (va_recv hK hP (ci := 7) (q0 := km) rfl hM.1) hK hP hD hS hA hN rfl hl.1 rfl (lv_room (Nat.le_of_ble_eq_true rfl)) dM_term_177) hS (fun ws_24 H locs hwn23 hP hD hS => ?_)
        obtain ⟨hF9, hM⟩ := hwn23
        have hF := hF.tr hF9
        obtain ⟨vn23, Fn23, hM, hQ, hkp⟩ := hQ.want hkp (by (try simp only [List.length_cons]); omega) hM
        refine lv_aload_n hx hb dM_term_180 rfl (lv_at hl 3 rfl) ?_
        refine lv_iconst (v := 1) hx hb dM_term_181 (by decide) ?_
        refine lv_iload_n hx hb dM_term_182 rfl (lv_at hl 4 rfl) ?_
        refine lv_iconst (v := 1) hx hb dM_term_183 (by decide) ?_
        refine lv_iadd hx hb dM_term_184 ?_
        refine lv_iconst (v := 0) hx hb dM_term_185 (by decide) ?_
        refine x_callv (x_runV (n := 3) (As := [.int 1, .int ((nI ee) + 1), .int 0]) (rest := []) ⟨hx, hb, hml, hown, hts⟩ (cM_wants l D tys A ws_24 cI hI ad km vn23 Fn23 (((5, 0, ((v 9))) :: S)).length hQ.2.2.1.1 (by (try simp only [List.length_cons]); omega) 1 (((nI ee) + 1)) 0 hM) tw_797 tw_799 ts_M_wants tw_8 tw_800 (by decide +kernel) rfl rfl ⟨by decide, by decide⟩ ⟨Nat.zero_le _, Nat.zero_le _⟩ (va_recv hK hP (ci := 7) (q0 := km) rfl hM.1) hK hP hD hS hA hN rfl hl.1 rfl (lv_room (Nat.le_of_ble_eq_true rfl)) dM_term_186) hS (fun ws_26 H locs hwn25 hP hD hS => ?_)
        obtain ⟨hF9, hM⟩ := hwn25
        have hF := hF.tr hF9
        obtain ⟨vn25, Fn25, hM, hQ, hkp⟩ := hQ.want hkp (by (try simp only [List.length_cons]); omega) hM
        refine lv_goto (tgt := 292) hx hb dM_term_189 (by decide) ?_
        exact x_vret hx hb hr hlk hK hP hD hS dM_term_292 (by have e9 : mTerm (spT cs 0) (nI ee) i S O op = (if (tk (spT cs 0) (i + 1)).1 = 40 then .inr (i + 2, (1, nI ee + 1, 0) :: (5, 0, (tk (spT cs 0) i).1) :: S, O, op) else .inl (tk (spT cs 0) (i + 1)).2.2) := (by unfold mTerm; rw [if_neg hno]; rw [hkc]; rw [if_neg (by decide), if_neg (by decide), if_pos (by decide)]); exact ⟨hF, _, _, hM, hkp, opn_R e9 (by rw [hk.1] at hQ; exact hQ)⟩)
      · have hkc : (tk (spT cs 0) i).1 = 8 := by rw [← hk.1]; exact h9
        refine lv_lookup (off := 188) (tgt := 230) hx hb dM_term_42 (by decide) (by rw [h9]; decide) (by decide) ?_
        refine lv_aload_n hx hb dM_term_230 rfl (lv_at hl 3 rfl) ?_
        obtain ⟨en27, hcun27, hnxn27⟩ := hQ.2.1
        refine x_callv (x_runV (n := 0) (As := []) (rest := []) ⟨hx, hb, hml, hown, hts⟩ (cM_next l D tys A ws cI hI ad km v F cs hQ.1 (tokA cs en27).2 (Cu_ub hQ.1 hcun27) hnxn27.2.2.1 hM) tw_771 tw_773 ts_M_next tw_8 tw_774 (by decide +kernel) rfl rfl ⟨by decide, by decide⟩ ⟨Nat.zero_le _, Nat.zero_le _⟩ (va_recv hK hP (ci := 7) (q0 := km) rfl hM.1) hK hP hD hS hA hN rfl hl.1 rfl (lv_room (Nat.le_of_ble_eq_true rfl)) dM_term_231) hS (fun ws_28 H locs hwn27 hP hD hS => ?_)
        obtain ⟨hF9, vn27, hM, hvn27, hnn27⟩ := hwn27
        have hF := hF.tr hF9
        obtain ⟨hQ, hkp⟩ := hQ.nxt hkp hcun27 (by rw [hkc]; decide) hvn27 hnn27
        refine lv_aload_n hx hb dM_term_234 rfl (lv_at hl 3 rfl) ?_
        refine lv_bipush (v := 40) hx hb dM_term_235 (by decide) ?_
        refine x_callv (x_runV (n := 1) (As := [.int 40]) (rest := []) ⟨hx, hb, hml, hown, hts⟩ (cM_take l D tys A ws_28 cI hI ad km vn27 F cs (i + 1) S O op ((-1)) hQ 40 (by decide) hM) tw_817 tw_819 ts_M_take tw_8 tw_820 (by decide +kernel) rfl rfl ⟨by decide, by decide⟩ ⟨Nat.zero_le _, Nat.zero_le _⟩ (va_recv hK hP (ci := 7) (q0 := km) rfl hM.1) hK hP hD hS hA hN rfl hl.1 rfl (lv_room (Nat.le_of_ble_eq_true rfl)) dM_term_237) hS (fun ws_30 H locs hwn29 hP hD hS => ?_)
        obtain ⟨hF9, vn29, hM, hQ, hkq⟩ := hwn29
        have hF := hF.tr hF9
        have hkp := hkp.tr hkq
        refine lv_aload_n hx hb dM_term_240 rfl (lv_at hl 3 rfl) ?_
        refine lv_bipush (v := 6) hx hb dM_term_241 (by decide) ?_
        refine lv_iconst (v := 0) hx hb dM_term_243 (by decide) ?_
        refine lv_bipush (v := 8) hx hb dM_term_244 (by decide) ?_
        refine x_callv (x_runV (n := 3) (As := [.int 6, .int 0, .int 8]) (rest := []) ⟨hx, hb, hml, hown, hts⟩ (cM_wants l D tys A ws_30 cI hI ad km vn29 F S.length hQ.2.2.1.1 (by (try simp only [List.length_cons]); omega) 6 0 8 hM) tw_797 tw_799 ts_M_wants tw_8 tw_800 (by decide +kernel) rfl rfl ⟨by decide, by decide⟩ ⟨Nat.zero_le _, Nat.zero_le _⟩ (va_recv hK hP (ci := 7) (q0 := km) rfl hM.1) hK hP hD hS hA hN rfl hl.1 rfl (lv_room (Nat.le_of_ble_eq_true rfl)) dM_term_246) hS (fun ws_32 H locs hwn31 hP hD hS => ?_)
        obtain ⟨hF9, hM⟩ := hwn31
        have hF := hF.tr hF9
        obtain ⟨vn31, Fn31, hM, hQ, hkp⟩ := hQ.want hkp (by (try simp only [List.length_cons]); omega) hM
        refine lv_aload_n hx hb dM_term_249 rfl (lv_at hl 3 rfl) ?_
        refine lv_iconst (v := 4) hx hb dM_term_250 (by decide) ?_
        refine lv_iconst (v := 0) hx hb dM_term_251 (by decide) ?_
        refine lv_bipush (v := 41) hx hb dM_term_252 (by decide) ?_
        refine x_callv (x_runV (n := 3) (As := [.int 4, .int 0, .int 41]) (rest := []) ⟨hx, hb, hml, hown, hts⟩ (cM_wants l D tys A ws_32 cI hI ad km vn31 Fn31 (((6, 0, 8) :: S)).length hQ.2.2.1.1 (by (try simp only [List.length_cons]); omega) 4 0 41 hM) tw_797 tw_799 ts_M_wants tw_8 tw_800 (by decide +kernel) rfl rfl ⟨by decide, by decide⟩ ⟨Nat.zero_le _, Nat.zero_le _⟩ (va_recv hK hP (ci := 7) (q0 := km) rfl hM.1) hK hP hD hS hA hN rfl hl.1 rfl (lv_room (Nat.le_of_ble_eq_true rfl)) dM_term_254) hS (fun ws_34 H locs hwn33 hP hD hS => ?_)
        obtain ⟨hF9, hM⟩ := hwn33
        have hF := hF.tr hF9
        obtain ⟨vn33, Fn33, hM, hQ, hkp⟩ := hQ.want hkp (by (try simp only [List.length_cons]); omega) hM
        refine lv_aload_n hx hb dM_term_257 rfl (lv_at hl 3 rfl) ?_
        refine lv_iconst (v := 1) hx hb dM_term_258 (by decide) ?_
        refine lv_iload_n hx hb dM_term_259 rfl (lv_at hl 4 rfl) ?_
        refine lv_iconst (v := 1) hx hb dM_term_260 (by decide) ?_
        refine lv_iadd hx hb dM_term_261 ?_
        refine lv_iconst (v := 0) hx hb dM_term_262 (by decide) ?_
        refine x_callv (x_runV (n := 3) (As := [.int 1, .int ((nI ee) + 1), .int 0]) (rest := []) ⟨hx, hb, hml, hown, hts⟩ (cM_wants l D tys A ws_34 cI hI ad km vn33 Fn33 (((4, 0, 41) :: ((6, 0, 8) :: S))).length hQ.2.2.1.1 (by (try simp only [List.length_cons]); omega) 1 (((nI ee) + 1)) 0 hM) tw_797 tw_799 ts_M_wants tw_8 tw_800 (by decide +kernel) rfl rfl ⟨by decide, by decide⟩ ⟨Nat.zero_le _, Nat.zero_le _⟩ (va_recv hK hP (ci := 7) (q0 := km) rfl hM.1) hK hP hD hS hA hN rfl hl.1 rfl (lv_room (Nat.le_of_ble_eq_true rfl)) dM_term_263) hS (fun ws_36 H locs hwn35 hP hD hS => ?_)
        obtain ⟨hF9, hM⟩ := hwn35
        have hF := hF.tr hF9
        obtain ⟨vn35, Fn35, hM, hQ, hkp⟩ := hQ.want hkp (by (try simp only [List.length_cons]); omega) hM
        refine lv_aload_n hx hb dM_term_266 rfl (lv_at hl 3 rfl) ?_
        refine lv_iconst (v := 4) hx hb dM_term_267 (by decide) ?_
        refine lv_iconst (v := 0) hx hb dM_term_268 (by decide) ?_
        refine lv_bipush (v := 44) hx hb dM_term_269 (by decide) ?_
        refine x_callv (x_runV (n := 3) (As := [.int 4, .int 0, .int 44]) (rest := []) ⟨hx, hb, hml, hown, hts⟩ (cM_wants l D tys A ws_36 cI hI ad km vn35 Fn35 (((1, (((nI ee) + 1)), 0) :: ((4, 0, 41) :: ((6, 0, 8) :: S)))).length hQ.2.2.1.1 (by (try simp only [List.length_cons]); omega) 4 0 44 hM) tw_797 tw_799 ts_M_wants tw_8 tw_800 (by decide +kernel) rfl rfl ⟨by decide, by decide⟩ ⟨Nat.zero_le _, Nat.zero_le _⟩ (va_recv hK hP (ci := 7) (q0 := km) rfl hM.1) hK hP hD hS hA hN rfl hl.1 rfl (lv_room (Nat.le_of_ble_eq_true rfl)) dM_term_271) hS (fun ws_38 H locs hwn37 hP hD hS => ?_)
        obtain ⟨hF9, hM⟩ := hwn37
        have hF := hF.tr hF9
        obtain ⟨vn37, Fn37, hM, hQ, hkp⟩ := hQ.want hkp (by (try simp only [List.length_cons]); omega) hM
        refine lv_aload_n hx hb dM_term_274 rfl (lv_at hl 3 rfl) ?_
        refine lv_iconst (v := 1) hx hb dM_term_275 (by decide) ?_
        refine lv_iload_n hx hb dM_term_276 rfl (lv_at hl 4 rfl) ?_
        refine lv_iconst (v := 1) hx hb dM_term_277 (by decide) ?_
        refine lv_iadd hx hb dM_term_278 ?_
        refine lv_iconst (v := 0) hx hb dM_term_279 (by decide) ?_
        refine x_callv (x_runV (n := 3) (As := [.int 1, .int ((nI ee) + 1), .int 0]) (rest := []) ⟨hx, hb, hml, hown, hts⟩ (cM_wants l D tys A ws_38 cI hI ad km vn37 Fn37 (((4, 0, 44) :: ((1, (((nI ee) + 1)), 0) :: ((4, 0, 41) :: ((6, 0, 8) :: S))))).length hQ.2.2.1.1 (by (try simp only [List.length_cons]); omega) 1 (((nI ee) + 1)) 0 hM) tw_797 tw_799 ts_M_wants tw_8 tw_800 (by decide +kernel) rfl rfl ⟨by decide, by decide⟩ ⟨Nat.zero_le _, Nat.zero_le _⟩ (va_recv hK hP (ci := 7) (q0 := km) rfl hM.1) hK hP hD hS hA hN rfl hl.1 rfl (lv_room (Nat.le_of_ble_eq_true rfl)) dM_term_280) hS (fun ws_40 H locs hwn39 hP hD hS => ?_)
        obtain ⟨hF9, hM⟩ := hwn39
        have hF := hF.tr hF9
        obtain ⟨vn39, Fn39, hM, hQ, hkp⟩ := hQ.want hkp (by (try simp only [List.length_cons]); omega) hM
        refine lv_goto (tgt := 292) hx hb dM_term_283 (by decide) ?_
        exact x_vret hx hb hr hlk hK hP hD hS dM_term_292 (by have e9 : mTerm (spT cs 0) (nI ee) i S O op = (if (tk (spT cs 0) (i + 1)).1 = 40 then .inr (i + 2, (1, nI ee + 1, 0) :: (4, 0, 44) :: (1, nI ee + 1, 0) :: (4, 0, 41) :: (6, 0, 8) :: S, O, op) else .inl (tk (spT cs 0) (i + 1)).2.2) := (by unfold mTerm; rw [if_neg hno]; rw [hkc]; rw [if_neg (by decide), if_neg (by decide), if_neg (by decide), if_neg (by decide), if_pos rfl]); exact ⟨hF, _, _, hM, hkp, opn_R e9 (by exact hQ)⟩)
      · have hkc : (tk (spT cs 0) i).1 = 10 := by rw [← hk.1]; exact h9
        refine lv_lookup (off := 150) (tgt := 192) hx hb dM_term_42 (by decide) (by rw [h9]; decide) (by decide) ?_
        refine lv_aload_n hx hb dM_term_192 rfl (lv_at hl 3 rfl) ?_
        obtain ⟨en41, hcun41, hnxn41⟩ := hQ.2.1
        refine x_callv (x_runV (n := 0) (As := []) (rest := []) ⟨hx, hb, hml, hown, hts⟩ (cM_next l D tys A ws cI hI ad km v F cs hQ.1 (tokA cs en41).2 (Cu_ub hQ.1 hcun41) hnxn41.2.2.1 hM) tw_771 tw_773 ts_M_next tw_8 tw_774 (by decide +kernel) rfl rfl ⟨by decide, by decide⟩ ⟨Nat.zero_le _, Nat.zero_le _⟩ (va_recv hK hP (ci := 7) (q0 := km) rfl hM.1) hK hP hD hS hA hN rfl hl.1 rfl (lv_room (Nat.le_of_ble_eq_true rfl)) dM_term_193) hS (fun ws_42 H locs hwn41 hP hD hS => ?_)
        obtain ⟨hF9, vn41, hM, hvn41, hnn41⟩ := hwn41
        have hF := hF.tr hF9
        obtain ⟨hQ, hkp⟩ := hQ.nxt hkp hcun41 (by rw [hkc]; decide) hvn41 hnn41
        refine lv_aload_n hx hb dM_term_196 rfl (lv_at hl 3 rfl) ?_
        refine lv_bipush (v := 40) hx hb dM_term_197 (by decide) ?_
        refine x_callv (x_runV (n := 1) (As := [.int 40]) (rest := []) ⟨hx, hb, hml, hown, hts⟩ (cM_take l D tys A ws_42 cI hI ad km vn41 F cs (i + 1) S O op ((-1)) hQ 40 (by decide) hM) tw_817 tw_819 ts_M_take tw_8 tw_820 (by decide +kernel) rfl rfl ⟨by decide, by decide⟩ ⟨Nat.zero_le _, Nat.zero_le _⟩ (va_recv hK hP (ci := 7) (q0 := km) rfl hM.1) hK hP hD hS hA hN rfl hl.1 rfl (lv_room (Nat.le_of_ble_eq_true rfl)) dM_term_199) hS (fun ws_44 H locs hwn43 hP hD hS => ?_)
        obtain ⟨hF9, vn43, hM, hQ, hkq⟩ := hwn43
        have hF := hF.tr hF9
        have hkp := hkp.tr hkq
        refine lv_aload_n hx hb dM_term_202 rfl (lv_at hl 3 rfl) ?_
        refine lv_bipush (v := 6) hx hb dM_term_203 (by decide) ?_
        refine lv_iconst (v := 0) hx hb dM_term_205 (by decide) ?_
        refine lv_iload_n hx hb dM_term_206 rfl (lv_at hl 2 rfl) ?_
        refine x_callv (x_runV (n := 3) (As := [.int 6, .int 0, .int (v 9)]) (rest := []) ⟨hx, hb, hml, hown, hts⟩ (cM_wants l D tys A ws_44 cI hI ad km vn43 F S.length hQ.2.2.1.1 (by (try simp only [List.length_cons]); omega) 6 0 ((v 9)) hM) tw_797 tw_799 ts_M_wants tw_8 tw_800 (by decide +kernel) rfl rfl ⟨by decide, by decide⟩ ⟨Nat.zero_le _, Nat.zero_le _⟩ (va_recv hK hP (ci := 7) (q0 := km) rfl hM.1) hK hP hD hS hA hN rfl hl.1 rfl (lv_room (Nat.le_of_ble_eq_true rfl)) dM_term_207) hS (fun ws_46 H locs hwn45 hP hD hS => ?_)
        obtain ⟨hF9, hM⟩ := hwn45
        have hF := hF.tr hF9
        obtain ⟨vn45, Fn45, hM, hQ, hkp⟩ := hQ.want hkp (by (try simp only [List.length_cons]); omega) hM
        refine lv_aload_n hx hb dM_term_210 rfl (lv_at hl 3 rfl) ?_
        refine lv_iconst (v := 4) hx hb dM_term_211 (by decide) ?_
        refine lv_iconst (v := 0) hx hb dM_term_212 (by decide) ?_
        refine lv_bipush (v := 41) hx hb dM_term_213 (by decide) ?_
        refine x_callv (x_runV (n := 3) (As := [.int 4, .int 0, .int 41]) (rest := []) ⟨hx, hb, hml, hown, hts⟩ (cM_wants l D tys A ws_46 cI hI ad km vn45 Fn45 (((6, 0, ((v 9))) :: S)).length hQ.2.2.1.1 (by (try simp only [List.length_cons]); omega) 4 0 41 hM) tw_797 tw_799 ts_M_wants tw_8 tw_800 (by decide +kernel) rfl rfl ⟨by decide, by decide⟩ ⟨Nat.zero_le _, Nat.zero_le _⟩ (va_recv hK hP (ci := 7) (q0 := km) rfl hM.1) hK hP hD hS hA hN rfl hl.1 rfl (lv_room (Nat.le_of_ble_eq_true rfl)) dM_term_215) hS (fun ws_48 H locs hwn47 hP hD hS => ?_)
        obtain ⟨hF9, hM⟩ := hwn47
        have hF := hF.tr hF9
        obtain ⟨vn47, Fn47, hM, hQ, hkp⟩ := hQ.want hkp (by (try simp only [List.length_cons]); omega) hM
        refine lv_aload_n hx hb dM_term_218 rfl (lv_at hl 3 rfl) ?_
        refine lv_iconst (v := 1) hx hb dM_term_219 (by decide) ?_
        refine lv_iload_n hx hb dM_term_220 rfl (lv_at hl 4 rfl) ?_
        refine lv_iconst (v := 1) hx hb dM_term_221 (by decide) ?_
        refine lv_iadd hx hb dM_term_222 ?_
        refine lv_iconst (v := 0) hx hb dM_term_223 (by decide) ?_
        refine x_callv (x_runV (n := 3) (As := [.int 1, .int ((nI ee) + 1), .int 0]) (rest := []) ⟨hx, hb, hml, hown, hts⟩ (cM_wants l D tys A ws_48 cI hI ad km vn47 Fn47 (((4, 0, 41) :: ((6, 0, ((v 9))) :: S))).length hQ.2.2.1.1 (by (try simp only [List.length_cons]); omega) 1 (((nI ee) + 1)) 0 hM) tw_797 tw_799 ts_M_wants tw_8 tw_800 (by decide +kernel) rfl rfl ⟨by decide, by decide⟩ ⟨Nat.zero_le _, Nat.zero_le _⟩ (va_recv hK hP (ci := 7) (q0 := km) rfl hM.1) hK hP hD hS hA hN rfl hl.1 rfl (lv_room (Nat.le_of_ble_eq_true rfl)) dM_term_224) hS (fun ws_50 H locs hwn49 hP hD hS => ?_)
        obtain ⟨hF9, hM⟩ := hwn49
        have hF := hF.tr hF9
        obtain ⟨vn49, Fn49, hM, hQ, hkp⟩ := hQ.want hkp (by (try simp only [List.length_cons]); omega) hM
        refine lv_goto (tgt := 292) hx hb dM_term_227 (by decide) ?_
        exact x_vret hx hb hr hlk hK hP hD hS dM_term_292 (by have e9 : mTerm (spT cs 0) (nI ee) i S O op = (if (tk (spT cs 0) (i + 1)).1 = 40 then .inr (i + 2, (1, nI ee + 1, 0) :: (4, 0, 41) :: (6, 0, (tk (spT cs 0) i).1) :: S, O, op) else .inl (tk (spT cs 0) (i + 1)).2.2) := (by unfold mTerm; rw [if_neg hno]; rw [hkc]; rw [if_neg (by decide), if_neg (by decide), if_neg (by decide), if_pos (by decide)]); exact ⟨hF, _, _, hM, hkp, opn_R e9 (by rw [hk.1] at hQ; exact hQ)⟩)
      · have hkc : (tk (spT cs 0) i).1 = 11 := by rw [← hk.1]; exact h9
        refine lv_lookup (off := 150) (tgt := 192) hx hb dM_term_42 (by decide) (by rw [h9]; decide) (by decide) ?_
        refine lv_aload_n hx hb dM_term_192 rfl (lv_at hl 3 rfl) ?_
        obtain ⟨en51, hcun51, hnxn51⟩ := hQ.2.1
        refine x_callv (x_runV (n := 0) (As := []) (rest := []) ⟨hx, hb, hml, hown, hts⟩ (cM_next l D tys A ws cI hI ad km v F cs hQ.1 (tokA cs en51).2 (Cu_ub hQ.1 hcun51) hnxn51.2.2.1 hM) tw_771 tw_773 ts_M_next tw_8 tw_774 (by decide +kernel) rfl rfl ⟨by decide, by decide⟩ ⟨Nat.zero_le _, Nat.zero_le _⟩ (va_recv hK hP (ci := 7) (q0 := km) rfl hM.1) hK hP hD hS hA hN rfl hl.1 rfl (lv_room (Nat.le_of_ble_eq_true rfl)) dM_term_193) hS (fun ws_52 H locs hwn51 hP hD hS => ?_)
        obtain ⟨hF9, vn51, hM, hvn51, hnn51⟩ := hwn51
        have hF := hF.tr hF9
        obtain ⟨hQ, hkp⟩ := hQ.nxt hkp hcun51 (by rw [hkc]; decide) hvn51 hnn51
        refine lv_aload_n hx hb dM_term_196 rfl (lv_at hl 3 rfl) ?_
        refine lv_bipush (v := 40) hx hb dM_term_197 (by decide) ?_
        refine x_callv (x_runV (n := 1) (As := [.int 40]) (rest := []) ⟨hx, hb, hml, hown, hts⟩ (cM_take l D tys A ws_52 cI hI ad km vn51 F cs (i + 1) S O op ((-1)) hQ 40 (by decide) hM) tw_817 tw_819 ts_M_take tw_8 tw_820 (by decide +kernel) rfl rfl ⟨by decide, by decide⟩ ⟨Nat.zero_le _, Nat.zero_le _⟩ (va_recv hK hP (ci := 7) (q0 := km) rfl hM.1) hK hP hD hS hA hN rfl hl.1 rfl (lv_room (Nat.le_of_ble_eq_true rfl)) dM_term_199) hS (fun ws_54 H locs hwn53 hP hD hS => ?_)
        obtain ⟨hF9, vn53, hM, hQ, hkq⟩ := hwn53
        have hF := hF.tr hF9
        have hkp := hkp.tr hkq
        refine lv_aload_n hx hb dM_term_202 rfl (lv_at hl 3 rfl) ?_
        refine lv_bipush (v := 6) hx hb dM_term_203 (by decide) ?_
        refine lv_iconst (v := 0) hx hb dM_term_205 (by decide) ?_
        refine lv_iload_n hx hb dM_term_206 rfl (lv_at hl 2 rfl) ?_
        refine x_callv (x_runV (n := 3) (As := [.int 6, .int 0, .int (v 9)]) (rest := []) ⟨hx, hb, hml, hown, hts⟩ (cM_wants l D tys A ws_54 cI hI ad km vn53 F S.length hQ.2.2.1.1 (by (try simp only [List.length_cons]); omega) 6 0 ((v 9)) hM) tw_797 tw_799 ts_M_wants tw_8 tw_800 (by decide +kernel) rfl rfl ⟨by decide, by decide⟩ ⟨Nat.zero_le _, Nat.zero_le _⟩ (va_recv hK hP (ci := 7) (q0 := km) rfl hM.1) hK hP hD hS hA hN rfl hl.1 rfl (lv_room (Nat.le_of_ble_eq_true rfl)) dM_term_207) hS (fun ws_56 H locs hwn55 hP hD hS => ?_)
        obtain ⟨hF9, hM⟩ := hwn55
        have hF := hF.tr hF9
        obtain ⟨vn55, Fn55, hM, hQ, hkp⟩ := hQ.want hkp (by (try simp only [List.length_cons]); omega) hM
        refine lv_aload_n hx hb dM_term_210 rfl (lv_at hl 3 rfl) ?_
        refine lv_iconst (v := 4) hx hb dM_term_211 (by decide) ?_
        refine lv_iconst (v := 0) hx hb dM_term_212 (by decide) ?_
        refine lv_bipush (v := 41) hx hb dM_term_213 (by decide) ?_
        refine x_callv (x_runV (n := 3) (As := [.int 4, .int 0, .int 41]) (rest := []) ⟨hx, hb, hml, hown, hts⟩ (cM_wants l D tys A ws_56 cI hI ad km vn55 Fn55 (((6, 0, ((v 9))) :: S)).length hQ.2.2.1.1 (by (try simp only [List.length_cons]); omega) 4 0 41 hM) tw_797 tw_799 ts_M_wants tw_8 tw_800 (by decide +kernel) rfl rfl ⟨by decide, by decide⟩ ⟨Nat.zero_le _, Nat.zero_le _⟩ (va_recv hK hP (ci := 7) (q0 := km) rfl hM.1) hK hP hD hS hA hN rfl hl.1 rfl (lv_room (Nat.le_of_ble_eq_true rfl)) dM_term_215) hS (fun ws_58 H locs hwn57 hP hD hS => ?_)
        obtain ⟨hF9, hM⟩ := hwn57
        have hF := hF.tr hF9
        obtain ⟨vn57, Fn57, hM, hQ, hkp⟩ := hQ.want hkp (by (try simp only [List.length_cons]); omega) hM
        refine lv_aload_n hx hb dM_term_218 rfl (lv_at hl 3 rfl) ?_
        refine lv_iconst (v := 1) hx hb dM_term_219 (by decide) ?_
        refine lv_iload_n hx hb dM_term_220 rfl (lv_at hl 4 rfl) ?_
        refine lv_iconst (v := 1) hx hb dM_term_221 (by decide) ?_
        refine lv_iadd hx hb dM_term_222 ?_
        refine lv_iconst (v := 0) hx hb dM_term_223 (by decide) ?_
        refine x_callv (x_runV (n := 3) (As := [.int 1, .int ((nI ee) + 1), .int 0]) (rest := []) ⟨hx, hb, hml, hown, hts⟩ (cM_wants l D tys A ws_58 cI hI ad km vn57 Fn57 (((4, 0, 41) :: ((6, 0, ((v 9))) :: S))).length hQ.2.2.1.1 (by (try simp only [List.length_cons]); omega) 1 (((nI ee) + 1)) 0 hM) tw_797 tw_799 ts_M_wants tw_8 tw_800 (by decide +kernel) rfl rfl ⟨by decide, by decide⟩ ⟨Nat.zero_le _, Nat.zero_le _⟩ (va_recv hK hP (ci := 7) (q0 := km) rfl hM.1) hK hP hD hS hA hN rfl hl.1 rfl (lv_room (Nat.le_of_ble_eq_true rfl)) dM_term_224) hS (fun ws_60 H locs hwn59 hP hD hS => ?_)
        obtain ⟨hF9, hM⟩ := hwn59
        have hF := hF.tr hF9
        obtain ⟨vn59, Fn59, hM, hQ, hkp⟩ := hQ.want hkp (by (try simp only [List.length_cons]); omega) hM
        refine lv_goto (tgt := 292) hx hb dM_term_227 (by decide) ?_
        exact x_vret hx hb hr hlk hK hP hD hS dM_term_292 (by have e9 : mTerm (spT cs 0) (nI ee) i S O op = (if (tk (spT cs 0) (i + 1)).1 = 40 then .inr (i + 2, (1, nI ee + 1, 0) :: (4, 0, 41) :: (6, 0, (tk (spT cs 0) i).1) :: S, O, op) else .inl (tk (spT cs 0) (i + 1)).2.2) := (by unfold mTerm; rw [if_neg hno]; rw [hkc]; rw [if_neg (by decide), if_neg (by decide), if_neg (by decide), if_pos (by decide)]); exact ⟨hF, _, _, hM, hkp, opn_R e9 (by rw [hk.1] at hQ; exact hQ)⟩)
      · have hkc : (tk (spT cs 0) i).1 = 40 := by rw [← hk.1]; exact h9
        refine lv_lookup (off := 97) (tgt := 139) hx hb dM_term_42 (by decide) (by rw [h9]; decide) (by decide) ?_
        refine lv_aload_n hx hb dM_term_139 rfl (lv_at hl 3 rfl) ?_
        obtain ⟨en61, hcun61, hnxn61⟩ := hQ.2.1
        refine x_callv (x_runV (n := 0) (As := []) (rest := []) ⟨hx, hb, hml, hown, hts⟩ (cM_next l D tys A ws cI hI ad km v F cs hQ.1 (tokA cs en61).2 (Cu_ub hQ.1 hcun61) hnxn61.2.2.1 hM) tw_771 tw_773 ts_M_next tw_8 tw_774 (by decide +kernel) rfl rfl ⟨by decide, by decide⟩ ⟨Nat.zero_le _, Nat.zero_le _⟩ (va_recv hK hP (ci := 7) (q0 := km) rfl hM.1) hK hP hD hS hA hN rfl hl.1 rfl (lv_room (Nat.le_of_ble_eq_true rfl)) dM_term_140) hS (fun ws_62 H locs hwn61 hP hD hS => ?_)
        obtain ⟨hF9, vn61, hM, hvn61, hnn61⟩ := hwn61
        have hF := hF.tr hF9
        obtain ⟨hQ, hkp⟩ := hQ.nxt hkp hcun61 (by rw [hkc]; decide) hvn61 hnn61
        refine lv_aload_n hx hb dM_term_143 rfl (lv_at hl 3 rfl) ?_
        refine lv_iconst (v := 4) hx hb dM_term_144 (by decide) ?_
        refine lv_iconst (v := 0) hx hb dM_term_145 (by decide) ?_
        refine lv_bipush (v := 41) hx hb dM_term_146 (by decide) ?_
        refine x_callv (x_runV (n := 3) (As := [.int 4, .int 0, .int 41]) (rest := []) ⟨hx, hb, hml, hown, hts⟩ (cM_wants l D tys A ws_62 cI hI ad km vn61 F S.length hQ.2.2.1.1 (by (try simp only [List.length_cons]); omega) 4 0 41 hM) tw_797 tw_799 ts_M_wants tw_8 tw_800 (by decide +kernel) rfl rfl ⟨by decide, by decide⟩ ⟨Nat.zero_le _, Nat.zero_le _⟩ (va_recv hK hP (ci := 7) (q0 := km) rfl hM.1) hK hP hD hS hA hN rfl hl.1 rfl (lv_room (Nat.le_of_ble_eq_true rfl)) dM_term_148) hS (fun ws_64 H locs hwn63 hP hD hS => ?_)
        obtain ⟨hF9, hM⟩ := hwn63
        have hF := hF.tr hF9
        obtain ⟨vn63, Fn63, hM, hQ, hkp⟩ := hQ.want hkp (by (try simp only [List.length_cons]); omega) hM
        refine lv_aload_n hx hb dM_term_151 rfl (lv_at hl 3 rfl) ?_
        refine lv_iconst (v := 1) hx hb dM_term_152 (by decide) ?_
        refine lv_iload_n hx hb dM_term_153 rfl (lv_at hl 4 rfl) ?_
        refine lv_iconst (v := 1) hx hb dM_term_154 (by decide) ?_
        refine lv_iadd hx hb dM_term_155 ?_
        refine lv_iconst (v := 0) hx hb dM_term_156 (by decide) ?_
        refine x_callv (x_runV (n := 3) (As := [.int 1, .int ((nI ee) + 1), .int 0]) (rest := []) ⟨hx, hb, hml, hown, hts⟩ (cM_wants l D tys A ws_64 cI hI ad km vn63 Fn63 (((4, 0, 41) :: S)).length hQ.2.2.1.1 (by (try simp only [List.length_cons]); omega) 1 (((nI ee) + 1)) 0 hM) tw_797 tw_799 ts_M_wants tw_8 tw_800 (by decide +kernel) rfl rfl ⟨by decide, by decide⟩ ⟨Nat.zero_le _, Nat.zero_le _⟩ (va_recv hK hP (ci := 7) (q0 := km) rfl hM.1) hK hP hD hS hA hN rfl hl.1 rfl (lv_room (Nat.le_of_ble_eq_true rfl)) dM_term_157) hS (fun ws_66 H locs hwn65 hP hD hS => ?_)
        obtain ⟨hF9, hM⟩ := hwn65
        have hF := hF.tr hF9
        obtain ⟨vn65, Fn65, hM, hQ, hkp⟩ := hQ.want hkp (by (try simp only [List.length_cons]); omega) hM
        refine lv_goto (tgt := 292) hx hb dM_term_160 (by decide) ?_
        exact x_vret hx hb hr hlk hK hP hD hS dM_term_292 (by have e9 : mTerm (spT cs 0) (nI ee) i S O op = .inr (i + 1, (1, nI ee + 1, 0) :: (4, 0, 41) :: S, O, op) := (by unfold mTerm; rw [if_neg hno, hkc, if_neg (by decide), if_pos rfl]); exact ⟨hF, _, _, hM, hkp, MPr.r e9 hQ⟩)
      · refine lv_lookup (off := 244) (tgt := 286) hx hb dM_term_42 (by decide) (lk_mt hoth) (by decide) ?_
        refine lv_aload_n hx hb dM_term_286 rfl (lv_at hl 3 rfl) ?_
        refine lv_iload_n hx hb dM_term_287 rfl (lv_at hl 2 rfl) ?_
        refine lv_iload_n hx hb dM_term_288 rfl (lv_at hl 4 rfl) ?_
        refine x_callv (x_runV (n := 2) (As := [.int (v 9), .int (nI ee)]) (rest := []) ⟨hx, hb, hml, hown, hts⟩ (cM_others l D tys A ws cI hI ad km v F cs i S O op hQ (v 9) (nI ee) hk.1 hSl hM) tw_821 tw_823 ts_M_others tw_8 tw_824 (by decide +kernel) rfl rfl ⟨by decide, by decide⟩ ⟨Nat.zero_le _, Nat.zero_le _⟩ (va_recv hK hP (ci := 7) (q0 := km) rfl hM.1) hK hP hD hS hA hN rfl hl.1 rfl (lv_room (Nat.le_of_ble_eq_true rfl)) dM_term_289) hS (fun ws_67 H locs hot hP hD hS => ?_)
        obtain ⟨hF9, v8, F8, hM, hkq, hRo⟩ := hot
        have hF := hF.tr hF9
        have hkp := hkp.tr hkq
        exact x_vret hx hb hr hlk hK hP hD hS dM_term_292 ⟨hF, _, _, hM, hkp, by rw [mTerm_o hno ⟨fun z9 => hoth.1 (hk.1.trans z9), fun z9 => hoth.2.1 (hk.1.trans z9), fun z9 => hoth.2.2.1 (hk.1.trans z9), fun z9 => hoth.2.2.2.1 (hk.1.trans z9), fun z9 => hoth.2.2.2.2.1 (hk.1.trans z9), fun z9 => hoth.2.2.2.2.2.1 (hk.1.trans z9), fun z9 => hoth.2.2.2.2.2.2.1 (hk.1.trans z9), fun z9 => hoth.2.2.2.2.2.2.2.1 (hk.1.trans z9), fun z9 => hoth.2.2.2.2.2.2.2.2 (hk.1.trans z9)⟩]; exact hRo⟩
    · have h3 : (tk (spT cs 0) i).1 = 3 := by rw [← hk.1]; exact c24
      obtain ⟨cl, hcl, ecl⟩ := ((TW_T hQ.1.2.1).2 i).2.1 h3
      have e12 : v 12 = nI cl := by rw [hk.2.2.1 (Or.inr (Or.inl h3))]; exact ecl
      refine lv_aload_n hx hb dM_term_27 rfl (lv_at hl 3 rfl) ?_
      refine va_get (D := D) (cl := xCl) (ci := 7) (v := .ref (ad (km + 10))) (C := rnM) (T := tbM) (N := 39) hx hb hts inM hown hK hP km hM.1 rfl 17 (by decide) (hts _ tw_634) (fun _ h9 => h9) rfl dM_term_28 ?_
      refine lv_iload_n hx hb dM_term_31 rfl (lv_at hl 1 rfl) ?_
      refine va_iald hx hb hK hP (km + 10) 0 (hM.a 10 26 rfl (by omega) (by omega)) hI (by rw [e12]; exact vp_in_nI (by omega) (by omega)) dM_term_32 ?_
      refine lv_topi (fun v_68 ev_68 => ?_)
      have hop9 : v_68 = F 10 cl := by rw [ev_68, e12, nI_clamp (by omega)]
      refine lv_if_ne (tgt := 41) hx hb dM_term_33 (by decide) (fun c33 => ?_) (fun c33 => ?_)
      · refine lv_iload_n hx hb dM_term_41 rfl (lv_at hl 2 rfl) ?_
        have h9 : v 9 = 3 := c24
        have hno : ¬ (nI ee = 12 ∨ ((tk (spT cs 0) i).1 = 3 ∧ op (tk (spT cs 0) i).2.1.toNatClampNeg = 0)) := by rintro (z9 | ⟨-, z9⟩); exact c19 z9; rw [ecl, nI_clamp (by omega), ← hQ.2.2.2.2.1 cl hcl] at z9; exact c33 (by rw [hop9]; exact z9)
        have hkc : (tk (spT cs 0) i).1 = 3 := by rw [← hk.1]; exact h9
        refine lv_lookup (off := 82) (tgt := 124) hx hb dM_term_42 (by decide) (by rw [h9]; decide) (by decide) ?_
        refine lv_aload_n hx hb dM_term_124 rfl (lv_at hl 3 rfl) ?_
        refine lv_iload_n hx hb dM_term_125 rfl (lv_at hl 2 rfl) ?_
        refine lv_iload_n hx hb dM_term_126 rfl (lv_at hl 1 rfl) ?_
        refine lv_iload hx hb dM_term_127 (lv_at hl 0 rfl) ?_
        refine x_callv (x_runV (n := 3) (As := [.int (v 9), .int (v 12), .int (v 10)]) (rest := []) ⟨hx, hb, hml, hown, hts⟩ (cM_write l D tys A ws cI hI ad km v F O.length hQ.2.2.2.1.1 (by omega) ((v 9)) ((v 12)) ((v 10)) hM) tw_813 tw_815 ts_M_write tw_8 tw_816 (by decide +kernel) rfl rfl ⟨by decide, by decide⟩ ⟨Nat.zero_le _, Nat.zero_le _⟩ (va_recv hK hP (ci := 7) (q0 := km) rfl hM.1) hK hP hD hS hA hN rfl hl.1 rfl (lv_room (Nat.le_of_ble_eq_true rfl)) dM_term_129) hS (fun ws_70 H locs hwn69 hP hD hS => ?_)
        obtain ⟨hF9, hM⟩ := hwn69
        have hF := hF.tr hF9
        obtain ⟨vn69, Fn69, hM, hQ, hkp⟩ := MP.writ (tk (spT cs 0) i) hk.1 (fun _ => hk.2.2.1 (Or.inr (Or.inl hkc))) hk.2.1 hQ hkp (by omega) hM
        refine lv_aload_n hx hb dM_term_132 rfl (lv_at hl 3 rfl) ?_
        obtain ⟨en71, hcun71, hnxn71⟩ := hQ.2.1
        refine x_callv (x_runV (n := 0) (As := []) (rest := []) ⟨hx, hb, hml, hown, hts⟩ (cM_next l D tys A ws_70 cI hI ad km vn69 Fn69 cs hQ.1 (tokA cs en71).2 (Cu_ub hQ.1 hcun71) hnxn71.2.2.1 hM) tw_771 tw_773 ts_M_next tw_8 tw_774 (by decide +kernel) rfl rfl ⟨by decide, by decide⟩ ⟨Nat.zero_le _, Nat.zero_le _⟩ (va_recv hK hP (ci := 7) (q0 := km) rfl hM.1) hK hP hD hS hA hN rfl hl.1 rfl (lv_room (Nat.le_of_ble_eq_true rfl)) dM_term_133) hS (fun ws_72 H locs hwn71 hP hD hS => ?_)
        obtain ⟨hF9, vn71, hM, hvn71, hnn71⟩ := hwn71
        have hF := hF.tr hF9
        obtain ⟨hQ, hkp⟩ := hQ.nxt hkp hcun71 (by rw [hkc]; decide) hvn71 hnn71
        refine lv_goto (tgt := 292) hx hb dM_term_136 (by decide) ?_
        exact x_vret hx hb hr hlk hK hP hD hS dM_term_292 (by have e9 : mTerm (spT cs 0) (nI ee) i S O op = .inr (i + 1, S, O ++ [tk (spT cs 0) i], op) := (by unfold mTerm; rw [if_neg hno, hkc, if_pos (Or.inr (Or.inl rfl))]); exact ⟨hF, _, _, hM, hkp, MPr.r e9 hQ⟩)
      · refine lv_aload_n hx hb dM_term_36 rfl (lv_at hl 3 rfl) ?_
        refine x_callv (x_runV (n := 0) (As := []) (rest := []) ⟨hx, hb, hml, hown, hts⟩ (cM_fail l D tys A ws cI hI ad km v F hM) tw_809 tw_811 ts_M_fail tw_8 tw_812 (by decide +kernel) rfl rfl ⟨by decide, by decide⟩ ⟨Nat.zero_le _, Nat.zero_le _⟩ (va_recv hK hP (ci := 7) (q0 := km) rfl hM.1) hK hP hD hS hA hN rfl hl.1 rfl (lv_room (Nat.le_of_ble_eq_true rfl)) dM_term_37) hS (fun ws_74 H locs hwn73 hP hD hS => ?_)
        obtain ⟨hF9, hM⟩ := hwn73
        have hF := hF.tr hF9
        obtain ⟨hQ, hkp⟩ := hQ.fail hkp
        exact x_vret hx hb hr hlk hK hP hD hS dM_term_40 (by have e9 : mTerm (spT cs 0) (nI ee) i S O op = .inl (tk (spT cs 0) i).2.2 := if_pos (Or.inr ⟨h3, by rw [ecl, nI_clamp (by omega), ← hQ0.2.2.2.2.1 cl hcl, ← hop9]; exact c33⟩); rw [if_pos rfl] at hQ; exact ⟨hF, _, _, hM, hkp, MPr.l e9 hQ⟩)

set_option maxHeartbeats 4000000 in
set_option maxRecDepth 100000 in
theorem cM_come_1 (l : Launch) (D : va_G) (tys : List (ClassId × FieldType)) (A : Nat → Prop) (ws : va_W) (cI : ClassId) (hI : tys[0]? = some (cI, .int)) (ad : Nat → Nat) (km : Nat) (v : Nat → Int32) (F : Nat → Nat → Int32) (cs : List Nat) (i : Nat) (S : List Mu) (O : List Tok) (op : Nat → Int32) (hQ : MP cs i S O op (-1) v F) (y : Int32) (hSl : S.length ≤ 100) (hOl : O.length ≤ 100) (hM : ModF cI ad ws km v F) : x_Mv l yM_come wM_come (xR 6) D xCl tys A [.ref (ad km), .int 1, .int y, .int 0] ws (fun ws1 => x_fr km (km + 24) ws ws1 ∧ ∃ v9 F9, ModF cI ad ws1 km v9 F9 ∧ kpR v F v9 F9 ∧ MPr cs (mst (spT cs 0) (1, y, 0) i S O op) v9 F9) := by
  have hF : x_fr km (km + 24) ws ws := x_fr.rf
  have hkp : kpR v F v F := kpR.rf
  have hk := hQ.k
  refine x_enter (by decide) rfl (Nat.le_of_ble_eq_true rfl) (fun p e s m args below meth c ls hx hb hr hlk hml hown hnm hts hK hP hD hS hA hN hl => ?_)
  have hl : lv_has ls 5 [(0, .ref (ad km)), (1, .int 1), (2, .int y), (3, .int 0)] := hl
  refine lv_iload_n hx hb dM_come_0 rfl (lv_at hl 1 rfl) ?_
  refine lv_tableIn (tgt := 48) hx hb dM_come_1 (by decide) (by decide) rfl (by decide) ?_
  refine lv_aload_n hx hb dM_come_48 rfl (lv_at hl 0 rfl) ?_
  refine lv_iconst (v := 3) hx hb dM_come_49 (by decide) ?_
  refine lv_iload_n hx hb dM_come_50 rfl (lv_at hl 2 rfl) ?_
  refine lv_iconst (v := 0) hx hb dM_come_51 (by decide) ?_
  refine x_callv (x_runV (n := 3) (As := [.int 3, .int y, .int 0]) (rest := []) ⟨hx, hb, hml, hown, hts⟩ (cM_wants l D tys A ws cI hI ad km v F S.length hQ.2.2.1.1 (by (try simp only [List.length_cons]); omega) 3 y 0 hM) tw_797 tw_799 ts_M_wants tw_8 tw_800 (by decide +kernel) rfl rfl ⟨by decide, by decide⟩ ⟨Nat.zero_le _, Nat.zero_le _⟩ (va_recv hK hP (ci := 7) (q0 := km) rfl hM.1) hK hP hD hS hA hN rfl hl.1 rfl (lv_room (Nat.le_of_ble_eq_true rfl)) dM_come_52) hS (fun ws_2 H locs hwn1 hP hD hS => ?_)
  obtain ⟨hF9, hM⟩ := hwn1
  have hF := hF.tr hF9
  obtain ⟨vn1, Fn1, hM, hQ, hkp⟩ := hQ.want hkp (by (try simp only [List.length_cons]); omega) hM
  refine lv_aload_n hx hb dM_come_55 rfl (lv_at hl 0 rfl) ?_
  refine lv_iconst (v := 2) hx hb dM_come_56 (by decide) ?_
  refine lv_iload_n hx hb dM_come_57 rfl (lv_at hl 2 rfl) ?_
  refine lv_iconst (v := 0) hx hb dM_come_58 (by decide) ?_
  refine x_callv (x_runV (n := 3) (As := [.int 2, .int y, .int 0]) (rest := []) ⟨hx, hb, hml, hown, hts⟩ (cM_wants l D tys A ws_2 cI hI ad km vn1 Fn1 (((3, y, 0) :: S)).length hQ.2.2.1.1 (by (try simp only [List.length_cons]); omega) 2 y 0 hM) tw_797 tw_799 ts_M_wants tw_8 tw_800 (by decide +kernel) rfl rfl ⟨by decide, by decide⟩ ⟨Nat.zero_le _, Nat.zero_le _⟩ (va_recv hK hP (ci := 7) (q0 := km) rfl hM.1) hK hP hD hS hA hN rfl hl.1 rfl (lv_room (Nat.le_of_ble_eq_true rfl)) dM_come_59) hS (fun ws_4 H locs hwn3 hP hD hS => ?_)
  obtain ⟨hF9, hM⟩ := hwn3
  have hF := hF.tr hF9
  obtain ⟨vn3, Fn3, hM, hQ, hkp⟩ := hQ.want hkp (by (try simp only [List.length_cons]); omega) hM
  refine lv_goto (tgt := 242) hx hb dM_come_62 (by decide) ?_
  exact x_vret hx hb hr hlk hK hP hD hS dM_come_242 ⟨hF, _, _, hM, hkp, MPr.r rfl hQ⟩

set_option maxHeartbeats 4000000 in
set_option maxRecDepth 100000 in
theorem cM_come_2 (l : Launch) (D : va_G) (tys : List (ClassId × FieldType)) (A : Nat → Prop) (ws : va_W) (cI : ClassId) (hI : tys[0]? = some (cI, .int)) (ad : Nat → Nat) (km : Nat) (v : Nat → Int32) (F : Nat → Nat → Int32) (cs : List Nat) (i : Nat) (S : List Mu) (O : List Tok) (op : Nat → Int32) (hQ : MP cs i S O op (-1) v F) (ee : Nat) (hee : ee ≤ 12) (hSl : S.length ≤ 100) (hOl : O.length ≤ 100) (hM : ModF cI ad ws km v F) : x_Mv l yM_come wM_come (xR 6) D xCl tys A [.ref (ad km), .int 2, .int (nI ee), .int 0] ws (fun ws1 => x_fr km (km + 24) ws ws1 ∧ ∃ v9 F9, ModF cI ad ws1 km v9 F9 ∧ kpR v F v9 F9 ∧ MPr cs (mst (spT cs 0) (2, nI ee, 0) i S O op) v9 F9) := by
  have hF : x_fr km (km + 24) ws ws := x_fr.rf
  have hkp : kpR v F v F := kpR.rf
  have hk := hQ.k
  refine x_enter (by decide) rfl (Nat.le_of_ble_eq_true rfl) (fun p e s m args below meth c ls hx hb hr hlk hml hown hnm hts hK hP hD hS hA hN hl => ?_)
  have hl : lv_has ls 5 [(0, .ref (ad km)), (1, .int 2), (2, .int (nI ee)), (3, .int 0)] := hl
  refine lv_iload_n hx hb dM_come_0 rfl (lv_at hl 1 rfl) ?_
  refine lv_tableIn (tgt := 65) hx hb dM_come_1 (by decide) (by decide) rfl (by decide) ?_
  refine lv_aload_n hx hb dM_come_65 rfl (lv_at hl 0 rfl) ?_
  refine lv_iload_n hx hb dM_come_66 rfl (lv_at hl 2 rfl) ?_
  refine x_callv (x_runV (n := 1) (As := [.int (nI ee)]) (rest := []) ⟨hx, hb, hml, hown, hts⟩ (cM_term l D tys A ws cI hI ad km v F cs i S O op hQ ee hee hSl hOl hM) tw_805 tw_807 ts_M_term tw_8 tw_808 (by decide +kernel) rfl rfl ⟨by decide, by decide⟩ ⟨Nat.zero_le _, Nat.zero_le _⟩ (va_recv hK hP (ci := 7) (q0 := km) rfl hM.1) hK hP hD hS hA hN rfl hl.1 rfl (lv_room (Nat.le_of_ble_eq_true rfl)) dM_come_67) hS (fun ws_1 H locs hte hP hD hS => ?_)
  obtain ⟨hF9, v8, F8, hM, hkq, hRo⟩ := hte
  have hF := hF.tr hF9
  refine lv_goto (tgt := 242) hx hb dM_come_70 (by decide) ?_
  exact x_vret hx hb hr hlk hK hP hD hS dM_come_242 ⟨hF, _, _, hM, hkq, hRo⟩

set_option maxHeartbeats 4000000 in
set_option maxRecDepth 100000 in
theorem cM_come_3 (l : Launch) (D : va_G) (tys : List (ClassId × FieldType)) (A : Nat → Prop) (ws : va_W) (cI : ClassId) (hI : tys[0]? = some (cI, .int)) (ad : Nat → Nat) (km : Nat) (v : Nat → Int32) (F : Nat → Nat → Int32) (cs : List Nat) (i : Nat) (S : List Mu) (O : List Tok) (op : Nat → Int32) (hQ : MP cs i S O op (-1) v F) (y : Int32) (hSl : S.length ≤ 100) (hOl : O.length ≤ 100) (hM : ModF cI ad ws km v F) : x_Mv l yM_come wM_come (xR 6) D xCl tys A [.ref (ad km), .int 3, .int y, .int 0] ws (fun ws1 => x_fr km (km + 24) ws ws1 ∧ ∃ v9 F9, ModF cI ad ws1 km v9 F9 ∧ kpR v F v9 F9 ∧ MPr cs (mst (spT cs 0) (3, y, 0) i S O op) v9 F9) := by
  have hF : x_fr km (km + 24) ws ws := x_fr.rf
  have hkp : kpR v F v F := kpR.rf
  have hk := hQ.k
  refine x_enter (by decide) rfl (Nat.le_of_ble_eq_true rfl) (fun p e s m args below meth c ls hx hb hr hlk hml hown hnm hts hK hP hD hS hA hN hl => ?_)
  have hl : lv_has ls 5 [(0, .ref (ad km)), (1, .int 3), (2, .int y), (3, .int 0)] := hl
  refine lv_iload_n hx hb dM_come_0 rfl (lv_at hl 1 rfl) ?_
  refine lv_tableIn (tgt := 73) hx hb dM_come_1 (by decide) (by decide) rfl (by decide) ?_
  refine lv_aload_n hx hb dM_come_73 rfl (lv_at hl 0 rfl) ?_
  refine va_get (D := D) (cl := xCl) (ci := 7) (v := .int (v 9)) (C := rnM) (T := tbM) (N := 39) hx hb hts inM hown hK hP km hM.1 rfl 9 (by decide) (hts _ tw_626) (fun _ h9 => h9) rfl dM_come_74 ?_
  refine lv_bipush (v := 43) hx hb dM_come_77 (by decide) ?_
  refine lv_icmp_eq (tgt := 103) hx hb dM_come_79 (by decide) (fun c79 => ?_) (fun c79 => ?_)
  · have hj : isJnI (tk (spT cs 0) i).1 = true := by rw [← hk.1]; unfold isJnI; rw [decide_eq_true_eq]; exact Or.inl c79
    refine lv_aload_n hx hb dM_come_103 rfl (lv_at hl 0 rfl) ?_
    refine lv_iconst (v := 3) hx hb dM_come_104 (by decide) ?_
    refine lv_iload_n hx hb dM_come_105 rfl (lv_at hl 2 rfl) ?_
    refine lv_iconst (v := 0) hx hb dM_come_106 (by decide) ?_
    refine x_callv (x_runV (n := 3) (As := [.int 3, .int y, .int 0]) (rest := []) ⟨hx, hb, hml, hown, hts⟩ (cM_wants l D tys A ws cI hI ad km v F S.length hQ.2.2.1.1 (by (try simp only [List.length_cons]); omega) 3 y 0 hM) tw_797 tw_799 ts_M_wants tw_8 tw_800 (by decide +kernel) rfl rfl ⟨by decide, by decide⟩ ⟨Nat.zero_le _, Nat.zero_le _⟩ (va_recv hK hP (ci := 7) (q0 := km) rfl hM.1) hK hP hD hS hA hN rfl hl.1 rfl (lv_room (Nat.le_of_ble_eq_true rfl)) dM_come_107) hS (fun ws_2 H locs hwn1 hP hD hS => ?_)
    obtain ⟨hF9, hM⟩ := hwn1
    have hF := hF.tr hF9
    obtain ⟨vn1, Fn1, hM, hQ, hkp⟩ := hQ.want hkp (by (try simp only [List.length_cons]); omega) hM
    refine lv_aload_n hx hb dM_come_110 rfl (lv_at hl 0 rfl) ?_
    refine lv_bipush (v := 6) hx hb dM_come_111 (by decide) ?_
    refine lv_iconst (v := 0) hx hb dM_come_113 (by decide) ?_
    refine lv_aload_n hx hb dM_come_114 rfl (lv_at hl 0 rfl) ?_
    refine va_get (D := D) (cl := xCl) (ci := 7) (v := .int (vn1 9)) (C := rnM) (T := tbM) (N := 39) hx hb hts inM hown hK hP km hM.1 rfl 9 (by decide) (hts _ tw_626) (fun _ h9 => h9) rfl dM_come_115 ?_
    have ht9 : (vn1 9) = (tk (spT cs 0) i).1 := hQ.k.1
    refine x_callv (x_runV (n := 3) (As := [.int 6, .int 0, .int (vn1 9)]) (rest := []) ⟨hx, hb, hml, hown, hts⟩ (cM_wants l D tys A ws_2 cI hI ad km vn1 Fn1 (((3, y, 0) :: S)).length hQ.2.2.1.1 (by (try simp only [List.length_cons]); omega) 6 0 ((vn1 9)) hM) tw_797 tw_799 ts_M_wants tw_8 tw_800 (by decide +kernel) rfl rfl ⟨by decide, by decide⟩ ⟨Nat.zero_le _, Nat.zero_le _⟩ (va_recv hK hP (ci := 7) (q0 := km) rfl hM.1) hK hP hD hS hA hN rfl hl.1 rfl (lv_room (Nat.le_of_ble_eq_true rfl)) dM_come_118) hS (fun ws_4 H locs hwn3 hP hD hS => ?_)
    obtain ⟨hF9, hM⟩ := hwn3
    have hF := hF.tr hF9
    obtain ⟨vn3, Fn3, hM, hQ, hkp⟩ := hQ.want hkp (by (try simp only [List.length_cons]); omega) hM
    refine lv_aload_n hx hb dM_come_121 rfl (lv_at hl 0 rfl) ?_
    refine lv_iconst (v := 2) hx hb dM_come_122 (by decide) ?_
    refine lv_iload_n hx hb dM_come_123 rfl (lv_at hl 2 rfl) ?_
    refine lv_iconst (v := 0) hx hb dM_come_124 (by decide) ?_
    refine x_callv (x_runV (n := 3) (As := [.int 2, .int y, .int 0]) (rest := []) ⟨hx, hb, hml, hown, hts⟩ (cM_wants l D tys A ws_4 cI hI ad km vn3 Fn3 (((6, 0, ((vn1 9))) :: ((3, y, 0) :: S))).length hQ.2.2.1.1 (by (try simp only [List.length_cons]); omega) 2 y 0 hM) tw_797 tw_799 ts_M_wants tw_8 tw_800 (by decide +kernel) rfl rfl ⟨by decide, by decide⟩ ⟨Nat.zero_le _, Nat.zero_le _⟩ (va_recv hK hP (ci := 7) (q0 := km) rfl hM.1) hK hP hD hS hA hN rfl hl.1 rfl (lv_room (Nat.le_of_ble_eq_true rfl)) dM_come_125) hS (fun ws_6 H locs hwn5 hP hD hS => ?_)
    obtain ⟨hF9, hM⟩ := hwn5
    have hF := hF.tr hF9
    obtain ⟨vn5, Fn5, hM, hQ, hkp⟩ := hQ.want hkp (by (try simp only [List.length_cons]); omega) hM
    refine lv_aload_n hx hb dM_come_128 rfl (lv_at hl 0 rfl) ?_
    obtain ⟨en7, hcun7, hnxn7⟩ := hQ.2.1
    refine x_callv (x_runV (n := 0) (As := []) (rest := []) ⟨hx, hb, hml, hown, hts⟩ (cM_next l D tys A ws_6 cI hI ad km vn5 Fn5 cs hQ.1 (tokA cs en7).2 (Cu_ub hQ.1 hcun7) hnxn7.2.2.1 hM) tw_771 tw_773 ts_M_next tw_8 tw_774 (by decide +kernel) rfl rfl ⟨by decide, by decide⟩ ⟨Nat.zero_le _, Nat.zero_le _⟩ (va_recv hK hP (ci := 7) (q0 := km) rfl hM.1) hK hP hD hS hA hN rfl hl.1 rfl (lv_room (Nat.le_of_ble_eq_true rfl)) dM_come_129) hS (fun ws_8 H locs hwn7 hP hD hS => ?_)
    obtain ⟨hF9, vn7, hM, hvn7, hnn7⟩ := hwn7
    have hF := hF.tr hF9
    obtain ⟨hQ, hkp⟩ := hQ.nxt hkp hcun7 (isJn_nz hj) hvn7 hnn7
    refine lv_goto (tgt := 242) hx hb dM_come_132 (by decide) ?_
    exact x_vret hx hb hr hlk hK hP hD hS dM_come_242 ⟨hF, _, _, hM, hkp, MPr.r (if_pos hj) (by rw [ht9] at hQ; exact hQ)⟩
  · refine lv_aload_n hx hb dM_come_82 rfl (lv_at hl 0 rfl) ?_
    refine va_get (D := D) (cl := xCl) (ci := 7) (v := .int (v 9)) (C := rnM) (T := tbM) (N := 39) hx hb hts inM hown hK hP km hM.1 rfl 9 (by decide) (hts _ tw_626) (fun _ h9 => h9) rfl dM_come_83 ?_
    refine lv_bipush (v := 45) hx hb dM_come_86 (by decide) ?_
    refine lv_icmp_eq (tgt := 103) hx hb dM_come_88 (by decide) (fun c88 => ?_) (fun c88 => ?_)
    · have hj : isJnI (tk (spT cs 0) i).1 = true := by rw [← hk.1]; unfold isJnI; rw [decide_eq_true_eq]; exact Or.inr (Or.inl c88)
      refine lv_aload_n hx hb dM_come_103 rfl (lv_at hl 0 rfl) ?_
      refine lv_iconst (v := 3) hx hb dM_come_104 (by decide) ?_
      refine lv_iload_n hx hb dM_come_105 rfl (lv_at hl 2 rfl) ?_
      refine lv_iconst (v := 0) hx hb dM_come_106 (by decide) ?_
      refine x_callv (x_runV (n := 3) (As := [.int 3, .int y, .int 0]) (rest := []) ⟨hx, hb, hml, hown, hts⟩ (cM_wants l D tys A ws cI hI ad km v F S.length hQ.2.2.1.1 (by (try simp only [List.length_cons]); omega) 3 y 0 hM) tw_797 tw_799 ts_M_wants tw_8 tw_800 (by decide +kernel) rfl rfl ⟨by decide, by decide⟩ ⟨Nat.zero_le _, Nat.zero_le _⟩ (va_recv hK hP (ci := 7) (q0 := km) rfl hM.1) hK hP hD hS hA hN rfl hl.1 rfl (lv_room (Nat.le_of_ble_eq_true rfl)) dM_come_107) hS (fun ws_10 H locs hwn9 hP hD hS => ?_)
      obtain ⟨hF9, hM⟩ := hwn9
      have hF := hF.tr hF9
      obtain ⟨vn9, Fn9, hM, hQ, hkp⟩ := hQ.want hkp (by (try simp only [List.length_cons]); omega) hM
      refine lv_aload_n hx hb dM_come_110 rfl (lv_at hl 0 rfl) ?_
      refine lv_bipush (v := 6) hx hb dM_come_111 (by decide) ?_
      refine lv_iconst (v := 0) hx hb dM_come_113 (by decide) ?_
      refine lv_aload_n hx hb dM_come_114 rfl (lv_at hl 0 rfl) ?_
      refine va_get (D := D) (cl := xCl) (ci := 7) (v := .int (vn9 9)) (C := rnM) (T := tbM) (N := 39) hx hb hts inM hown hK hP km hM.1 rfl 9 (by decide) (hts _ tw_626) (fun _ h9 => h9) rfl dM_come_115 ?_
      have ht9 : (vn9 9) = (tk (spT cs 0) i).1 := hQ.k.1
      refine x_callv (x_runV (n := 3) (As := [.int 6, .int 0, .int (vn9 9)]) (rest := []) ⟨hx, hb, hml, hown, hts⟩ (cM_wants l D tys A ws_10 cI hI ad km vn9 Fn9 (((3, y, 0) :: S)).length hQ.2.2.1.1 (by (try simp only [List.length_cons]); omega) 6 0 ((vn9 9)) hM) tw_797 tw_799 ts_M_wants tw_8 tw_800 (by decide +kernel) rfl rfl ⟨by decide, by decide⟩ ⟨Nat.zero_le _, Nat.zero_le _⟩ (va_recv hK hP (ci := 7) (q0 := km) rfl hM.1) hK hP hD hS hA hN rfl hl.1 rfl (lv_room (Nat.le_of_ble_eq_true rfl)) dM_come_118) hS (fun ws_12 H locs hwn11 hP hD hS => ?_)
      obtain ⟨hF9, hM⟩ := hwn11
      have hF := hF.tr hF9
      obtain ⟨vn11, Fn11, hM, hQ, hkp⟩ := hQ.want hkp (by (try simp only [List.length_cons]); omega) hM
      refine lv_aload_n hx hb dM_come_121 rfl (lv_at hl 0 rfl) ?_
      refine lv_iconst (v := 2) hx hb dM_come_122 (by decide) ?_
      refine lv_iload_n hx hb dM_come_123 rfl (lv_at hl 2 rfl) ?_
      refine lv_iconst (v := 0) hx hb dM_come_124 (by decide) ?_
      refine x_callv (x_runV (n := 3) (As := [.int 2, .int y, .int 0]) (rest := []) ⟨hx, hb, hml, hown, hts⟩ (cM_wants l D tys A ws_12 cI hI ad km vn11 Fn11 (((6, 0, ((vn9 9))) :: ((3, y, 0) :: S))).length hQ.2.2.1.1 (by (try simp only [List.length_cons]); omega) 2 y 0 hM) tw_797 tw_799 ts_M_wants tw_8 tw_800 (by decide +kernel) rfl rfl ⟨by decide, by decide⟩ ⟨Nat.zero_le _, Nat.zero_le _⟩ (va_recv hK hP (ci := 7) (q0 := km) rfl hM.1) hK hP hD hS hA hN rfl hl.1 rfl (lv_room (Nat.le_of_ble_eq_true rfl)) dM_come_125) hS (fun ws_14 H locs hwn13 hP hD hS => ?_)
      obtain ⟨hF9, hM⟩ := hwn13
      have hF := hF.tr hF9
      obtain ⟨vn13, Fn13, hM, hQ, hkp⟩ := hQ.want hkp (by (try simp only [List.length_cons]); omega) hM
      refine lv_aload_n hx hb dM_come_128 rfl (lv_at hl 0 rfl) ?_
      obtain ⟨en15, hcun15, hnxn15⟩ := hQ.2.1
      refine x_callv (x_runV (n := 0) (As := []) (rest := []) ⟨hx, hb, hml, hown, hts⟩ (cM_next l D tys A ws_14 cI hI ad km vn13 Fn13 cs hQ.1 (tokA cs en15).2 (Cu_ub hQ.1 hcun15) hnxn15.2.2.1 hM) tw_771 tw_773 ts_M_next tw_8 tw_774 (by decide +kernel) rfl rfl ⟨by decide, by decide⟩ ⟨Nat.zero_le _, Nat.zero_le _⟩ (va_recv hK hP (ci := 7) (q0 := km) rfl hM.1) hK hP hD hS hA hN rfl hl.1 rfl (lv_room (Nat.le_of_ble_eq_true rfl)) dM_come_129) hS (fun ws_16 H locs hwn15 hP hD hS => ?_)
      obtain ⟨hF9, vn15, hM, hvn15, hnn15⟩ := hwn15
      have hF := hF.tr hF9
      obtain ⟨hQ, hkp⟩ := hQ.nxt hkp hcun15 (isJn_nz hj) hvn15 hnn15
      refine lv_goto (tgt := 242) hx hb dM_come_132 (by decide) ?_
      exact x_vret hx hb hr hlk hK hP hD hS dM_come_242 ⟨hF, _, _, hM, hkp, MPr.r (if_pos hj) (by rw [ht9] at hQ; exact hQ)⟩
    · refine lv_aload_n hx hb dM_come_91 rfl (lv_at hl 0 rfl) ?_
      refine va_get (D := D) (cl := xCl) (ci := 7) (v := .int (v 9)) (C := rnM) (T := tbM) (N := 39) hx hb hts inM hown hK hP km hM.1 rfl 9 (by decide) (hts _ tw_626) (fun _ h9 => h9) rfl dM_come_92 ?_
      refine lv_bipush (v := 38) hx hb dM_come_95 (by decide) ?_
      refine lv_icmp_eq (tgt := 103) hx hb dM_come_97 (by decide) (fun c97 => ?_) (fun c97 => ?_)
      · have hj : isJnI (tk (spT cs 0) i).1 = true := by rw [← hk.1]; unfold isJnI; rw [decide_eq_true_eq]; exact Or.inr (Or.inr c97)
        refine lv_aload_n hx hb dM_come_103 rfl (lv_at hl 0 rfl) ?_
        refine lv_iconst (v := 3) hx hb dM_come_104 (by decide) ?_
        refine lv_iload_n hx hb dM_come_105 rfl (lv_at hl 2 rfl) ?_
        refine lv_iconst (v := 0) hx hb dM_come_106 (by decide) ?_
        refine x_callv (x_runV (n := 3) (As := [.int 3, .int y, .int 0]) (rest := []) ⟨hx, hb, hml, hown, hts⟩ (cM_wants l D tys A ws cI hI ad km v F S.length hQ.2.2.1.1 (by (try simp only [List.length_cons]); omega) 3 y 0 hM) tw_797 tw_799 ts_M_wants tw_8 tw_800 (by decide +kernel) rfl rfl ⟨by decide, by decide⟩ ⟨Nat.zero_le _, Nat.zero_le _⟩ (va_recv hK hP (ci := 7) (q0 := km) rfl hM.1) hK hP hD hS hA hN rfl hl.1 rfl (lv_room (Nat.le_of_ble_eq_true rfl)) dM_come_107) hS (fun ws_18 H locs hwn17 hP hD hS => ?_)
        obtain ⟨hF9, hM⟩ := hwn17
        have hF := hF.tr hF9
        obtain ⟨vn17, Fn17, hM, hQ, hkp⟩ := hQ.want hkp (by (try simp only [List.length_cons]); omega) hM
        refine lv_aload_n hx hb dM_come_110 rfl (lv_at hl 0 rfl) ?_
        refine lv_bipush (v := 6) hx hb dM_come_111 (by decide) ?_
        refine lv_iconst (v := 0) hx hb dM_come_113 (by decide) ?_
        refine lv_aload_n hx hb dM_come_114 rfl (lv_at hl 0 rfl) ?_
        refine va_get (D := D) (cl := xCl) (ci := 7) (v := .int (vn17 9)) (C := rnM) (T := tbM) (N := 39) hx hb hts inM hown hK hP km hM.1 rfl 9 (by decide) (hts _ tw_626) (fun _ h9 => h9) rfl dM_come_115 ?_
        have ht9 : (vn17 9) = (tk (spT cs 0) i).1 := hQ.k.1
        refine x_callv (x_runV (n := 3) (As := [.int 6, .int 0, .int (vn17 9)]) (rest := []) ⟨hx, hb, hml, hown, hts⟩ (cM_wants l D tys A ws_18 cI hI ad km vn17 Fn17 (((3, y, 0) :: S)).length hQ.2.2.1.1 (by (try simp only [List.length_cons]); omega) 6 0 ((vn17 9)) hM) tw_797 tw_799 ts_M_wants tw_8 tw_800 (by decide +kernel) rfl rfl ⟨by decide, by decide⟩ ⟨Nat.zero_le _, Nat.zero_le _⟩ (va_recv hK hP (ci := 7) (q0 := km) rfl hM.1) hK hP hD hS hA hN rfl hl.1 rfl (lv_room (Nat.le_of_ble_eq_true rfl)) dM_come_118) hS (fun ws_20 H locs hwn19 hP hD hS => ?_)
        obtain ⟨hF9, hM⟩ := hwn19
        have hF := hF.tr hF9
        obtain ⟨vn19, Fn19, hM, hQ, hkp⟩ := hQ.want hkp (by (try simp only [List.length_cons]); omega) hM
        refine lv_aload_n hx hb dM_come_121 rfl (lv_at hl 0 rfl) ?_
        refine lv_iconst (v := 2) hx hb dM_come_122 (by decide) ?_
        refine lv_iload_n hx hb dM_come_123 rfl (lv_at hl 2 rfl) ?_
        refine lv_iconst (v := 0) hx hb dM_come_124 (by decide) ?_
        refine x_callv (x_runV (n := 3) (As := [.int 2, .int y, .int 0]) (rest := []) ⟨hx, hb, hml, hown, hts⟩ (cM_wants l D tys A ws_20 cI hI ad km vn19 Fn19 (((6, 0, ((vn17 9))) :: ((3, y, 0) :: S))).length hQ.2.2.1.1 (by (try simp only [List.length_cons]); omega) 2 y 0 hM) tw_797 tw_799 ts_M_wants tw_8 tw_800 (by decide +kernel) rfl rfl ⟨by decide, by decide⟩ ⟨Nat.zero_le _, Nat.zero_le _⟩ (va_recv hK hP (ci := 7) (q0 := km) rfl hM.1) hK hP hD hS hA hN rfl hl.1 rfl (lv_room (Nat.le_of_ble_eq_true rfl)) dM_come_125) hS (fun ws_22 H locs hwn21 hP hD hS => ?_)
        obtain ⟨hF9, hM⟩ := hwn21
        have hF := hF.tr hF9
        obtain ⟨vn21, Fn21, hM, hQ, hkp⟩ := hQ.want hkp (by (try simp only [List.length_cons]); omega) hM
        refine lv_aload_n hx hb dM_come_128 rfl (lv_at hl 0 rfl) ?_
        obtain ⟨en23, hcun23, hnxn23⟩ := hQ.2.1
        refine x_callv (x_runV (n := 0) (As := []) (rest := []) ⟨hx, hb, hml, hown, hts⟩ (cM_next l D tys A ws_22 cI hI ad km vn21 Fn21 cs hQ.1 (tokA cs en23).2 (Cu_ub hQ.1 hcun23) hnxn23.2.2.1 hM) tw_771 tw_773 ts_M_next tw_8 tw_774 (by decide +kernel) rfl rfl ⟨by decide, by decide⟩ ⟨Nat.zero_le _, Nat.zero_le _⟩ (va_recv hK hP (ci := 7) (q0 := km) rfl hM.1) hK hP hD hS hA hN rfl hl.1 rfl (lv_room (Nat.le_of_ble_eq_true rfl)) dM_come_129) hS (fun ws_24 H locs hwn23 hP hD hS => ?_)
        obtain ⟨hF9, vn23, hM, hvn23, hnn23⟩ := hwn23
        have hF := hF.tr hF9
        obtain ⟨hQ, hkp⟩ := hQ.nxt hkp hcun23 (isJn_nz hj) hvn23 hnn23
        refine lv_goto (tgt := 242) hx hb dM_come_132 (by decide) ?_
        exact x_vret hx hb hr hlk hK hP hD hS dM_come_242 ⟨hF, _, _, hM, hkp, MPr.r (if_pos hj) (by rw [ht9] at hQ; exact hQ)⟩
      · refine lv_goto (tgt := 242) hx hb dM_come_100 (by decide) ?_
        exact x_vret hx hb hr hlk hK hP hD hS dM_come_242 (by have hj : ¬ isJnI (tk (spT cs 0) i).1 = true := (by rw [← hk.1]; unfold isJnI; rw [decide_eq_true_eq]; rintro (z9 | z9 | z9); exact c79 z9; exact c88 z9; exact c97 z9); exact ⟨hF, _, _, hM, hkp, MPr.r (if_neg hj) hQ⟩)

set_option maxHeartbeats 4000000 in
set_option maxRecDepth 100000 in
theorem cM_come_4 (l : Launch) (D : va_G) (tys : List (ClassId × FieldType)) (A : Nat → Prop) (ws : va_W) (cI : ClassId) (hI : tys[0]? = some (cI, .int)) (ad : Nat → Nat) (km : Nat) (v : Nat → Int32) (F : Nat → Nat → Int32) (cs : List Nat) (i : Nat) (S : List Mu) (O : List Tok) (op : Nat → Int32) (hQ : MP cs i S O op (-1) v F) (y K : Int32) (hK0 : ¬ K = 0) (hSl : S.length ≤ 100) (hOl : O.length ≤ 100) (hM : ModF cI ad ws km v F) : x_Mv l yM_come wM_come (xR 6) D xCl tys A [.ref (ad km), .int 4, .int y, .int K] ws (fun ws1 => x_fr km (km + 24) ws ws1 ∧ ∃ v9 F9, ModF cI ad ws1 km v9 F9 ∧ kpR v F v9 F9 ∧ MPr cs (mst (spT cs 0) (4, y, K) i S O op) v9 F9) := by
  have hF : x_fr km (km + 24) ws ws := x_fr.rf
  have hkp : kpR v F v F := kpR.rf
  have hk := hQ.k
  refine x_enter (by decide) rfl (Nat.le_of_ble_eq_true rfl) (fun p e s m args below meth c ls hx hb hr hlk hml hown hnm hts hK hP hD hS hA hN hl => ?_)
  have hl : lv_has ls 5 [(0, .ref (ad km)), (1, .int 4), (2, .int y), (3, .int K)] := hl
  refine lv_iload_n hx hb dM_come_0 rfl (lv_at hl 1 rfl) ?_
  refine lv_tableIn (tgt := 135) hx hb dM_come_1 (by decide) (by decide) rfl (by decide) ?_
  refine lv_aload_n hx hb dM_come_135 rfl (lv_at hl 0 rfl) ?_
  refine lv_iload_n hx hb dM_come_136 rfl (lv_at hl 3 rfl) ?_
  refine x_callv (x_runV (n := 1) (As := [.int K]) (rest := []) ⟨hx, hb, hml, hown, hts⟩ (cM_take l D tys A ws cI hI ad km v F cs i S O op ((-1)) hQ K hK0 hM) tw_817 tw_819 ts_M_take tw_8 tw_820 (by decide +kernel) rfl rfl ⟨by decide, by decide⟩ ⟨Nat.zero_le _, Nat.zero_le _⟩ (va_recv hK hP (ci := 7) (q0 := km) rfl hM.1) hK hP hD hS hA hN rfl hl.1 rfl (lv_room (Nat.le_of_ble_eq_true rfl)) dM_come_137) hS (fun ws_2 H locs hwn1 hP hD hS => ?_)
  obtain ⟨hF9, vn1, hM, hQ, hkq⟩ := hwn1
  have hF := hF.tr hF9
  have hkp := hkp.tr hkq
  refine lv_goto (tgt := 242) hx hb dM_come_140 (by decide) ?_
  exact x_vret hx hb hr hlk hK hP hD hS dM_come_242 ⟨hF, _, _, hM, hkp, sgn_R rfl hQ⟩

set_option maxHeartbeats 4000000 in
set_option maxRecDepth 100000 in
theorem cM_come_5 (l : Launch) (D : va_G) (tys : List (ClassId × FieldType)) (A : Nat → Prop) (ws : va_W) (cI : ClassId) (hI : tys[0]? = some (cI, .int)) (ad : Nat → Nat) (km : Nat) (v : Nat → Int32) (F : Nat → Nat → Int32) (cs : List Nat) (i : Nat) (S : List Mu) (O : List Tok) (op : Nat → Int32) (hQ : MP cs i S O op (-1) v F) (y K : Int32) (hSl : S.length ≤ 100) (hOl : O.length ≤ 100) (hM : ModF cI ad ws km v F) : x_Mv l yM_come wM_come (xR 6) D xCl tys A [.ref (ad km), .int 5, .int y, .int K] ws (fun ws1 => x_fr km (km + 24) ws ws1 ∧ ∃ v9 F9, ModF cI ad ws1 km v9 F9 ∧ kpR v F v9 F9 ∧ MPr cs (mst (spT cs 0) (5, y, K) i S O op) v9 F9) := by
  have hF : x_fr km (km + 24) ws ws := x_fr.rf
  have hkp : kpR v F v F := kpR.rf
  have hk := hQ.k
  refine x_enter (by decide) rfl (Nat.le_of_ble_eq_true rfl) (fun p e s m args below meth c ls hx hb hr hlk hml hown hnm hts hK hP hD hS hA hN hl => ?_)
  have hl : lv_has ls 5 [(0, .ref (ad km)), (1, .int 5), (2, .int y), (3, .int K)] := hl
  refine lv_iload_n hx hb dM_come_0 rfl (lv_at hl 1 rfl) ?_
  refine lv_tableIn (tgt := 143) hx hb dM_come_1 (by decide) (by decide) rfl (by decide) ?_
  refine lv_iconst (v := (-1)) hx hb dM_come_143 (by decide) ?_
  refine lv_istore (lv' := [(4, .int (-1)), (0, .ref (ad km)), (1, .int 5), (2, .int y), (3, .int K)]) hx hb dM_come_144 hl (by decide) rfl (fun ls hl => ?_)
  refine lv_aload_n hx hb dM_come_146 rfl (lv_at hl 1 rfl) ?_
  refine va_get (D := D) (cl := xCl) (ci := 7) (v := .int (v 9)) (C := rnM) (T := tbM) (N := 39) hx hb hts inM hown hK hP km hM.1 rfl 9 (by decide) (hts _ tw_626) (fun _ h9 => h9) rfl dM_come_147 ?_
  refine lv_bipush (v := 44) hx hb dM_come_150 (by decide) ?_
  refine lv_icmp_ne (tgt := 170) hx hb dM_come_152 (by decide) (fun c152 => ?_) (fun c152 => ?_)
  · refine lv_aload_n hx hb dM_come_170 rfl (lv_at hl 1 rfl) ?_
    refine lv_bipush (v := 41) hx hb dM_come_171 (by decide) ?_
    refine x_callv (x_runV (n := 1) (As := [.int 41]) (rest := []) ⟨hx, hb, hml, hown, hts⟩ (cM_take l D tys A ws cI hI ad km v F cs i S O op ((-1)) hQ 41 (by decide) hM) tw_817 tw_819 ts_M_take tw_8 tw_820 (by decide +kernel) rfl rfl ⟨by decide, by decide⟩ ⟨Nat.zero_le _, Nat.zero_le _⟩ (va_recv hK hP (ci := 7) (q0 := km) rfl hM.1) hK hP hD hS hA hN rfl hl.1 rfl (lv_room (Nat.le_of_ble_eq_true rfl)) dM_come_173) hS (fun ws_2 H locs hwn1 hP hD hS => ?_)
    obtain ⟨hF9, vn1, hM, hQ, hkq⟩ := hwn1
    have hF := hF.tr hF9
    have hkp := hkp.tr hkq
    refine lv_aload_n hx hb dM_come_176 rfl (lv_at hl 1 rfl) ?_
    refine lv_iload_n hx hb dM_come_177 rfl (lv_at hl 4 rfl) ?_
    refine lv_iload hx hb dM_come_178 (lv_at hl 0 rfl) ?_
    refine lv_iconst (v := 0) hx hb dM_come_180 (by decide) ?_
    refine x_callv (x_runV (n := 3) (As := [.int K, .int (-1), .int 0]) (rest := []) ⟨hx, hb, hml, hown, hts⟩ (cM_write l D tys A ws_2 cI hI ad km vn1 F O.length hQ.2.2.2.1.1 (by omega) K ((-1)) 0 hM) tw_813 tw_815 ts_M_write tw_8 tw_816 (by decide +kernel) rfl rfl ⟨by decide, by decide⟩ ⟨Nat.zero_le _, Nat.zero_le _⟩ (va_recv hK hP (ci := 7) (q0 := km) rfl hM.1) hK hP hD hS hA hN rfl hl.1 rfl (lv_room (Nat.le_of_ble_eq_true rfl)) dM_come_181) hS (fun ws_4 H locs hwn3 hP hD hS => ?_)
    obtain ⟨hF9, hM⟩ := hwn3
    have hF := hF.tr hF9
    obtain ⟨vn3, Fn3, hM, hQ, hkp⟩ := MP.writ (K, ((-1)), 0) rfl (fun _ => rfl) rfl hQ hkp (by omega) hM
    refine lv_goto (tgt := 242) hx hb dM_come_184 (by decide) ?_
    exact x_vret hx hb hr hlk hK hP hD hS dM_come_242 ⟨hF, _, _, hM, hkp, rnd_N rfl (fun z9 => c152 (hk.1.trans z9)) hQ⟩
  · have hkc : (tk (spT cs 0) i).1 = 44 := by rw [← hk.1]; exact c152
    refine lv_aload_n hx hb dM_come_155 rfl (lv_at hl 1 rfl) ?_
    obtain ⟨en5, hcun5, hnxn5⟩ := hQ.2.1
    refine x_callv (x_runV (n := 0) (As := []) (rest := []) ⟨hx, hb, hml, hown, hts⟩ (cM_next l D tys A ws cI hI ad km v F cs hQ.1 (tokA cs en5).2 (Cu_ub hQ.1 hcun5) hnxn5.2.2.1 hM) tw_771 tw_773 ts_M_next tw_8 tw_774 (by decide +kernel) rfl rfl ⟨by decide, by decide⟩ ⟨Nat.zero_le _, Nat.zero_le _⟩ (va_recv hK hP (ci := 7) (q0 := km) rfl hM.1) hK hP hD hS hA hN rfl hl.1 rfl (lv_room (Nat.le_of_ble_eq_true rfl)) dM_come_156) hS (fun ws_6 H locs hwn5 hP hD hS => ?_)
    obtain ⟨hF9, vn5, hM, hvn5, hnn5⟩ := hwn5
    have hF := hF.tr hF9
    obtain ⟨hQ, hkp⟩ := hQ.nxt hkp hcun5 (by rw [hkc]; decide) hvn5 hnn5
    refine lv_aload_n hx hb dM_come_159 rfl (lv_at hl 1 rfl) ?_
    refine va_get (D := D) (cl := xCl) (ci := 7) (v := .int (vn5 12)) (C := rnM) (T := tbM) (N := 39) hx hb hts inM hown hK hP km hM.1 rfl 12 (by decide) (hts _ tw_629) (fun _ h9 => h9) rfl dM_come_160 ?_
    have hx9 : (tk (spT cs 0) (i + 1)).1 = 4 → (vn5 12) = (tk (spT cs 0) (i + 1)).2.1 := fun z9 => hQ.k.2.2.1 (Or.inr (Or.inr z9))
    refine lv_istore (lv' := [(4, .int (vn5 12)), (0, .ref (ad km)), (1, .int 5), (2, .int y), (3, .int K)]) hx hb dM_come_163 hl (by decide) rfl (fun ls hl => ?_)
    refine lv_aload_n hx hb dM_come_165 rfl (lv_at hl 1 rfl) ?_
    refine lv_iconst (v := 4) hx hb dM_come_166 (by decide) ?_
    refine x_callv (x_runV (n := 1) (As := [.int 4]) (rest := []) ⟨hx, hb, hml, hown, hts⟩ (cM_take l D tys A ws_6 cI hI ad km vn5 F cs (i + 1) S O op ((-1)) hQ 4 (by decide) hM) tw_817 tw_819 ts_M_take tw_8 tw_820 (by decide +kernel) rfl rfl ⟨by decide, by decide⟩ ⟨Nat.zero_le _, Nat.zero_le _⟩ (va_recv hK hP (ci := 7) (q0 := km) rfl hM.1) hK hP hD hS hA hN rfl hl.1 rfl (lv_room (Nat.le_of_ble_eq_true rfl)) dM_come_167) hS (fun ws_8 H locs hwn7 hP hD hS => ?_)
    obtain ⟨hF9, vn7, hM, hQ, hkq⟩ := hwn7
    have hF := hF.tr hF9
    have hkp := hkp.tr hkq
    refine lv_aload_n hx hb dM_come_170 rfl (lv_at hl 1 rfl) ?_
    refine lv_bipush (v := 41) hx hb dM_come_171 (by decide) ?_
    refine x_callv (x_runV (n := 1) (As := [.int 41]) (rest := []) ⟨hx, hb, hml, hown, hts⟩ (cM_take l D tys A ws_8 cI hI ad km vn7 F cs (tkI (spT cs 0) 4 (i + 1)) S O op ((tkL (spT cs 0) 4 (i + 1) (-1))) hQ 41 (by decide) hM) tw_817 tw_819 ts_M_take tw_8 tw_820 (by decide +kernel) rfl rfl ⟨by decide, by decide⟩ ⟨Nat.zero_le _, Nat.zero_le _⟩ (va_recv hK hP (ci := 7) (q0 := km) rfl hM.1) hK hP hD hS hA hN rfl hl.1 rfl (lv_room (Nat.le_of_ble_eq_true rfl)) dM_come_173) hS (fun ws_10 H locs hwn9 hP hD hS => ?_)
    obtain ⟨hF9, vn9, hM, hQ, hkq⟩ := hwn9
    have hF := hF.tr hF9
    have hkp := hkp.tr hkq
    refine lv_aload_n hx hb dM_come_176 rfl (lv_at hl 1 rfl) ?_
    refine lv_iload_n hx hb dM_come_177 rfl (lv_at hl 4 rfl) ?_
    refine lv_iload hx hb dM_come_178 (lv_at hl 0 rfl) ?_
    refine lv_iconst (v := 0) hx hb dM_come_180 (by decide) ?_
    refine x_callv (x_runV (n := 3) (As := [.int K, .int (vn5 12), .int 0]) (rest := []) ⟨hx, hb, hml, hown, hts⟩ (cM_write l D tys A ws_10 cI hI ad km vn9 F O.length hQ.2.2.2.1.1 (by omega) K ((vn5 12)) 0 hM) tw_813 tw_815 ts_M_write tw_8 tw_816 (by decide +kernel) rfl rfl ⟨by decide, by decide⟩ ⟨Nat.zero_le _, Nat.zero_le _⟩ (va_recv hK hP (ci := 7) (q0 := km) rfl hM.1) hK hP hD hS hA hN rfl hl.1 rfl (lv_room (Nat.le_of_ble_eq_true rfl)) dM_come_181) hS (fun ws_12 H locs hwn11 hP hD hS => ?_)
    obtain ⟨hF9, hM⟩ := hwn11
    have hF := hF.tr hF9
    obtain ⟨vn11, Fn11, hM, hQ, hkp⟩ := MP.writ (K, ((vn5 12)), 0) rfl (fun _ => rfl) rfl hQ hkp (by omega) hM
    refine lv_goto (tgt := 242) hx hb dM_come_184 (by decide) ?_
    exact x_vret hx hb hr hlk hK hP hD hS dM_come_242 ⟨hF, _, _, hM, hkp, rnd_R hQ.1.2.1 rfl hkc hx9 hQ⟩

set_option maxHeartbeats 4000000 in
set_option maxRecDepth 100000 in
theorem cM_come_6 (l : Launch) (D : va_G) (tys : List (ClassId × FieldType)) (A : Nat → Prop) (ws : va_W) (cI : ClassId) (hI : tys[0]? = some (cI, .int)) (ad : Nat → Nat) (km : Nat) (v : Nat → Int32) (F : Nat → Nat → Int32) (cs : List Nat) (i : Nat) (S : List Mu) (O : List Tok) (op : Nat → Int32) (hQ : MP cs i S O op (-1) v F) (y K : Int32) (hSl : S.length ≤ 100) (hOl : O.length ≤ 100) (hM : ModF cI ad ws km v F) : x_Mv l yM_come wM_come (xR 6) D xCl tys A [.ref (ad km), .int 6, .int y, .int K] ws (fun ws1 => x_fr km (km + 24) ws ws1 ∧ ∃ v9 F9, ModF cI ad ws1 km v9 F9 ∧ kpR v F v9 F9 ∧ MPr cs (mst (spT cs 0) (6, y, K) i S O op) v9 F9) := by
  have hF : x_fr km (km + 24) ws ws := x_fr.rf
  have hkp : kpR v F v F := kpR.rf
  have hk := hQ.k
  refine x_enter (by decide) rfl (Nat.le_of_ble_eq_true rfl) (fun p e s m args below meth c ls hx hb hr hlk hml hown hnm hts hK hP hD hS hA hN hl => ?_)
  have hl : lv_has ls 5 [(0, .ref (ad km)), (1, .int 6), (2, .int y), (3, .int K)] := hl
  refine lv_iload_n hx hb dM_come_0 rfl (lv_at hl 1 rfl) ?_
  refine lv_tableIn (tgt := 235) hx hb dM_come_1 (by decide) (by decide) rfl (by decide) ?_
  refine lv_aload_n hx hb dM_come_235 rfl (lv_at hl 0 rfl) ?_
  refine lv_iload_n hx hb dM_come_236 rfl (lv_at hl 3 rfl) ?_
  refine lv_iload_n hx hb dM_come_237 rfl (lv_at hl 2 rfl) ?_
  refine lv_iconst (v := 0) hx hb dM_come_238 (by decide) ?_
  refine x_callv (x_runV (n := 3) (As := [.int K, .int y, .int 0]) (rest := []) ⟨hx, hb, hml, hown, hts⟩ (cM_write l D tys A ws cI hI ad km v F O.length hQ.2.2.2.1.1 (by omega) K y 0 hM) tw_813 tw_815 ts_M_write tw_8 tw_816 (by decide +kernel) rfl rfl ⟨by decide, by decide⟩ ⟨Nat.zero_le _, Nat.zero_le _⟩ (va_recv hK hP (ci := 7) (q0 := km) rfl hM.1) hK hP hD hS hA hN rfl hl.1 rfl (lv_room (Nat.le_of_ble_eq_true rfl)) dM_come_239) hS (fun ws_2 H locs hwn1 hP hD hS => ?_)
  obtain ⟨hF9, hM⟩ := hwn1
  have hF := hF.tr hF9
  obtain ⟨vn1, Fn1, hM, hQ, hkp⟩ := MP.writ (K, y, 0) rfl (fun _ => rfl) rfl hQ hkp (by omega) hM
  exact x_vret hx hb hr hlk hK hP hD hS dM_come_242 ⟨hF, _, _, hM, hkp, MPr.r rfl hQ⟩

set_option maxHeartbeats 4000000 in
set_option maxRecDepth 100000 in
theorem cM_come_7 (l : Launch) (D : va_G) (tys : List (ClassId × FieldType)) (A : Nat → Prop) (ws : va_W) (cI : ClassId) (hI : tys[0]? = some (cI, .int)) (ad : Nat → Nat) (km : Nat) (v : Nat → Int32) (F : Nat → Nat → Int32) (cs : List Nat) (i : Nat) (S : List Mu) (O : List Tok) (op : Nat → Int32) (hQ : MP cs i S O op (-1) v F) (y : Int32) (c9 : Nat) (hc9 : c9 < 26) (hSl : S.length ≤ 100) (hOl : O.length ≤ 100) (hM : ModF cI ad ws km v F) : x_Mv l yM_come wM_come (xR 6) D xCl tys A [.ref (ad km), .int 7, .int y, .int (nI c9)] ws (fun ws1 => x_fr km (km + 24) ws ws1 ∧ ∃ v9 F9, ModF cI ad ws1 km v9 F9 ∧ kpR v F v9 F9 ∧ MPr cs (mst (spT cs 0) (7, y, nI c9) i S O op) v9 F9) := by
  have hF : x_fr km (km + 24) ws ws := x_fr.rf
  have hkp : kpR v F v F := kpR.rf
  have hk := hQ.k
  refine x_enter (by decide) rfl (Nat.le_of_ble_eq_true rfl) (fun p e s m args below meth c ls hx hb hr hlk hml hown hnm hts hK hP hD hS hA hN hl => ?_)
  have hl : lv_has ls 5 [(0, .ref (ad km)), (1, .int 7), (2, .int y), (3, .int (nI c9))] := hl
  refine lv_iload_n hx hb dM_come_0 rfl (lv_at hl 1 rfl) ?_
  refine lv_tableIn (tgt := 187) hx hb dM_come_1 (by decide) (by decide) rfl (by decide) ?_
  refine lv_aload_n hx hb dM_come_187 rfl (lv_at hl 0 rfl) ?_
  refine lv_bipush (v := 13) hx hb dM_come_188 (by decide) ?_
  refine x_callv (x_runV (n := 1) (As := [.int 13]) (rest := []) ⟨hx, hb, hml, hown, hts⟩ (cM_take l D tys A ws cI hI ad km v F cs i S O op ((-1)) hQ 13 (by decide) hM) tw_817 tw_819 ts_M_take tw_8 tw_820 (by decide +kernel) rfl rfl ⟨by decide, by decide⟩ ⟨Nat.zero_le _, Nat.zero_le _⟩ (va_recv hK hP (ci := 7) (q0 := km) rfl hM.1) hK hP hD hS hA hN rfl hl.1 rfl (lv_room (Nat.le_of_ble_eq_true rfl)) dM_come_190) hS (fun ws_2 H locs hwn1 hP hD hS => ?_)
  obtain ⟨hF9, vn1, hM, hQ, hkq⟩ := hwn1
  have hF := hF.tr hF9
  have hkp := hkp.tr hkq
  refine lv_aload_n hx hb dM_come_193 rfl (lv_at hl 0 rfl) ?_
  refine va_get (D := D) (cl := xCl) (ci := 7) (v := .ref (ad (km + 10))) (C := rnM) (T := tbM) (N := 39) hx hb hts inM hown hK hP km hM.1 rfl 17 (by decide) (hts _ tw_634) (fun _ h9 => h9) rfl dM_come_194 ?_
  refine lv_iload_n hx hb dM_come_197 rfl (lv_at hl 3 rfl) ?_
  refine lv_dup2_11 hx hb dM_come_198 rfl rfl ?_
  refine va_iald hx hb hK hP (km + 10) 0 (hM.a 10 26 rfl (by omega) (by omega)) hI (vp_in_nI (by omega) (by omega)) dM_come_199 ?_
  refine lv_topi (fun v_3 ev_3 => ?_)
  refine lv_iconst (v := 1) hx hb dM_come_200 (by decide) ?_
  refine lv_iadd hx hb dM_come_201 ?_
  refine lv_topi (fun v_4 ev_4 => ?_)
  refine va_iast hx hb hK hP hD hS (km + 10) 0 (hM.a 10 26 rfl (by omega) (by omega)) hI (vp_in_nI (by omega) (by omega)) dM_come_202 (fun H locs hP hD hS => ?_)
  obtain ⟨ws_6, hu_5, hP, hD⟩ := x_gen (hM.a 10 26 rfl (by omega) (by omega)) hP hD
  have hM : ModF cI ad ws_6 km vn1 (setF F 10 ((upd (F 10) ((nI c9)).toNatClampNeg v_4))) := hM.arr 10 26 rfl (by omega) (by omega) hu_5
  have hF := hF.tr (hu_5.fr (a := km) (b := km + 24) (by omega) (by omega))
  have hx9 : v_4 = op c9 + 1 := by rw [ev_4, ev_3, nI_clamp (by omega), hQ.2.2.2.2.1 c9 hc9]
  rw [hx9, nI_clamp (by omega)] at hM
  obtain ⟨Fq7, hM, hQ, hkp⟩ := hQ.opn hkp hM
  refine lv_aload_n hx hb dM_come_203 rfl (lv_at hl 0 rfl) ?_
  refine lv_bipush (v := 20) hx hb dM_come_204 (by decide) ?_
  refine lv_iload_n hx hb dM_come_206 rfl (lv_at hl 3 rfl) ?_
  refine lv_iconst (v := 0) hx hb dM_come_207 (by decide) ?_
  refine x_callv (x_runV (n := 3) (As := [.int 20, .int (nI c9), .int 0]) (rest := []) ⟨hx, hb, hml, hown, hts⟩ (cM_write l D tys A ws_6 cI hI ad km vn1 Fq7 O.length hQ.2.2.2.1.1 (by omega) 20 ((nI c9)) 0 hM) tw_813 tw_815 ts_M_write tw_8 tw_816 (by decide +kernel) rfl rfl ⟨by decide, by decide⟩ ⟨Nat.zero_le _, Nat.zero_le _⟩ (va_recv hK hP (ci := 7) (q0 := km) rfl hM.1) hK hP hD hS hA hN rfl hl.1 rfl (lv_room (Nat.le_of_ble_eq_true rfl)) dM_come_208) hS (fun ws_9 H locs hwn8 hP hD hS => ?_)
  obtain ⟨hF9, hM⟩ := hwn8
  have hF := hF.tr hF9
  obtain ⟨vn8, Fn8, hM, hQ, hkp⟩ := MP.writ (20, nI c9, 0) rfl (fun _ => rfl) rfl hQ hkp (by omega) hM
  refine lv_goto (tgt := 242) hx hb dM_come_211 (by decide) ?_
  exact x_vret hx hb hr hlk hK hP hD hS dM_come_242 ⟨hF, _, _, hM, hkp, in_R hc9 rfl hQ⟩

set_option maxHeartbeats 4000000 in
set_option maxRecDepth 100000 in
theorem cM_come_8 (l : Launch) (D : va_G) (tys : List (ClassId × FieldType)) (A : Nat → Prop) (ws : va_W) (cI : ClassId) (hI : tys[0]? = some (cI, .int)) (ad : Nat → Nat) (km : Nat) (v : Nat → Int32) (F : Nat → Nat → Int32) (cs : List Nat) (i : Nat) (S : List Mu) (O : List Tok) (op : Nat → Int32) (hQ : MP cs i S O op (-1) v F) (y : Int32) (c9 : Nat) (hc9 : c9 < 26) (hSl : S.length ≤ 100) (hOl : O.length ≤ 100) (hM : ModF cI ad ws km v F) : x_Mv l yM_come wM_come (xR 6) D xCl tys A [.ref (ad km), .int 8, .int y, .int (nI c9)] ws (fun ws1 => x_fr km (km + 24) ws ws1 ∧ ∃ v9 F9, ModF cI ad ws1 km v9 F9 ∧ kpR v F v9 F9 ∧ MPr cs (mst (spT cs 0) (8, y, nI c9) i S O op) v9 F9) := by
  have hF : x_fr km (km + 24) ws ws := x_fr.rf
  have hkp : kpR v F v F := kpR.rf
  have hk := hQ.k
  refine x_enter (by decide) rfl (Nat.le_of_ble_eq_true rfl) (fun p e s m args below meth c ls hx hb hr hlk hml hown hnm hts hK hP hD hS hA hN hl => ?_)
  have hl : lv_has ls 5 [(0, .ref (ad km)), (1, .int 8), (2, .int y), (3, .int (nI c9))] := hl
  refine lv_iload_n hx hb dM_come_0 rfl (lv_at hl 1 rfl) ?_
  refine lv_tableIn (tgt := 214) hx hb dM_come_1 (by decide) (by decide) rfl (by decide) ?_
  refine lv_aload_n hx hb dM_come_214 rfl (lv_at hl 0 rfl) ?_
  refine va_get (D := D) (cl := xCl) (ci := 7) (v := .ref (ad (km + 10))) (C := rnM) (T := tbM) (N := 39) hx hb hts inM hown hK hP km hM.1 rfl 17 (by decide) (hts _ tw_634) (fun _ h9 => h9) rfl dM_come_215 ?_
  refine lv_iload_n hx hb dM_come_218 rfl (lv_at hl 3 rfl) ?_
  refine lv_dup2_11 hx hb dM_come_219 rfl rfl ?_
  refine va_iald hx hb hK hP (km + 10) 0 (hM.a 10 26 rfl (by omega) (by omega)) hI (vp_in_nI (by omega) (by omega)) dM_come_220 ?_
  refine lv_topi (fun v_1 ev_1 => ?_)
  refine lv_iconst (v := 1) hx hb dM_come_221 (by decide) ?_
  refine lv_isub hx hb dM_come_222 ?_
  refine lv_topi (fun v_2 ev_2 => ?_)
  refine va_iast hx hb hK hP hD hS (km + 10) 0 (hM.a 10 26 rfl (by omega) (by omega)) hI (vp_in_nI (by omega) (by omega)) dM_come_223 (fun H locs hP hD hS => ?_)
  obtain ⟨ws_4, hu_3, hP, hD⟩ := x_gen (hM.a 10 26 rfl (by omega) (by omega)) hP hD
  have hM : ModF cI ad ws_4 km v (setF F 10 ((upd (F 10) ((nI c9)).toNatClampNeg v_2))) := hM.arr 10 26 rfl (by omega) (by omega) hu_3
  have hF := hF.tr (hu_3.fr (a := km) (b := km + 24) (by omega) (by omega))
  have hx9 : v_2 = op c9 - 1 := by rw [ev_2, ev_1, nI_clamp (by omega), hQ.2.2.2.2.1 c9 hc9]
  rw [hx9, nI_clamp (by omega)] at hM
  obtain ⟨Fq5, hM, hQ, hkp⟩ := hQ.opn hkp hM
  refine lv_aload_n hx hb dM_come_224 rfl (lv_at hl 0 rfl) ?_
  refine lv_bipush (v := 21) hx hb dM_come_225 (by decide) ?_
  refine lv_iload_n hx hb dM_come_227 rfl (lv_at hl 3 rfl) ?_
  refine lv_iconst (v := 0) hx hb dM_come_228 (by decide) ?_
  refine x_callv (x_runV (n := 3) (As := [.int 21, .int (nI c9), .int 0]) (rest := []) ⟨hx, hb, hml, hown, hts⟩ (cM_write l D tys A ws_4 cI hI ad km v Fq5 O.length hQ.2.2.2.1.1 (by omega) 21 ((nI c9)) 0 hM) tw_813 tw_815 ts_M_write tw_8 tw_816 (by decide +kernel) rfl rfl ⟨by decide, by decide⟩ ⟨Nat.zero_le _, Nat.zero_le _⟩ (va_recv hK hP (ci := 7) (q0 := km) rfl hM.1) hK hP hD hS hA hN rfl hl.1 rfl (lv_room (Nat.le_of_ble_eq_true rfl)) dM_come_229) hS (fun ws_7 H locs hwn6 hP hD hS => ?_)
  obtain ⟨hF9, hM⟩ := hwn6
  have hF := hF.tr hF9
  obtain ⟨vn6, Fn6, hM, hQ, hkp⟩ := MP.writ (21, nI c9, 0) rfl (fun _ => rfl) rfl hQ hkp (by omega) hM
  refine lv_goto (tgt := 242) hx hb dM_come_232 (by decide) ?_
  exact x_vret hx hb hr hlk hK hP hD hS dM_come_242 (by have e9 : mst (spT cs 0) (8, y, nI c9) i S O op = .inr (i, S, O ++ [(21, nI c9, 0)], upd op c9 (op c9 - 1)) := (by show Sum.inr (i, S, O ++ [(21, nI c9, 0)], upd op (nI c9).toNatClampNeg (op (nI c9).toNatClampNeg - 1)) = _; rw [nI_clamp (by omega)]); exact ⟨hF, _, _, hM, hkp, MPr.r e9 hQ⟩)

/-- come(what, deep, its) -/
theorem cM_come (l : Launch) (D : va_G) (tys : List (ClassId × FieldType)) (A : Nat → Prop) (ws : va_W) (cI : ClassId) (hI : tys[0]? = some (cI, .int)) (ad : Nat → Nat) (km : Nat) (v : Nat → Int32) (F : Nat → Nat → Int32) (cs : List Nat) (i : Nat) (S : List Mu) (O : List Tok) (op : Nat → Int32) (hQ : MP cs i S O op (-1) v F) (w y x : Int32) (hw : wfM (w, y, x)) (hSl : S.length ≤ 100) (hOl : O.length ≤ 100) (hM : ModF cI ad ws km v F) : x_Mv l yM_come wM_come (xR 6) D xCl tys A [.ref (ad km), .int w, .int y, .int x] ws (fun ws1 => x_fr km (km + 24) ws ws1 ∧ ∃ v9 F9, ModF cI ad ws1 km v9 F9 ∧ kpR v F v9 F9 ∧ MPr cs (mst (spT cs 0) (w, y, x) i S O op) v9 F9) := by
  replace hw : ((w = 1 ∨ w = 2 ∨ w = 3) ∧ (∃ e, e ≤ 12 ∧ y = nI e) ∧ x = 0) ∨ ((w = 4 ∧ ¬ x = 0) ∨ w = 5 ∨ w = 6) ∨ ((w = 7 ∨ w = 8) ∧ ∃ c, c < 26 ∧ x = nI c) := hw
  rcases hw with ⟨hw, ⟨e, he, rfl⟩, rfl⟩ | hw | ⟨hw, c, hc, rfl⟩
  · rcases hw with rfl | rfl | rfl
    · exact cM_come_1 l D tys A ws cI hI ad km v F cs i S O op hQ (nI e) hSl hOl hM
    · exact cM_come_2 l D tys A ws cI hI ad km v F cs i S O op hQ e he hSl hOl hM
    · exact cM_come_3 l D tys A ws cI hI ad km v F cs i S O op hQ (nI e) hSl hOl hM
  · rcases hw with ⟨rfl, hx⟩ | rfl | rfl
    · exact cM_come_4 l D tys A ws cI hI ad km v F cs i S O op hQ y x hx hSl hOl hM
    · exact cM_come_5 l D tys A ws cI hI ad km v F cs i S O op hQ y x hSl hOl hM
    · exact cM_come_6 l D tys A ws cI hI ad km v F cs i S O op hQ y x hSl hOl hM
  · rcases hw with rfl | rfl
    · exact cM_come_7 l D tys A ws cI hI ad km v F cs i S O op hQ y c hc hSl hOl hM
    · exact cM_come_8 l D tys A ws cI hI ad km v F cs i S O op hQ y c hc hSl hOl hM
