set_option maxHeartbeats 4000000 in
set_option maxRecDepth 100000 in
theorem cM_make_2 (l : Launch) (D : va_G) (tys : List (ClassId × FieldType)) (A : Nat → Prop) (ws : va_W) (cI : ClassId) (hI : tys[0]? = some (cI, .int)) (ad : Nat → Nat) (km : Nat) (v : Nat → Int32) (F : Nat → Nat → Int32) (n : Nat) (S : Nat → List Nat) (hS0 : MLs v F n S) (g : Gr) (hg : MGr g v F) (hn58 : n < 50) (n9 t9 : Nat) (hn9 : n9 < 60) (ht9l : t9 < g.length) (ht9 : gNo g n9 = nI t9) (hM : ModF cI ad ws km v F) : x_Mv l yM_make wM_make (xR 2) D xCl tys A [.ref (ad km), .int 2, .int (nI n9)] ws (fun ws1 => x_fr km (km + 24) ws ws1 ∧ ∃ v9 F9, ModF cI ad ws1 km v9 F9 ∧ MLs v9 F9 (n + 1) (updJ S n [t9]) ∧ v9 30 = v 30 + nI [t9].length ∧ vk [28, 30] v v9 ∧ fk [14, 15] F F9) := by
  have hF : x_fr km (km + 24) ws ws := x_fr.rf
  obtain ⟨hv28, hn60, hSi⟩ := id hS0
  have hgo := hg.1
  have hgl : g.length ≤ 30 := hgo.1
  refine x_enter (by decide) rfl (Nat.le_of_ble_eq_true rfl) (fun p e s m args below meth c ls hx hb hr hlk hml hown hnm hts hK hP hD hS hA hN hl => ?_)
  have hl : lv_has ls 4 [(0, .ref (ad km)), (1, .int 2), (2, .int (nI n9))] := hl
  refine lv_aload_n hx hb dM_make_0 rfl (lv_at hl 0 rfl) ?_
  refine x_callv (x_runV (n := 0) (As := []) (rest := []) ⟨hx, hb, hml, hown, hts⟩ (cM_begin l D tys A ws cI hI ad km v F n S hS0 (by omega) hM) tw_833 tw_835 ts_M_begin tw_8 tw_836 (by decide +kernel) rfl rfl ⟨by decide, by decide⟩ ⟨Nat.zero_le _, Nat.zero_le _⟩ (va_recv hK hP (ci := 7) (q0 := km) rfl hM.1) hK hP hD hS hA hN rfl hl.1 rfl (lv_room (Nat.le_of_ble_eq_true rfl)) dM_make_1) hS (fun ws_1 H locs hbe hP hD hS => ?_)
  obtain ⟨hF9, v1, F1, hM, hS1, hvk, hfk⟩ := hbe
  have hF := hF.tr hF9
  refine lv_iload_n hx hb dM_make_4 rfl (lv_at hl 1 rfl) ?_
  refine lv_iconst (v := 2) hx hb dM_make_5 (by decide) ?_
  refine lv_icmp_ne (tgt := 28) hx hb dM_make_6 (by decide) (fun c6 => ?_) (fun c6 => ?_)
  · exact absurd rfl c6
  · have hg1 : MGr g v1 F1 := hg.c2 (hvk 1 (by simp)) (hfk 1 (by simp)) (hfk 2 (by simp)) (hfk 3 (by simp)) (hfk 4 (by simp)) (hfk 5 (by simp))
    have hcap : ([] : List Nat).length < 30 := by decide
    have ht30 : t9 < 30 := by omega
    refine lv_aload_n hx hb dM_make_9 rfl (lv_at hl 0 rfl) ?_
    refine lv_aload_n hx hb dM_make_10 rfl (lv_at hl 0 rfl) ?_
    refine lv_iload_n hx hb dM_make_11 rfl (lv_at hl 2 rfl) ?_
    refine lv_bipush (v := 10) hx hb dM_make_12 (by decide) ?_
    refine lv_idiv hx hb dM_make_14 (by decide) ?_
    refine lv_topi (fun v_2 ev_2 => ?_)
    obtain rfl : v_2 = nI (n9 / 10) := by rw [ev_2, show (10 : Int32) = nI 10 from rfl, pk_div (by omega) (by omega) (by omega)]
    refine lv_iload_n hx hb dM_make_15 rfl (lv_at hl 2 rfl) ?_
    refine lv_bipush (v := 10) hx hb dM_make_16 (by decide) ?_
    refine lv_irem hx hb dM_make_18 (by decide) ?_
    refine lv_topi (fun v_3 ev_3 => ?_)
    obtain rfl : v_3 = nI (n9 % 10) := by rw [ev_3, show (10 : Int32) = nI 10 from rfl, pk_rem (by omega) (by omega) (by omega)]
    refine x_calli (x_runV (n := 2) (As := [.int (nI (n9 / 10)), .int (nI (n9 % 10))]) (rest := [.ref (ad km)]) ⟨hx, hb, hml, hown, hts⟩ (cM_find l D tys A ws_1 cI hI ad km v1 F1 g hg1 (n9 / 10) (n9 % 10) (by omega) (by omega) hM) tw_739 tw_741 ts_M_find tw_8 tw_742 (by decide +kernel) rfl rfl ⟨by decide, by decide⟩ ⟨Nat.zero_le _, Nat.zero_le _⟩ (va_recv hK hP (ci := 7) (q0 := km) rfl hM.1) hK hP hD hS hA hN rfl hl.1 rfl (lv_room (Nat.le_of_ble_eq_true rfl)) dM_make_19) hS (fun rfi ws_4 H locs hfi hP hD hS => ?_)
    obtain ⟨hfi, rfl⟩ := hfi
    obtain rfl : rfi = nI t9 := by rw [hfi, show n9 / 10 * 10 + n9 % 10 = n9 by omega]; exact ht9
    refine x_callv (x_runV (n := 1) (As := [.int (nI t9)]) (rest := []) ⟨hx, hb, hml, hown, hts⟩ (cM_add l D tys A ws_1 cI hI ad km v1 F1 (n + 1) (updJ S n []) hS1 t9 (by omega) (by omega) (by rw [show (n + 1) - 1 = n by omega, updJ_s]; exact hcap) hM) tw_837 tw_839 ts_M_add tw_8 tw_840 (by decide +kernel) rfl rfl ⟨by decide, by decide⟩ ⟨Nat.zero_le _, Nat.zero_le _⟩ (va_recv hK hP (ci := 7) (q0 := km) rfl hM.1) hK hP hD hS hA hN rfl hl.1 rfl (lv_room (Nat.le_of_ble_eq_true rfl)) dM_make_22) hS (fun ws_5 H locs had hP hD hS => ?_)
    obtain ⟨hF9, v2, F2, hM, hS2, hvk2, hfk2⟩ := had
    have hF := hF.tr hF9
    rw [show (n + 1) - 1 = n by omega, updJ_s, updJ_2] at hS2
    have hvk3 := hvk.tr hvk2
    have hfk3 := hfk.tr hfk2
    refine lv_goto (tgt := 62) hx hb dM_make_25 (by decide) ?_
    refine lv_aload_n hx hb dM_make_62 rfl (lv_at hl 0 rfl) ?_
    refine lv_dup hx hb dM_make_63 rfl ?_
    refine va_get (D := D) (cl := xCl) (ci := 7) (v := .int (v2 30)) (C := rnM) (T := tbM) (N := 39) hx hb hts inM hown hK hP km hM.1 rfl 30 (by decide) (hts _ tw_647) (fun _ h9 => h9) rfl dM_make_64 ?_
    refine lv_aload_n hx hb dM_make_67 rfl (lv_at hl 0 rfl) ?_
    refine va_get (D := D) (cl := xCl) (ci := 7) (v := .ref (ad (km + 15))) (C := rnM) (T := tbM) (N := 39) hx hb hts inM hown hK hP km hM.1 rfl 24 (by decide) (hts _ tw_641) (fun _ h9 => h9) rfl dM_make_68 ?_
    refine lv_aload_n hx hb dM_make_71 rfl (lv_at hl 0 rfl) ?_
    refine va_get (D := D) (cl := xCl) (ci := 7) (v := .int (v2 28)) (C := rnM) (T := tbM) (N := 39) hx hb hts inM hown hK hP km hM.1 rfl 28 (by decide) (hts _ tw_645) (fun _ h9 => h9) rfl dM_make_72 ?_
    refine lv_iconst (v := 1) hx hb dM_make_75 (by decide) ?_
    refine lv_isub hx hb dM_make_76 ?_
    refine lv_topi (fun v_6 ev_6 => ?_)
    obtain rfl : v_6 = nI n := by rw [ev_6, hS2.1, show (1 : Int32) = nI 1 from rfl, pk_sub (by omega), show n + 1 - 1 = n by omega]
    refine va_iald hx hb hK hP (km + 15) 0 (hM.a 15 60 rfl (by omega) (by omega)) hI (vp_in_nI (by omega) (by omega)) dM_make_77 ?_
    refine lv_topi (fun v_7 ev_7 => ?_)
    have hsz := (hS2.2.2 n (by omega)).2.1
    rw [updJ_s] at hsz
    obtain rfl : v_7 = nI [t9].length := by rw [ev_7, nI_clamp (by omega)]; exact hsz
    refine lv_iadd hx hb dM_make_78 ?_
    refine lv_topi (fun v_8 ev_8 => ?_)
    refine va_put (D := D) (cl := xCl) (ci := 7) (v := .int v_8) (ty := .int) (C := rnM) (T := tbM) (N := 39) hx hb hts inM tyM toM nmM hown hK hP hD hS km hM.1 rfl 30 (by decide) (hts _ tw_647) (fun _ h9 => h9) rfl (by decide +kernel) rfl rfl (Nat.le_of_ble_eq_true rfl) dM_make_79 (fun H locs hP hD hS => ?_)
    obtain ⟨ws_10, hu_9, hP, hD⟩ := x_gen hM.1 hP hD
    have hM : ModF cI ad ws_10 km (setV v2 30 v_8) F2 := hM.fld_30 hu_9
    have hF := hF.tr (hu_9.fr (a := km) (b := km + 24) (by omega) (by omega))
    exact x_vret hx hb hr hlk hK hP hD hS dM_make_82 ⟨hF, _, _, hM, hS2.c2 rfl rfl rfl, (by show v_8 = _; rw [ev_8]; show v2 30 + _ = _; rw [hvk3 30 (by simp)]), (hvk3.wd (by simp)).tr (vk_s (by simp)), hfk3⟩

set_option maxHeartbeats 4000000 in
set_option maxRecDepth 100000 in
theorem cM_make_3 (l : Launch) (D : va_G) (tys : List (ClassId × FieldType)) (A : Nat → Prop) (ws : va_W) (cI : ClassId) (hI : tys[0]? = some (cI, .int)) (ad : Nat → Nat) (km : Nat) (v : Nat → Int32) (F : Nat → Nat → Int32) (n : Nat) (S : Nat → List Nat) (hS0 : MLs v F n S) (ls9 : List Nat) (B : Nat → List Nat) (hB0 : MBs v F ls9 B) (hn58 : n < 50) (c9 s9 : Nat) (hc9 : c9 < 26) (hs9 : s9 < ls9.length) (hlix : lix ls9 c9 = nI s9) (hM : ModF cI ad ws km v F) : x_Mv l yM_make wM_make (xR 2) D xCl tys A [.ref (ad km), .int 3, .int (nI c9)] ws (fun ws1 => x_fr km (km + 24) ws ws1 ∧ ∃ v9 F9, ModF cI ad ws1 km v9 F9 ∧ MLs v9 F9 (n + 1) (updJ S n (B s9)) ∧ v9 30 = v 30 + nI (B s9).length ∧ vk [28, 30] v v9 ∧ fk [14, 15] F F9) := by
  have hF : x_fr km (km + 24) ws ws := x_fr.rf
  obtain ⟨hv28, hn60, hSi⟩ := id hS0
  refine x_enter (by decide) rfl (Nat.le_of_ble_eq_true rfl) (fun p e s m args below meth c ls hx hb hr hlk hml hown hnm hts hK hP hD hS hA hN hl => ?_)
  have hl : lv_has ls 4 [(0, .ref (ad km)), (1, .int 3), (2, .int (nI c9))] := hl
  refine lv_aload_n hx hb dM_make_0 rfl (lv_at hl 0 rfl) ?_
  refine x_callv (x_runV (n := 0) (As := []) (rest := []) ⟨hx, hb, hml, hown, hts⟩ (cM_begin l D tys A ws cI hI ad km v F n S hS0 (by omega) hM) tw_833 tw_835 ts_M_begin tw_8 tw_836 (by decide +kernel) rfl rfl ⟨by decide, by decide⟩ ⟨Nat.zero_le _, Nat.zero_le _⟩ (va_recv hK hP (ci := 7) (q0 := km) rfl hM.1) hK hP hD hS hA hN rfl hl.1 rfl (lv_room (Nat.le_of_ble_eq_true rfl)) dM_make_1) hS (fun ws_1 H locs hbe hP hD hS => ?_)
  obtain ⟨hF9, v1, F1, hM, hS1, hvk, hfk⟩ := hbe
  have hF := hF.tr hF9
  refine lv_iload_n hx hb dM_make_4 rfl (lv_at hl 1 rfl) ?_
  refine lv_iconst (v := 2) hx hb dM_make_5 (by decide) ?_
  refine lv_icmp_ne (tgt := 28) hx hb dM_make_6 (by decide) (fun c6 => ?_) (fun c6 => ?_)
  · refine lv_iload_n hx hb dM_make_28 rfl (lv_at hl 1 rfl) ?_
    refine lv_iconst (v := 3) hx hb dM_make_29 (by decide) ?_
    refine lv_icmp_ne (tgt := 41) hx hb dM_make_30 (by decide) (fun c30 => ?_) (fun c30 => ?_)
    · exact absurd rfl c30
    · refine lv_aload_n hx hb dM_make_33 rfl (lv_at hl 0 rfl) ?_
      refine lv_iload_n hx hb dM_make_34 rfl (lv_at hl 2 rfl) ?_
      refine x_callv (x_runV (n := 1) (As := [.int (nI c9)]) (rest := []) ⟨hx, hb, hml, hown, hts⟩ (cM_recall l D tys A ws_1 cI hI ad km v1 F1 (n + 1) (updJ S n []) hS1 ls9 B (hB0.c2 (hvk 29 (by simp)) (hfk 16 (by simp)) (hfk 17 (by simp)) (hfk 18 (by simp))) c9 s9 hc9 hs9 hlix (by omega) (by rw [show n + 1 - 1 = n by omega, updJ_s]) hM) tw_841 tw_843 ts_M_recall tw_8 tw_844 (by decide +kernel) rfl rfl ⟨by decide, by decide⟩ ⟨Nat.zero_le _, Nat.zero_le _⟩ (va_recv hK hP (ci := 7) (q0 := km) rfl hM.1) hK hP hD hS hA hN rfl hl.1 rfl (lv_room (Nat.le_of_ble_eq_true rfl)) dM_make_35) hS (fun ws_2 H locs hrc hP hD hS => ?_)
      obtain ⟨hF9, v2, F2, hM, hS2, hvk2, hfk2⟩ := hrc
      have hF := hF.tr hF9
      rw [show n + 1 - 1 = n by omega, updJ_2] at hS2
      have hvk3 := hvk.tr hvk2
      have hfk3 := hfk.tr hfk2
      refine lv_goto (tgt := 62) hx hb dM_make_38 (by decide) ?_
      refine lv_aload_n hx hb dM_make_62 rfl (lv_at hl 0 rfl) ?_
      refine lv_dup hx hb dM_make_63 rfl ?_
      refine va_get (D := D) (cl := xCl) (ci := 7) (v := .int (v2 30)) (C := rnM) (T := tbM) (N := 39) hx hb hts inM hown hK hP km hM.1 rfl 30 (by decide) (hts _ tw_647) (fun _ h9 => h9) rfl dM_make_64 ?_
      refine lv_aload_n hx hb dM_make_67 rfl (lv_at hl 0 rfl) ?_
      refine va_get (D := D) (cl := xCl) (ci := 7) (v := .ref (ad (km + 15))) (C := rnM) (T := tbM) (N := 39) hx hb hts inM hown hK hP km hM.1 rfl 24 (by decide) (hts _ tw_641) (fun _ h9 => h9) rfl dM_make_68 ?_
      refine lv_aload_n hx hb dM_make_71 rfl (lv_at hl 0 rfl) ?_
      refine va_get (D := D) (cl := xCl) (ci := 7) (v := .int (v2 28)) (C := rnM) (T := tbM) (N := 39) hx hb hts inM hown hK hP km hM.1 rfl 28 (by decide) (hts _ tw_645) (fun _ h9 => h9) rfl dM_make_72 ?_
      refine lv_iconst (v := 1) hx hb dM_make_75 (by decide) ?_
      refine lv_isub hx hb dM_make_76 ?_
      refine lv_topi (fun v_3 ev_3 => ?_)
      obtain rfl : v_3 = nI n := by rw [ev_3, hS2.1, show (1 : Int32) = nI 1 from rfl, pk_sub (by omega), show n + 1 - 1 = n by omega]
      refine va_iald hx hb hK hP (km + 15) 0 (hM.a 15 60 rfl (by omega) (by omega)) hI (vp_in_nI (by omega) (by omega)) dM_make_77 ?_
      refine lv_topi (fun v_4 ev_4 => ?_)
      have hsz := (hS2.2.2 n (by omega)).2.1
      rw [updJ_s] at hsz
      obtain rfl : v_4 = nI (B s9).length := by rw [ev_4, nI_clamp (by omega)]; exact hsz
      refine lv_iadd hx hb dM_make_78 ?_
      refine lv_topi (fun v_5 ev_5 => ?_)
      refine va_put (D := D) (cl := xCl) (ci := 7) (v := .int v_5) (ty := .int) (C := rnM) (T := tbM) (N := 39) hx hb hts inM tyM toM nmM hown hK hP hD hS km hM.1 rfl 30 (by decide) (hts _ tw_647) (fun _ h9 => h9) rfl (by decide +kernel) rfl rfl (Nat.le_of_ble_eq_true rfl) dM_make_79 (fun H locs hP hD hS => ?_)
      obtain ⟨ws_7, hu_6, hP, hD⟩ := x_gen hM.1 hP hD
      have hM : ModF cI ad ws_7 km (setV v2 30 v_5) F2 := hM.fld_30 hu_6
      have hF := hF.tr (hu_6.fr (a := km) (b := km + 24) (by omega) (by omega))
      exact x_vret hx hb hr hlk hK hP hD hS dM_make_82 ⟨hF, _, _, hM, hS2.c2 rfl rfl rfl, (by show v_5 = _; rw [ev_5]; show v2 30 + _ = _; rw [hvk3 30 (by simp)]), (hvk3.wd (by simp)).tr (vk_s (by simp)), hfk3⟩
  · exact absurd c6 (by decide)

set_option maxHeartbeats 4000000 in
set_option maxRecDepth 100000 in
theorem cM_make_5 (l : Launch) (D : va_G) (tys : List (ClassId × FieldType)) (A : Nat → Prop) (ws : va_W) (cI : ClassId) (hI : tys[0]? = some (cI, .int)) (ad : Nat → Nat) (km : Nat) (v : Nat → Int32) (F : Nat → Nat → Int32) (n : Nat) (S : Nat → List Nat) (hS0 : MLs v F n S) (g : Gr) (hg : MGr g v F) (hn58 : n < 50) (it9 : Int32) (hM : ModF cI ad ws km v F) : x_Mv l yM_make wM_make (xR 2) D xCl tys A [.ref (ad km), .int 5, .int it9] ws (fun ws1 => x_fr km (km + 24) ws ws1 ∧ ∃ v9 F9, ModF cI ad ws1 km v9 F9 ∧ MLs v9 F9 (n + 1) (updJ S n (List.range g.length)) ∧ v9 30 = v 30 + nI (List.range g.length).length ∧ vk [28, 30] v v9 ∧ fk [14, 15] F F9) := by
  have hF : x_fr km (km + 24) ws ws := x_fr.rf
  obtain ⟨hv28, hn60, hSi⟩ := id hS0
  have hgo := hg.1
  have hgl : g.length ≤ 30 := hgo.1
  refine x_enter (by decide) rfl (Nat.le_of_ble_eq_true rfl) (fun p e s m args below meth c ls hx hb hr hlk hml hown hnm hts hK hP hD hS hA hN hl => ?_)
  have hl : lv_has ls 4 [(0, .ref (ad km)), (1, .int 5), (2, .int it9)] := hl
  have loop_43 : ∀ (fu9 : Nat) (i : Nat) (v1 : Nat → Int32) (F1 : Nat → Nat → Int32) (ws1 : va_W) (H : Heap) (locs : List Loc) (ls : Array Slot), x_fr km (km + 24) ws ws1 → ModF cI ad ws1 km v1 F1 → vk [28] v v1 → fk [14, 15] F F1 → i ≤ g.length → MLs v1 F1 (n + 1) (updJ S n (List.range i)) → g.length - i < fu9 → va_P D xCl ws1 H → va_D A ws1 → va_S A s.heap H locs → lv_has ls 4 [(0, .ref (ad km)), (1, .int 5), (2, .int it9), (3, .int (nI i))] → W p l e (xR 2) s m args below meth c H locs 0 0 (MQ below (va_Qv (fun ws1 => x_fr km (km + 24) ws ws1 ∧ ∃ v9 F9, ModF cI ad ws1 km v9 F9 ∧ MLs v9 F9 (n + 1) (updJ S n (List.range g.length)) ∧ v9 30 = v 30 + nI (List.range g.length).length ∧ vk [28, 30] v v9 ∧ fk [14, 15] F F9) (x_B D xCl tys A) A) args s 0 0 A) (F0 m 43 ls []) := by
    intro fu9
    induction fu9 with
    | zero => intro i v1 F1 ws1 H locs ls hF hM hvk hfk hi hS1 hme; exact absurd hme (Nat.not_lt_zero _)
    | succ fu9 ih =>
      intro i v1 F1 ws1 H locs ls hF hM hvk hfk hi hS1 hme hP hD hS hl
      have hg1 : MGr g v1 F1 := hg.c2 (hvk 1 (by simp)) (hfk 1 (by simp)) (hfk 2 (by simp)) (hfk 3 (by simp)) (hfk 4 (by simp)) (hfk 5 (by simp))
      refine lv_iload_n hx hb dM_make_43 rfl (lv_at hl 3 rfl) ?_
      refine lv_aload_n hx hb dM_make_44 rfl (lv_at hl 0 rfl) ?_
      refine va_get (D := D) (cl := xCl) (ci := 7) (v := .int (v1 1)) (C := rnM) (T := tbM) (N := 39) hx hb hts inM hown hK hP km hM.1 rfl 1 (by decide) (hts _ tw_618) (fun _ h9 => h9) rfl dM_make_45 ?_
      refine lv_icmp_ge (tgt := 62) hx hb dM_make_48 (by decide) (fun c48 => ?_) (fun c48 => ?_)
      · have hiz : i = g.length := by rw [hg1.2.1, nI_leI (by omega) (by omega)] at c48; omega
        rw [hiz] at hS1
        refine lv_aload_n hx hb dM_make_62 rfl (lv_at hl 0 rfl) ?_
        refine lv_dup hx hb dM_make_63 rfl ?_
        refine va_get (D := D) (cl := xCl) (ci := 7) (v := .int (v1 30)) (C := rnM) (T := tbM) (N := 39) hx hb hts inM hown hK hP km hM.1 rfl 30 (by decide) (hts _ tw_647) (fun _ h9 => h9) rfl dM_make_64 ?_
        refine lv_aload_n hx hb dM_make_67 rfl (lv_at hl 0 rfl) ?_
        refine va_get (D := D) (cl := xCl) (ci := 7) (v := .ref (ad (km + 15))) (C := rnM) (T := tbM) (N := 39) hx hb hts inM hown hK hP km hM.1 rfl 24 (by decide) (hts _ tw_641) (fun _ h9 => h9) rfl dM_make_68 ?_
        refine lv_aload_n hx hb dM_make_71 rfl (lv_at hl 0 rfl) ?_
        refine va_get (D := D) (cl := xCl) (ci := 7) (v := .int (v1 28)) (C := rnM) (T := tbM) (N := 39) hx hb hts inM hown hK hP km hM.1 rfl 28 (by decide) (hts _ tw_645) (fun _ h9 => h9) rfl dM_make_72 ?_
        refine lv_iconst (v := 1) hx hb dM_make_75 (by decide) ?_
        refine lv_isub hx hb dM_make_76 ?_
        refine lv_topi (fun v_1 ev_1 => ?_)
        obtain rfl : v_1 = nI n := by rw [ev_1, hS1.1, show (1 : Int32) = nI 1 from rfl, pk_sub (by omega), show n + 1 - 1 = n by omega]
        refine va_iald hx hb hK hP (km + 15) 0 (hM.a 15 60 rfl (by omega) (by omega)) hI (vp_in_nI (by omega) (by omega)) dM_make_77 ?_
        refine lv_topi (fun v_2 ev_2 => ?_)
        have hsz := (hS1.2.2 n (by omega)).2.1
        rw [updJ_s] at hsz
        obtain rfl : v_2 = nI (List.range g.length).length := by rw [ev_2, nI_clamp (by omega)]; exact hsz
        refine lv_iadd hx hb dM_make_78 ?_
        refine lv_topi (fun v_3 ev_3 => ?_)
        refine va_put (D := D) (cl := xCl) (ci := 7) (v := .int v_3) (ty := .int) (C := rnM) (T := tbM) (N := 39) hx hb hts inM tyM toM nmM hown hK hP hD hS km hM.1 rfl 30 (by decide) (hts _ tw_647) (fun _ h9 => h9) rfl (by decide +kernel) rfl rfl (Nat.le_of_ble_eq_true rfl) dM_make_79 (fun H locs hP hD hS => ?_)
        obtain ⟨ws_5, hu_4, hP, hD⟩ := x_gen hM.1 hP hD
        have hM : ModF cI ad ws_5 km (setV v1 30 v_3) F1 := hM.fld_30 hu_4
        have hF := hF.tr (hu_4.fr (a := km) (b := km + 24) (by omega) (by omega))
        exact x_vret hx hb hr hlk hK hP hD hS dM_make_82 ⟨hF, _, _, hM, hS1.c2 rfl rfl rfl, (by show v_3 = _; rw [ev_3]; show v1 30 + _ = _; rw [hvk 30 (by simp)]), (hvk.wd (by simp)).tr (vk_s (by simp)), hfk⟩
      · have hi2 : i < g.length := by rw [hg1.2.1, nI_leI (by omega) (by omega)] at c48; omega
        have hcap : (List.range i).length < 30 := by rw [List.length_range]; omega
        refine lv_aload_n hx hb dM_make_51 rfl (lv_at hl 0 rfl) ?_
        refine lv_iload_n hx hb dM_make_52 rfl (lv_at hl 3 rfl) ?_
        refine x_callv (x_runV (n := 1) (As := [.int (nI i)]) (rest := []) ⟨hx, hb, hml, hown, hts⟩ (cM_add l D tys A ws1 cI hI ad km v1 F1 (n + 1) (updJ S n (List.range i)) hS1 i (by omega) (by omega) (by rw [show (n + 1) - 1 = n by omega, updJ_s]; exact hcap) hM) tw_837 tw_839 ts_M_add tw_8 tw_840 (by decide +kernel) rfl rfl ⟨by decide, by decide⟩ ⟨Nat.zero_le _, Nat.zero_le _⟩ (va_recv hK hP (ci := 7) (q0 := km) rfl hM.1) hK hP hD hS hA hN rfl hl.1 rfl (lv_room (Nat.le_of_ble_eq_true rfl)) dM_make_53) hS (fun ws_6 H locs had hP hD hS => ?_)
        obtain ⟨hF9, v2, F2, hM, hS2, hvk2, hfk2⟩ := had
        have hF := hF.tr hF9
        rw [show (n + 1) - 1 = n by omega, updJ_s, updJ_2] at hS2
        refine lv_iinc (v := (nI (i + 1))) (lv' := [(3, .int (nI (i + 1))), (0, .ref (ad km)), (1, .int 5), (2, .int it9)]) hx hb dM_make_56 hl (k := 3) rfl (nI_1 _) (by decide) rfl (fun ls hl => ?_)
        refine lv_goto (tgt := 43) hx hb dM_make_59 (by decide) ?_
        exact ih (i + 1) v2 F2 ws_6 _ _ _ hF hM (hvk.tr hvk2) (hfk.tr hfk2) (by omega) (by rw [List.range_succ]; exact hS2) (by omega) hP hD hS (lv_sub hl [1, 2, 3, 0] rfl)
  refine lv_aload_n hx hb dM_make_0 rfl (lv_at hl 0 rfl) ?_
  refine x_callv (x_runV (n := 0) (As := []) (rest := []) ⟨hx, hb, hml, hown, hts⟩ (cM_begin l D tys A ws cI hI ad km v F n S hS0 (by omega) hM) tw_833 tw_835 ts_M_begin tw_8 tw_836 (by decide +kernel) rfl rfl ⟨by decide, by decide⟩ ⟨Nat.zero_le _, Nat.zero_le _⟩ (va_recv hK hP (ci := 7) (q0 := km) rfl hM.1) hK hP hD hS hA hN rfl hl.1 rfl (lv_room (Nat.le_of_ble_eq_true rfl)) dM_make_1) hS (fun ws_7 H locs hbe hP hD hS => ?_)
  obtain ⟨hF9, v1, F1, hM, hS1, hvk, hfk⟩ := hbe
  have hF := hF.tr hF9
  refine lv_iload_n hx hb dM_make_4 rfl (lv_at hl 1 rfl) ?_
  refine lv_iconst (v := 2) hx hb dM_make_5 (by decide) ?_
  refine lv_icmp_ne (tgt := 28) hx hb dM_make_6 (by decide) (fun c6 => ?_) (fun c6 => ?_)
  · refine lv_iload_n hx hb dM_make_28 rfl (lv_at hl 1 rfl) ?_
    refine lv_iconst (v := 3) hx hb dM_make_29 (by decide) ?_
    refine lv_icmp_ne (tgt := 41) hx hb dM_make_30 (by decide) (fun c30 => ?_) (fun c30 => ?_)
    · refine lv_iconst (v := 0) hx hb dM_make_41 (by decide) ?_
      refine lv_istore_n (lv' := [(3, .int 0), (0, .ref (ad km)), (1, .int 5), (2, .int it9)]) hx hb dM_make_42 rfl hl (by decide) rfl (fun ls hl => ?_)
      exact loop_43 _ 0 v1 F1 ws_7 _ _ _ hF hM hvk hfk (Nat.zero_le _) hS1 (Nat.lt_succ_self _) hP hD hS (lv_sub hl [1, 2, 3, 0] rfl)
    · exact absurd c30 (by decide)
  · exact absurd c6 (by decide)

set_option maxHeartbeats 4000000 in
set_option maxRecDepth 100000 in
theorem cM_filter_9 (l : Launch) (D : va_G) (tys : List (ClassId × FieldType)) (A : Nat → Prop) (ws : va_W) (cI : ClassId) (hI : tys[0]? = some (cI, .int)) (ad : Nat → Nat) (km : Nat) (v : Nat → Int32) (F : Nat → Nat → Int32) (n : Nat) (S : Nat → List Nat) (hS0 : MLs v F n S) (g : Gr) (hg : MGr g v F) (hn1 : 1 ≤ n) (hn58 : n < 50) (hgr : gRow g (S (n - 1))) (it9 : Int32) (hM : ModF cI ad ws km v F) : x_Mv l yM_filter wM_filter (xR 3) D xCl tys A [.ref (ad km), .int 9, .int it9] ws (fun ws1 => x_fr km (km + 24) ws ws1 ∧ ∃ v9 F9, ModF cI ad ws1 km v9 F9 ∧ MLs v9 F9 n (updJ S (n - 1) ((S (n - 1)).filter (fun t => decide (t < g.length ∧ nI (gK g t) = it9)))) ∧ v9 30 = v 30 + nI ((S (n - 1)).filter (fun t => decide (t < g.length ∧ nI (gK g t) = it9))).length ∧ vk [28, 30] v v9 ∧ fk [14, 15, 20, 21] F F9) := by
  have hF : x_fr km (km + 24) ws ws := x_fr.rf
  obtain ⟨hv28, hn60, hSi⟩ := id hS0
  have hgo := hg.1
  have hgl : g.length ≤ 30 := hgo.1
  refine x_enter (by decide) rfl (Nat.le_of_ble_eq_true rfl) (fun p e s m args below meth c ls hx hb hr hlk hml hown hnm hts hK hP hD hS hA hN hl => ?_)
  have hl : lv_has ls 7 [(0, .ref (ad km)), (1, .int 9), (2, .int it9)] := hl
  have loop_20 : ∀ (fu9 : Nat) (i : Nat) (v1 : Nat → Int32) (F1 : Nat → Nat → Int32) (ws1 : va_W) (H : Heap) (locs : List Loc) (ls : Array Slot), x_fr km (km + 24) ws ws1 → ModF cI ad ws1 km v1 F1 → vk [28] v v1 → fk [14, 15] F F1 → i ≤ (S (n - 1)).length → (MLs v1 F1 (n + 1) (updJ S n (((S (n - 1)).take i).filter (fun t => decide (t < g.length ∧ nI (gK g t) = it9))))) → (S (n - 1)).length - i < fu9 → va_P D xCl ws1 H → va_D A ws1 → va_S A s.heap H locs → lv_has ls 7 [(0, .ref (ad km)), (1, .int 9), (2, .int it9), (3, .int (nI (n - 1))), (4, .int (nI i))] → W p l e (xR 3) s m args below meth c H locs 0 0 (MQ below (va_Qv (fun ws1 => x_fr km (km + 24) ws ws1 ∧ ∃ v9 F9, ModF cI ad ws1 km v9 F9 ∧ MLs v9 F9 n (updJ S (n - 1) ((S (n - 1)).filter (fun t => decide (t < g.length ∧ nI (gK g t) = it9)))) ∧ v9 30 = v 30 + nI ((S (n - 1)).filter (fun t => decide (t < g.length ∧ nI (gK g t) = it9))).length ∧ vk [28, 30] v v9 ∧ fk [14, 15, 20, 21] F F9) (x_B D xCl tys A) A) args s 0 0 A) (F0 m 20 ls []) := by
    intro fu9
    induction fu9 with
    | zero => intro i v1 F1 ws1 H locs ls hF hM hvk hfk hi hS1 hme; exact absurd hme (Nat.not_lt_zero _)
    | succ fu9 ih =>
      intro i v1 F1 ws1 H locs ls hF hM hvk hfk hi hS1 hme hP hD hS hl
      obtain ⟨hu28, hu60, hui⟩ := id hS1
      have huL := hui (n - 1) (by omega)
      rw [updJ_o9 (by omega)] at huL
      have huM := hui n (by omega)
      rw [updJ_s] at huM
      have hg1 : MGr g v1 F1 := hg.c2 (hvk 1 (by simp)) (hfk 1 (by simp)) (hfk 2 (by simp)) (hfk 3 (by simp)) (hfk 4 (by simp)) (hfk 5 (by simp))
      refine lv_iload hx hb dM_filter_20 (lv_at hl 4 rfl) ?_
      refine lv_aload_n hx hb dM_filter_22 rfl (lv_at hl 0 rfl) ?_
      refine va_get (D := D) (cl := xCl) (ci := 7) (v := .ref (ad (km + 15))) (C := rnM) (T := tbM) (N := 39) hx hb hts inM hown hK hP km hM.1 rfl 24 (by decide) (hts _ tw_641) (fun _ h9 => h9) rfl dM_filter_23 ?_
      refine lv_iload_n hx hb dM_filter_26 rfl (lv_at hl 3 rfl) ?_
      refine va_iald hx hb hK hP (km + 15) 0 (hM.a 15 60 rfl (by omega) (by omega)) hI (vp_in_nI (by omega) (by omega)) dM_filter_27 ?_
      refine lv_topi (fun v_1 ev_1 => ?_)
      obtain rfl : v_1 = nI (S (n - 1)).length := by rw [ev_1, nI_clamp (by omega)]; exact huL.2.1
      refine lv_icmp_ge (tgt := 74) hx hb dM_filter_28 (by decide) (fun c28 => ?_) (fun c28 => ?_)
      · refine lv_aload_n hx hb dM_filter_74 rfl (lv_at hl 0 rfl) ?_
        refine lv_iconst (v := 1) hx hb dM_filter_75 (by decide) ?_
        refine x_callv (x_runV (n := 1) (As := [.int 1]) (rest := []) ⟨hx, hb, hml, hown, hts⟩ (cM_replace l D tys A ws1 cI hI ad km v1 F1 (n + 1) (updJ S n (((S (n - 1)).take i).filter (fun t => decide (t < g.length ∧ nI (gK g t) = it9)))) hS1 1 (by omega) (by omega) hM) tw_853 tw_855 ts_M_replace tw_8 tw_856 (by decide +kernel) rfl rfl ⟨by decide, by decide⟩ ⟨Nat.zero_le _, Nat.zero_le _⟩ (va_recv hK hP (ci := 7) (q0 := km) rfl hM.1) hK hP hD hS hA hN rfl hl.1 rfl (lv_room (Nat.le_of_ble_eq_true rfl)) dM_filter_76) hS (fun ws_2 H locs hrp hP hD hS => ?_)
        obtain ⟨hF9, v9, F9, hM9, hS9, h30, hvk9, hfk9⟩ := hrp
        have hF := hF.tr hF9
        refine lv_goto (tgt := 253) hx hb dM_filter_79 (by decide) ?_
        exact x_vret hx hb hr hlk hK hP hD hS dM_filter_253 (by have htk : (S (n - 1)).take i = (S (n - 1)) := List.take_of_length_le (by rw [nI_leI (by omega) (by omega)] at c28; exact c28); rw [htk] at hS9 h30; rw [show (n + 1) - 1 - 1 + 1 = n by omega, show (n + 1) - 1 - 1 = n - 1 by omega, show (n + 1) - 1 = n by omega, updJ_s] at hS9; rw [show (n + 1) - 1 = n by omega, updJ_s] at h30; exact ⟨hF, _, _, hM9, hS9.cg (fun j hj => by by_cases z9 : j = n - 1; (rw [z9, updJ_s, updJ_s]); (rw [updJ_o9 z9, updJ_o9 z9, updJ_o9 (by omega)])), by rw [h30, hvk 30 (by simp)], (hvk.wd (by simp)).tr hvk9, (hfk.wd (by simp)).tr (hfk9.wd (by simp))⟩)
      · have hi2 : i < (S (n - 1)).length := by rw [nI_leI (by omega) (by omega)] at c28; omega
        have htl : (S (n - 1))[i] < g.length := hgr.2 _ (List.getElem_mem hi2)
        have hcap : (((S (n - 1)).take i).filter (fun t => decide (t < g.length ∧ nI (gK g t) = it9))).length < 30 := by have := flt_len (S (n - 1)) (fun t => decide (t < g.length ∧ nI (gK g t) = it9)) i; have := huL.1; omega
        refine lv_aload_n hx hb dM_filter_31 rfl (lv_at hl 0 rfl) ?_
        refine va_get (D := D) (cl := xCl) (ci := 7) (v := .ref (ad (km + 3))) (C := rnM) (T := tbM) (N := 39) hx hb hts inM hown hK hP km hM.1 rfl 4 (by decide) (hts _ tw_621) (fun _ h9 => h9) rfl dM_filter_32 ?_
        refine lv_aload_n hx hb dM_filter_35 rfl (lv_at hl 0 rfl) ?_
        refine va_get (D := D) (cl := xCl) (ci := 7) (v := .ref (ad (km + 14))) (C := rnM) (T := tbM) (N := 39) hx hb hts inM hown hK hP km hM.1 rfl 23 (by decide) (hts _ tw_640) (fun _ h9 => h9) rfl dM_filter_36 ?_
        refine lv_bipush (v := 30) hx hb dM_filter_39 (by decide) ?_
        refine lv_iload_n hx hb dM_filter_41 rfl (lv_at hl 3 rfl) ?_
        refine lv_imul hx hb dM_filter_42 ?_
        refine lv_topi (fun v_3 ev_3 => ?_)
        obtain rfl : v_3 = nI (30 * (n - 1)) := by rw [ev_3, show (30 : Int32) = nI 30 from rfl, pk_mul]
        refine lv_iload hx hb dM_filter_43 (lv_at hl 4 rfl) ?_
        refine lv_iadd hx hb dM_filter_45 ?_
        refine lv_topi (fun v_4 ev_4 => ?_)
        obtain rfl : v_4 = nI (30 * (n - 1) + i) := by rw [ev_4, nI_add]
        refine va_iald hx hb hK hP (km + 14) 0 (hM.a 14 1800 rfl (by omega) (by omega)) hI (vp_in_nI (by omega) (by omega)) dM_filter_46 ?_
        refine lv_topi (fun v_5 ev_5 => ?_)
        obtain rfl : v_5 = nI (S (n - 1))[i] := by rw [ev_5, nI_clamp (by omega)]; exact huL.2.2.2 i hi2
        refine va_iald hx hb hK hP (km + 3) 0 (hM.a 3 30 rfl (by omega) (by omega)) hI (vp_in_nI (by omega) (by omega)) dM_filter_47 ?_
        refine lv_topi (fun v_6 ev_6 => ?_)
        obtain rfl : v_6 = nI (gK g (S (n - 1))[i]) := by rw [ev_6, nI_clamp (by omega)]; exact (hg1.2.2.1 _ htl).2.2
        refine lv_iload_n hx hb dM_filter_48 rfl (lv_at hl 2 rfl) ?_
        refine lv_icmp_ne (tgt := 68) hx hb dM_filter_49 (by decide) (fun c49 => ?_) (fun c49 => ?_)
        · refine lv_iinc (v := (nI (i + 1))) (lv' := [(4, .int (nI (i + 1))), (0, .ref (ad km)), (1, .int 9), (2, .int it9), (3, .int (nI (n - 1)))]) hx hb dM_filter_68 hl (k := 4) rfl (nI_1 _) (by decide) rfl (fun ls hl => ?_)
          refine lv_goto (tgt := 20) hx hb dM_filter_71 (by decide) ?_
          exact ih (i + 1) v1 F1 ws1 _ _ _ hF hM hvk hfk (by omega) (by rw [flt_s hi2, if_neg (by rw [decide_eq_true_eq]; exact fun z9 => c49 z9.2), List.append_nil]; exact hS1) (by omega) hP hD hS (lv_sub hl [1, 2, 3, 4, 0] rfl)
        · refine lv_aload_n hx hb dM_filter_52 rfl (lv_at hl 0 rfl) ?_
          refine lv_aload_n hx hb dM_filter_53 rfl (lv_at hl 0 rfl) ?_
          refine va_get (D := D) (cl := xCl) (ci := 7) (v := .ref (ad (km + 14))) (C := rnM) (T := tbM) (N := 39) hx hb hts inM hown hK hP km hM.1 rfl 23 (by decide) (hts _ tw_640) (fun _ h9 => h9) rfl dM_filter_54 ?_
          refine lv_bipush (v := 30) hx hb dM_filter_57 (by decide) ?_
          refine lv_iload_n hx hb dM_filter_59 rfl (lv_at hl 3 rfl) ?_
          refine lv_imul hx hb dM_filter_60 ?_
          refine lv_topi (fun v_7 ev_7 => ?_)
          obtain rfl : v_7 = nI (30 * (n - 1)) := by rw [ev_7, show (30 : Int32) = nI 30 from rfl, pk_mul]
          refine lv_iload hx hb dM_filter_61 (lv_at hl 4 rfl) ?_
          refine lv_iadd hx hb dM_filter_63 ?_
          refine lv_topi (fun v_8 ev_8 => ?_)
          obtain rfl : v_8 = nI (30 * (n - 1) + i) := by rw [ev_8, nI_add]
          refine va_iald hx hb hK hP (km + 14) 0 (hM.a 14 1800 rfl (by omega) (by omega)) hI (vp_in_nI (by omega) (by omega)) dM_filter_64 ?_
          refine lv_topi (fun v_9 ev_9 => ?_)
          obtain rfl : v_9 = nI (S (n - 1))[i] := by rw [ev_9, nI_clamp (by omega)]; exact huL.2.2.2 i hi2
          refine x_callv (x_runV (n := 1) (As := [.int (nI (S (n - 1))[i])]) (rest := []) ⟨hx, hb, hml, hown, hts⟩ (cM_add l D tys A ws1 cI hI ad km v1 F1 (n + 1) (updJ S n (((S (n - 1)).take i).filter (fun t => decide (t < g.length ∧ nI (gK g t) = it9)))) hS1 (S (n - 1))[i] (by omega) (by omega) (by rw [show (n + 1) - 1 = n by omega, updJ_s]; exact hcap) hM) tw_837 tw_839 ts_M_add tw_8 tw_840 (by decide +kernel) rfl rfl ⟨by decide, by decide⟩ ⟨Nat.zero_le _, Nat.zero_le _⟩ (va_recv hK hP (ci := 7) (q0 := km) rfl hM.1) hK hP hD hS hA hN rfl hl.1 rfl (lv_room (Nat.le_of_ble_eq_true rfl)) dM_filter_65) hS (fun ws_10 H locs had hP hD hS => ?_)
          obtain ⟨hF9, v2, F2, hM, hS2, hvk2, hfk2⟩ := had
          have hF := hF.tr hF9
          rw [show (n + 1) - 1 = n by omega, updJ_s, updJ_2] at hS2
          refine lv_iinc (v := (nI (i + 1))) (lv' := [(4, .int (nI (i + 1))), (0, .ref (ad km)), (1, .int 9), (2, .int it9), (3, .int (nI (n - 1)))]) hx hb dM_filter_68 hl (k := 4) rfl (nI_1 _) (by decide) rfl (fun ls hl => ?_)
          refine lv_goto (tgt := 20) hx hb dM_filter_71 (by decide) ?_
          exact ih (i + 1) v2 F2 ws_10 _ _ _ hF hM (hvk.tr hvk2) (hfk.tr hfk2) (by omega) (by rw [flt_s hi2, if_pos (by rw [decide_eq_true_eq]; exact ⟨htl, c49⟩)]; exact hS2) (by omega) hP hD hS (lv_sub hl [1, 2, 3, 4, 0] rfl)
  refine lv_aload_n hx hb dM_filter_0 rfl (lv_at hl 0 rfl) ?_
  refine va_get (D := D) (cl := xCl) (ci := 7) (v := .int (v 28)) (C := rnM) (T := tbM) (N := 39) hx hb hts inM hown hK hP km hM.1 rfl 28 (by decide) (hts _ tw_645) (fun _ h9 => h9) rfl dM_filter_1 ?_
  refine lv_iconst (v := 1) hx hb dM_filter_4 (by decide) ?_
  refine lv_isub hx hb dM_filter_5 ?_
  refine lv_topi (fun v_11 ev_11 => ?_)
  obtain rfl : v_11 = nI (n - 1) := by rw [ev_11, hv28, show (1 : Int32) = nI 1 from rfl, pk_sub (by omega)]
  refine lv_istore_n (lv' := [(3, .int (nI (n - 1))), (0, .ref (ad km)), (1, .int 9), (2, .int it9)]) hx hb dM_filter_6 rfl hl (by decide) rfl (fun ls hl => ?_)
  refine lv_iload_n hx hb dM_filter_7 rfl (lv_at hl 2 rfl) ?_
  refine lv_bipush (v := 9) hx hb dM_filter_8 (by decide) ?_
  refine lv_icmp_ne (tgt := 82) hx hb dM_filter_10 (by decide) (fun c10 => ?_) (fun c10 => ?_)
  · exact absurd rfl c10
  · refine lv_aload_n hx hb dM_filter_13 rfl (lv_at hl 1 rfl) ?_
    refine x_callv (x_runV (n := 0) (As := []) (rest := []) ⟨hx, hb, hml, hown, hts⟩ (cM_begin l D tys A ws cI hI ad km v F n S hS0 (by omega) hM) tw_833 tw_835 ts_M_begin tw_8 tw_836 (by decide +kernel) rfl rfl ⟨by decide, by decide⟩ ⟨Nat.zero_le _, Nat.zero_le _⟩ (va_recv hK hP (ci := 7) (q0 := km) rfl hM.1) hK hP hD hS hA hN rfl hl.1 rfl (lv_room (Nat.le_of_ble_eq_true rfl)) dM_filter_14) hS (fun ws_12 H locs hbe hP hD hS => ?_)
    obtain ⟨hF9, v1, F1, hM, hS1, hvk, hfk⟩ := hbe
    have hF := hF.tr hF9
    refine lv_iconst (v := 0) hx hb dM_filter_17 (by decide) ?_
    refine lv_istore (lv' := [(4, .int 0), (3, .int (nI (n - 1))), (0, .ref (ad km)), (1, .int 9), (2, .int it9)]) hx hb dM_filter_18 hl (by decide) rfl (fun ls hl => ?_)
    exact loop_20 _ 0 v1 F1 ws_12 _ _ _ hF hM hvk hfk (Nat.zero_le _) (by rw [List.take_zero]; exact hS1) (Nat.lt_succ_self _) hP hD hS (lv_sub hl [2, 3, 4, 1, 0] rfl)
