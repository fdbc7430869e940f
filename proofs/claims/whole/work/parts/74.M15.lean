theorem MR.vf {q : QS} {v v1 : Nat → Int32} {F F1 : Nat → Nat → Int32} {a b : List Nat} (h : MR q v F) (hv : vk a v v1) (ha : ∀ j ∈ [1, 8, 34, 35, 36], j ∉ a) (hF : fk b F F1) (hb : ∀ j ∈ [1, 2, 3, 4, 5, 6, 19], j ∉ b) : MR q v1 F1 := by
  unfold MR MGr at h ⊢
  rw [hv 1 (ha 1 (by simp)), hv 8 (ha 8 (by simp)), hv 34 (ha 34 (by simp)), hv 35 (ha 35 (by simp)), hv 36 (ha 36 (by simp)), hF 1 (hb 1 (by simp)), hF 2 (hb 2 (by simp)), hF 3 (hb 3 (by simp)), hF 4 (hb 4 (by simp)), hF 5 (hb 5 (by simp)), hF 6 (hb 6 (by simp)), hF 19 (hb 19 (by simp))]
  exact h
theorem far_bq {g : Gr} (hg : GrOK g) {t o : Nat} (ht : t < g.length) {x0 : BX} (h0 : x0.1 = [t]) (h1 : ∀ u ∈ [t], x0.2.1 u = -1 ∧ x0.2.2 u = 0) : farN g t o 30 (-1) = if o ∈ (bq (nbB false g) 1000 30 0 x0).1 then (bq (nbB false g) 1000 30 0 x0).2.2 o else -1 := by
  have hnb : ∀ a u, u ∈ gD g a → u < 30 := fun a u hu => Nat.lt_of_lt_of_le (gD_lt hg a u hu) hg.1
  have hx : ∀ u ∈ x0.1, u < g.length := fun u hu => by rw [h0, List.mem_singleton] at hu; rw [hu]; exact ht
  have hB := BI.init (nb := gD g) (x := x0) (by rw [h0]; simp) (fun u hu => Nat.lt_of_lt_of_le (hx u hu) hg.1) (fun u hu => h1 u (by rw [← h0]; exact hu))
  rw [h0] at hB
  obtain ⟨lev, hB2⟩ := BI.run hnb 30 0 x0 _ hB (by omega)
  exact far_eq hB2 (bq_in (gD_lt hg) 30 0 x0 hx)

set_option maxHeartbeats 4000000 in
set_option maxRecDepth 100000 in
/-- far(t, other) -/
theorem cM_far (l : Launch) (D : va_G) (tys : List (ClassId × FieldType)) (A : Nat → Prop) (ws : va_W) (cI : ClassId) (hI : tys[0]? = some (cI, .int)) (ad : Nat → Nat) (km : Nat) (v : Nat → Int32) (F : Nat → Nat → Int32) (q : QS) (hR : MR q v F) (tt oo : Int32) (hM : ModF cI ad ws km v F) : x_Mi l yM_far wM_far (xR 3) D xCl tys A [.ref (ad km), .int tt, .int oo] ws (fun r ws1 => r = farS q.1 tt oo ∧ x_fr km (km + 24) ws ws1 ∧ ModelAt cI ad ws1 km q) := by
  have hF : x_fr km (km + 24) ws ws := x_fr.rf
  have hgl : q.1.length ≤ 30 := hR.1.1.1
  refine x_enter (by decide) rfl (Nat.le_of_ble_eq_true rfl) (fun p e s m args below meth c ls hx hb hr hlk hml hown hnm hts hK hP hD hS hA hN hl => ?_)
  have hl : lv_has ls 3 [(0, .ref (ad km)), (1, .int tt), (2, .int oo)] := hl
  refine lv_aload_n hx hb dM_far_0 rfl (lv_at hl 0 rfl) ?_
  refine lv_iconst (v := 0) hx hb dM_far_1 (by decide) ?_
  refine va_put (D := D) (cl := xCl) (ci := 7) (v := .int 0) (ty := .int) (C := rnM) (T := tbM) (N := 39) hx hb hts inM tyM toM nmM hown hK hP hD hS km hM.1 rfl 0 (by decide) (hts _ tw_617) (fun _ h9 => h9) rfl (by decide +kernel) rfl rfl (Nat.le_of_ble_eq_true rfl) dM_far_2 (fun H locs hP hD hS => ?_)
  obtain ⟨ws_2, hu_1, hP, hD⟩ := x_gen hM.1 hP hD
  have hM : ModF cI ad ws_2 km (setV v 0 0) F := hM.fld_0 hu_1
  have hF := hF.tr (hu_1.fr (a := km) (b := km + 24) (by omega) (by omega))
  refine lv_aload_n hx hb dM_far_5 rfl (lv_at hl 0 rfl) ?_
  refine lv_iload_n hx hb dM_far_6 rfl (lv_at hl 1 rfl) ?_
  refine x_calli (x_runV (n := 1) (As := [.int tt]) (rest := []) ⟨hx, hb, hml, hown, hts⟩ (cM_isTarget l D tys A ws_2 cI hI ad km (setV v 0 0) F q.1.length tt hR.1.2.1 hM) tw_747 tw_749 ts_M_isTarget tw_8 tw_750 (by decide +kernel) rfl rfl ⟨by decide, by decide⟩ ⟨Nat.zero_le _, Nat.zero_le _⟩ (va_recv hK hP (ci := 7) (q0 := km) rfl hM.1) hK hP hD hS hA hN rfl hl.1 rfl (lv_room (Nat.le_of_ble_eq_true rfl)) dM_far_7) hS (fun rb1 ws_3 H locs hb1 hP hD hS => ?_)
  obtain ⟨hb1, rfl⟩ := hb1
  refine lv_if_eq (tgt := 21) hx hb dM_far_10 (by decide) (fun c10 => ?_) (fun c10 => ?_)
  · refine lv_iconst (v := (-1)) hx hb dM_far_21 (by decide) ?_
    exact x_iret hx hb hr hlk hK hP hD hS dM_far_22 ⟨(if_neg (fun hc => blw_no (by omega) hb1 c10 hc.1)).symm, hF, _, _, hM, hR.vf (vk_s (a := [0]) (by simp)) (by decide) (fk.rf (a := [])) (by simp)⟩
  · refine lv_aload_n hx hb dM_far_13 rfl (lv_at hl 0 rfl) ?_
    refine lv_iload_n hx hb dM_far_14 rfl (lv_at hl 2 rfl) ?_
    refine x_calli (x_runV (n := 1) (As := [.int oo]) (rest := []) ⟨hx, hb, hml, hown, hts⟩ (cM_isTarget l D tys A ws_2 cI hI ad km (setV v 0 0) F q.1.length oo hR.1.2.1 hM) tw_747 tw_749 ts_M_isTarget tw_8 tw_750 (by decide +kernel) rfl rfl ⟨by decide, by decide⟩ ⟨Nat.zero_le _, Nat.zero_le _⟩ (va_recv hK hP (ci := 7) (q0 := km) rfl hM.1) hK hP hD hS hA hN rfl hl.1 rfl (lv_room (Nat.le_of_ble_eq_true rfl)) dM_far_15) hS (fun rb2 ws_4 H locs hb2 hP hD hS => ?_)
    obtain ⟨hb2, rfl⟩ := hb2
    refine lv_if_ne (tgt := 23) hx hb dM_far_18 (by decide) (fun c18 => ?_) (fun c18 => ?_)
    · obtain ⟨ta, hta, rfl⟩ := blw_of (by omega) hb1 c10
      obtain ⟨ob, hob, rfl⟩ := blw_of (by omega) hb2 c18
      refine lv_aload_n hx hb dM_far_23 rfl (lv_at hl 0 rfl) ?_
      refine lv_iconst (v := 0) hx hb dM_far_24 (by decide) ?_
      refine va_put (D := D) (cl := xCl) (ci := 7) (v := .int 0) (ty := .int) (C := rnM) (T := tbM) (N := 39) hx hb hts inM tyM toM nmM hown hK hP hD hS km hM.1 rfl 28 (by decide) (hts _ tw_645) (fun _ h9 => h9) rfl (by decide +kernel) rfl rfl (Nat.le_of_ble_eq_true rfl) dM_far_25 (fun H locs hP hD hS => ?_)
      obtain ⟨ws_6, hu_5, hP, hD⟩ := x_gen hM.1 hP hD
      have hM : ModF cI ad ws_6 km (setV (setV v 0 0) 28 0) F := hM.fld_28 hu_5
      have hF := hF.tr (hu_5.fr (a := km) (b := km + 24) (by omega) (by omega))
      refine lv_aload_n hx hb dM_far_28 rfl (lv_at hl 0 rfl) ?_
      have hSa : MLs (setV (setV v 0 0) 28 0) F 0 (fun _ => []) := ⟨rfl, by decide, fun i hi => absurd hi (Nat.not_lt_zero _)⟩
      refine x_callv (x_runV (n := 0) (As := []) (rest := []) ⟨hx, hb, hml, hown, hts⟩ (cM_begin l D tys A ws_6 cI hI ad km (setV (setV v 0 0) 28 0) F 0 (fun _ => []) hSa (by omega) hM) tw_833 tw_835 ts_M_begin tw_8 tw_836 (by decide +kernel) rfl rfl ⟨by decide, by decide⟩ ⟨Nat.zero_le _, Nat.zero_le _⟩ (va_recv hK hP (ci := 7) (q0 := km) rfl hM.1) hK hP hD hS hA hN rfl hl.1 rfl (lv_room (Nat.le_of_ble_eq_true rfl)) dM_far_29) hS (fun ws_7 H locs hbe hP hD hS => ?_)
      obtain ⟨hF9, v1, F1, hM, hSb, hvk1, hfk1⟩ := hbe
      have hF := hF.tr hF9
      refine lv_aload_n hx hb dM_far_32 rfl (lv_at hl 0 rfl) ?_
      refine lv_iload_n hx hb dM_far_33 rfl (lv_at hl 1 rfl) ?_
      refine x_callv (x_runV (n := 1) (As := [.int (nI ta)]) (rest := []) ⟨hx, hb, hml, hown, hts⟩ (cM_add l D tys A ws_7 cI hI ad km v1 F1 1 (updJ (fun _ => []) 0 []) hSb ta (by omega) (by omega) (by show ([] : List Nat).length < 30; decide) hM) tw_837 tw_839 ts_M_add tw_8 tw_840 (by decide +kernel) rfl rfl ⟨by decide, by decide⟩ ⟨Nat.zero_le _, Nat.zero_le _⟩ (va_recv hK hP (ci := 7) (q0 := km) rfl hM.1) hK hP hD hS hA hN rfl hl.1 rfl (lv_room (Nat.le_of_ble_eq_true rfl)) dM_far_34) hS (fun ws_8 H locs had hP hD hS => ?_)
      obtain ⟨hF9, v2, F2, hM, hSc, hvk2, hfk2⟩ := had
      have hF := hF.tr hF9
      rw [show 0 + 1 - 1 = 0 from rfl, updJ_s, updJ_2] at hSc
      have hg2 : MGr q.1 v2 F2 := hR.1.c2 (by rw [hvk2 1 (by simp), hvk1 1 (by simp)]; rfl) (by rw [hfk2 1 (by simp), hfk1 1 (by simp)]) (by rw [hfk2 2 (by simp), hfk1 2 (by simp)]) (by rw [hfk2 3 (by simp), hfk1 3 (by simp)]) (by rw [hfk2 4 (by simp), hfk1 4 (by simp)]) (by rw [hfk2 5 (by simp), hfk1 5 (by simp)])
      refine lv_aload_n hx hb dM_far_37 rfl (lv_at hl 0 rfl) ?_
      refine lv_iconst (v := 0) hx hb dM_far_38 (by decide) ?_
      refine lv_sipush (v := 1000) hx hb dM_far_39 (by decide) ?_
      refine x_callv (x_runV (n := 2) (As := [.int 0, .int 1000]) (rest := []) ⟨hx, hb, hml, hown, hts⟩ (cM_reach_f l D tys A ws_8 cI hI ad km v2 F2 1 (updJ (fun _ => []) 0 ([] ++ [ta])) hSc q.1 hg2 1000 (by omega) (by omega) ⟨by show [ta].Nodup; simp, fun u hu => by have hu : u ∈ [ta] := hu; rw [List.mem_singleton] at hu; rw [hu]; exact hta⟩ hM) tw_857 tw_859 ts_M_reach tw_8 tw_860 (by decide +kernel) rfl rfl ⟨by decide, by decide⟩ ⟨Nat.zero_le _, Nat.zero_le _⟩ (va_recv hK hP (ci := 7) (q0 := km) rfl hM.1) hK hP hD hS hA hN rfl hl.1 rfl (lv_room (Nat.le_of_ble_eq_true rfl)) dM_far_42) hS (fun ws_9 H locs hre hP hD hS => ?_)
      obtain ⟨hF9, v3, F3, x0, hM, hx0, hx1, hSd, h20, h21, hvk3, hfk3⟩ := hre
      have hF := hF.tr hF9
      refine lv_aload_n hx hb dM_far_45 rfl (lv_at hl 0 rfl) ?_
      refine lv_iconst (v := 0) hx hb dM_far_46 (by decide) ?_
      refine lv_iload_n hx hb dM_far_47 rfl (lv_at hl 2 rfl) ?_
      refine x_calli (x_runV (n := 2) (As := [.int 0, .int (nI ob)]) (rest := []) ⟨hx, hb, hml, hown, hts⟩ (cM_has l D tys A ws_9 cI hI ad km v3 F3 (1 + 1) (updJ (updJ (fun _ => []) 0 ([] ++ [ta])) 1 (bq (nbB false q.1) 1000 30 0 x0).1) hSd 0 ob (by omega) (by omega) hM) tw_861 tw_863 ts_M_has tw_8 tw_864 (by decide +kernel) rfl rfl ⟨by decide, by decide⟩ ⟨Nat.zero_le _, Nat.zero_le _⟩ (va_recv hK hP (ci := 7) (q0 := km) rfl hM.1) hK hP hD hS hA hN rfl hl.1 rfl (lv_room (Nat.le_of_ble_eq_true rfl)) dM_far_48) hS (fun rha ws_10 H locs hha hP hD hS => ?_)
      obtain ⟨hha, rfl⟩ := hha
      rw [show 1 + 1 - 1 - 0 = 1 from rfl, updJ_s] at hha
      refine lv_if_eq (tgt := 63) hx hb dM_far_51 (by decide) (fun c51 => ?_) (fun c51 => ?_)
      · refine lv_iconst (v := (-1)) hx hb dM_far_63 (by decide) ?_
        exact x_iret hx hb hr hlk hK hP hD hS dM_far_64 ⟨by rw [farS_nI hgl hta hob, far_bq hR.1.1 hta hx0 hx1, if_neg (of_decide_eq_false (b2i_0.mp (by rw [← hha]; exact c51)))], hF, _, _, hM, hR.vf (((vk_s (a := [0, 28]) (by simp)).tr (vk_s (by simp))).tr (((hvk1.wd (by simp)).tr (hvk2.wd (by simp))).tr (hvk3.wd (by simp)))) (by decide) ((hfk1.wd (b := [14, 15, 20, 21]) (by simp)).tr ((hfk2.wd (by simp)).tr hfk3)) (by decide)⟩
      · refine lv_aload_n hx hb dM_far_54 rfl (lv_at hl 0 rfl) ?_
        refine va_get (D := D) (cl := xCl) (ci := 7) (v := .ref (ad (km + 21))) (C := rnM) (T := tbM) (N := 39) hx hb hts inM hown hK hP km hM.1 rfl 33 (by decide) (hts _ tw_650) (fun _ h9 => h9) rfl dM_far_55 ?_
        refine lv_iload_n hx hb dM_far_58 rfl (lv_at hl 2 rfl) ?_
        refine va_iald hx hb hK hP (km + 21) 0 (hM.a 21 30 rfl (by omega) (by omega)) hI (vp_in_nI (by omega) (by omega)) dM_far_59 ?_
        refine lv_topi (fun v_11 ev_11 => ?_)
        refine lv_goto (tgt := 64) hx hb dM_far_60 (by decide) ?_
        exact x_iret hx hb hr hlk hK hP hD hS dM_far_64 ⟨by rw [farS_nI hgl hta hob, far_bq hR.1.1 hta hx0 hx1, if_pos (of_decide_eq_true (b2i_n0.mp (by rw [← hha]; exact c51))), ev_11, nI_clamp (by omega), h21], hF, _, _, hM, hR.vf (((vk_s (a := [0, 28]) (by simp)).tr (vk_s (by simp))).tr (((hvk1.wd (by simp)).tr (hvk2.wd (by simp))).tr (hvk3.wd (by simp)))) (by decide) ((hfk1.wd (b := [14, 15, 20, 21]) (by simp)).tr ((hfk2.wd (by simp)).tr hfk3)) (by decide)⟩
    · refine lv_iconst (v := (-1)) hx hb dM_far_21 (by decide) ?_
      exact x_iret hx hb hr hlk hK hP hD hS dM_far_22 ⟨(if_neg (fun hc => blw_no (by omega) hb2 c18 hc.2)).symm, hF, _, _, hM, hR.vf (vk_s (a := [0]) (by simp)) (by decide) (fk.rf (a := [])) (by simp)⟩

theorem snoc_of {w : List Nat} (h : 0 < w.length) : ∃ w0 h, w = w0 ++ [h] := by
  have hn : w ≠ [] := by intro e; rw [e] at h; exact absurd h (by decide)
  exact ⟨w.dropLast, w.getLast hn, (List.dropLast_concat_getLast hn).symm⟩
theorem take_mem {w : List Nat} {u j : Nat} (h : j < w.length) : (u ∈ w.take (j + 1)) ↔ (u ∈ w.take j ∨ w[j] = u) := by
  rw [List.take_succ_eq_append_getElem h, List.mem_append, List.mem_singleton]
  exact ⟨fun z => z.elim Or.inl (fun e => Or.inr e.symm), fun z => z.elim Or.inl (fun e => Or.inr e.symm)⟩
theorem nI_sgt {a : Nat} {s : Nat} (ha : a < 1000) (hs : s < 1000) : nI s < nI a ↔ s < a := nI_ltI (by omega) (by omega)

set_option maxHeartbeats 4000000 in
set_option maxRecDepth 100000 in
/-- ways(t, other, steps) -/
theorem cM_ways (l : Launch) (D : va_G) (tys : List (ClassId × FieldType)) (A : Nat → Prop) (ws : va_W) (cI : ClassId) (hI : tys[0]? = some (cI, .int)) (ad : Nat → Nat) (km : Nat) (v : Nat → Int32) (F : Nat → Nat → Int32) (q : QS) (hR : MR q v F) (tt oo st : Int32) (hM : ModF cI ad ws km v F) : x_Mi l yM_ways wM_ways (xR 1) D xCl tys A [.ref (ad km), .int tt, .int oo, .int st] ws (fun r ws1 => r = waysS q.1 tt oo st ∧ x_fr km (km + 24) ws ws1 ∧ ModelAt cI ad ws1 km q) := by
  have hF : x_fr km (km + 24) ws ws := x_fr.rf
  have hgl : q.1.length ≤ 30 := hR.1.1.1
  refine x_enter (by decide) rfl (Nat.le_of_ble_eq_true rfl) (fun p e s m args below meth c ls hx hb hr hlk hml hown hnm hts hK hP hD hS hA hN hl => ?_)
  have hl : lv_has ls 11 [(0, .ref (ad km)), (1, .int tt), (2, .int oo), (3, .int st)] := hl
  have loop_145 : ∀ (fu9 : Nat) (ta : Nat) (ob : Nat) (sn : Nat) (cnt : Nat) (w : List Nat) (u : Nat) (j : Nat) (mt : Int32) (F1 : Nat → Nat → Int32) (ws1 : va_W) (H : Heap) (locs : List Loc) (ls : Array Slot), x_fr km (km + 24) ws ws1 → ModF cI ad ws1 km (setV v 0 0) F1 → fk [22, 23] F F1 → (∀ (i : Nat) (h : i < w.length), F1 22 i = nI w[i]) → (∀ u ∈ w, u < q.1.length) → w.length ≤ sn + 1 → u < q.1.length → mt = b2i (decide (u ∈ w.take j)) → j ≤ w.length → sn ≤ 6 → w.length - j < fu9 → va_P D xCl ws1 H → va_D A ws1 → va_S A s.heap H locs → lv_has ls 11 [(0, .ref (ad km)), (1, .int (nI ta)), (2, .int (nI ob)), (3, .int (nI sn)), (4, .int (nI cnt)), (5, .int (nI w.length)), (8, .int (nI u)), (9, .int mt), (10, .int (nI j))] → (∀ (mt9 : Int32) (ws2 : va_W) (H2 : Heap) (locs2 : List Loc) (ls2 : Array Slot), ws1 = ws2 → mt9 = b2i (decide (u ∈ w)) → va_P D xCl ws2 H2 → va_D A ws2 → va_S A s.heap H2 locs2 → lv_has ls2 11 [(0, .ref (ad km)), (1, .int (nI ta)), (2, .int (nI ob)), (3, .int (nI sn)), (4, .int (nI cnt)), (5, .int (nI w.length)), (8, .int (nI u)), (9, .int mt9)] → W p l e (xR 1) s m args below meth c H2 locs2 0 0 (MQ below (va_Qi (fun r ws1 => r = waysS q.1 tt oo st ∧ x_fr km (km + 24) ws ws1 ∧ ModelAt cI ad ws1 km q) (x_B D xCl tys A) A) args s 0 0 A) (F0 m 182 ls2 [])) → W p l e (xR 1) s m args below meth c H locs 0 0 (MQ below (va_Qi (fun r ws1 => r = waysS q.1 tt oo st ∧ x_fr km (km + 24) ws ws1 ∧ ModelAt cI ad ws1 km q) (x_B D xCl tys A) A) args s 0 0 A) (F0 m 145 ls []) := by
    intro fu9
    induction fu9 with
    | zero => intro ta ob sn cnt w u j mt F1 ws1 H locs ls hF hM hfk hw hwl hw7 hu hmt hjw hsn hme; exact absurd hme (Nat.not_lt_zero _)
    | succ fu9 ih =>
      intro ta ob sn cnt w u j mt F1 ws1 H locs ls hF hM hfk hw hwl hw7 hu hmt hjw hsn hme hP hD hS hl K
      refine lv_iload hx hb dM_ways_145 (lv_at hl 8 rfl) ?_
      refine lv_iload hx hb dM_ways_147 (lv_at hl 5 rfl) ?_
      refine lv_icmp_ge (tgt := 182) hx hb dM_ways_149 (by decide) (fun c149 => ?_) (fun c149 => ?_)
      · exact K mt ws1 _ _ _ rfl (by have z9 : w.take j = w := List.take_of_length_le (by rw [nI_leI (by omega) (by omega)] at c149; exact c149); rw [z9] at hmt; exact hmt) hP hD hS (lv_sub hl [0, 1, 2, 3, 4, 5, 6, 7] rfl)
      · have hj2 : j < w.length := by rw [nI_leI (by omega) (by omega)] at c149; omega
        refine lv_iload hx hb dM_ways_152 (lv_at hl 7 rfl) ?_
        refine lv_if_ne (tgt := 169) hx hb dM_ways_154 (by decide) (fun c154 => ?_) (fun c154 => ?_)
        · refine lv_iconst (v := 1) hx hb dM_ways_169 (by decide) ?_
          refine lv_goto (tgt := 174) hx hb dM_ways_170 (by decide) ?_
          refine lv_istore (lv' := [(9, .int 1), (0, .ref (ad km)), (1, .int (nI ta)), (2, .int (nI ob)), (3, .int (nI sn)), (4, .int (nI cnt)), (5, .int (nI w.length)), (8, .int (nI u)), (10, .int (nI j))]) hx hb dM_ways_174 hl (by decide) rfl (fun ls hl => ?_)
          refine lv_iinc (v := (nI (j + 1))) (lv' := [(10, .int (nI (j + 1))), (9, .int 1), (0, .ref (ad km)), (1, .int (nI ta)), (2, .int (nI ob)), (3, .int (nI sn)), (4, .int (nI cnt)), (5, .int (nI w.length)), (8, .int (nI u))]) hx hb dM_ways_176 hl (k := 8) rfl (nI_1 _) (by decide) rfl (fun ls hl => ?_)
          refine lv_goto (tgt := 145) hx hb dM_ways_179 (by decide) ?_
          exact ih ta ob sn cnt w u (j + 1) 1 F1 ws1 _ _ _ hF hM hfk hw hwl hw7 hu (by rw [decide_eq_true ((take_mem hj2).mpr (Or.inl (of_decide_eq_true (b2i_n0.mp (by rw [← hmt]; exact c154)))))]; rfl) (by omega) hsn (by omega) hP hD hS (lv_sub hl [2, 3, 4, 5, 6, 7, 8, 1, 0] rfl) K
        · refine lv_aload_n hx hb dM_ways_157 rfl (lv_at hl 0 rfl) ?_
          refine va_get (D := D) (cl := xCl) (ci := 7) (v := .ref (ad (km + 22))) (C := rnM) (T := tbM) (N := 39) hx hb hts inM hown hK hP km hM.1 rfl 37 (by decide) (hts _ tw_654) (fun _ h9 => h9) rfl dM_ways_158 ?_
          refine lv_iload hx hb dM_ways_161 (lv_at hl 8 rfl) ?_
          refine va_iald hx hb hK hP (km + 22) 0 (hM.a 22 8 rfl (by omega) (by omega)) hI (vp_in_nI (by omega) (by omega)) dM_ways_163 ?_
          refine lv_topi (fun v_1 ev_1 => ?_)
          obtain rfl : v_1 = nI w[j] := by rw [ev_1, nI_clamp (by omega)]; exact hw j hj2
          refine lv_iload hx hb dM_ways_164 (lv_at hl 6 rfl) ?_
          refine lv_icmp_ne (tgt := 173) hx hb dM_ways_166 (by decide) (fun c166 => ?_) (fun c166 => ?_)
          · refine lv_iconst (v := 0) hx hb dM_ways_173 (by decide) ?_
            refine lv_istore (lv' := [(9, .int 0), (0, .ref (ad km)), (1, .int (nI ta)), (2, .int (nI ob)), (3, .int (nI sn)), (4, .int (nI cnt)), (5, .int (nI w.length)), (8, .int (nI u)), (10, .int (nI j))]) hx hb dM_ways_174 hl (by decide) rfl (fun ls hl => ?_)
            refine lv_iinc (v := (nI (j + 1))) (lv' := [(10, .int (nI (j + 1))), (9, .int 0), (0, .ref (ad km)), (1, .int (nI ta)), (2, .int (nI ob)), (3, .int (nI sn)), (4, .int (nI cnt)), (5, .int (nI w.length)), (8, .int (nI u))]) hx hb dM_ways_176 hl (k := 8) rfl (nI_1 _) (by decide) rfl (fun ls hl => ?_)
            refine lv_goto (tgt := 145) hx hb dM_ways_179 (by decide) ?_
            exact ih ta ob sn cnt w u (j + 1) 0 F1 ws1 _ _ _ hF hM hfk hw hwl hw7 hu (by rw [decide_eq_false (fun z9 => ((take_mem hj2).mp z9).elim (fun z8 => absurd (decide_eq_true z8) (by rw [show decide (u ∈ w.take j) = false from b2i_0.mp (by rw [← hmt]; exact c154)]; decide)) (fun z8 => c166 (by rw [z8])))]; rfl) (by omega) hsn (by omega) hP hD hS (lv_sub hl [2, 3, 4, 5, 6, 7, 8, 1, 0] rfl) K
          · refine lv_iconst (v := 1) hx hb dM_ways_169 (by decide) ?_
            refine lv_goto (tgt := 174) hx hb dM_ways_170 (by decide) ?_
            refine lv_istore (lv' := [(9, .int 1), (0, .ref (ad km)), (1, .int (nI ta)), (2, .int (nI ob)), (3, .int (nI sn)), (4, .int (nI cnt)), (5, .int (nI w.length)), (8, .int (nI u)), (10, .int (nI j))]) hx hb dM_ways_174 hl (by decide) rfl (fun ls hl => ?_)
            refine lv_iinc (v := (nI (j + 1))) (lv' := [(10, .int (nI (j + 1))), (9, .int 1), (0, .ref (ad km)), (1, .int (nI ta)), (2, .int (nI ob)), (3, .int (nI sn)), (4, .int (nI cnt)), (5, .int (nI w.length)), (8, .int (nI u))]) hx hb dM_ways_176 hl (k := 8) rfl (nI_1 _) (by decide) rfl (fun ls hl => ?_)
            refine lv_goto (tgt := 145) hx hb dM_ways_179 (by decide) ?_
            exact ih ta ob sn cnt w u (j + 1) 1 F1 ws1 _ _ _ hF hM hfk hw hwl hw7 hu (by rw [decide_eq_true ((take_mem hj2).mpr (Or.inr (by rw [nI_eq (by have := hwl _ (List.getElem_mem hj2); omega) (by omega)] at c166; exact c166)))]; rfl) (by omega) hsn (by omega) hP hD hS (lv_sub hl [2, 3, 4, 5, 6, 7, 8, 1, 0] rfl) K
  have loop_60 : ∀ (fu9 : Nat) (ta : Nat) (ob : Nat) (sn : Nat) (cnt : Nat) (w : List Nat) (nx : Nat → Nat) (F1 : Nat → Nat → Int32) (ws1 : va_W) (H : Heap) (locs : List Loc) (ls : Array Slot), ta < q.1.length → ob < q.1.length → sn ≤ 6 → ¬ ta = ob → waysS q.1 tt oo st = nI (cw q.1 ob sn [ta] ta) → x_fr km (km + 24) ws ws1 → ModF cI ad ws1 km (setV v 0 0) F1 → fk [22, 23] F F1 → (∀ (i : Nat) (h : i < w.length), F1 22 i = nI w[i]) → (∀ u ∈ w, u < q.1.length) → w.length ≤ sn + 1 → WI q.1 ob sn (cw q.1 ob sn [ta] ta) w nx cnt → (∀ i, i < w.length → F1 23 i = nI (nx i)) → (∀ i, i < w.length → nx i ≤ (gD q.1 (w.getD i 0)).length) → muT q.1 sn w nx w.length < fu9 → va_P D xCl ws1 H → va_D A ws1 → va_S A s.heap H locs → lv_has ls 11 [(0, .ref (ad km)), (1, .int (nI ta)), (2, .int (nI ob)), (3, .int (nI sn)), (4, .int (nI cnt)), (5, .int (nI w.length))] → W p l e (xR 1) s m args below meth c H locs 0 0 (MQ below (va_Qi (fun r ws1 => r = waysS q.1 tt oo st ∧ x_fr km (km + 24) ws ws1 ∧ ModelAt cI ad ws1 km q) (x_B D xCl tys A) A) args s 0 0 A) (F0 m 60 ls []) := by
    intro fu9
    induction fu9 with
    | zero => intro ta ob sn cnt w nx F1 ws1 H locs ls hta hob hsn hne hres hF hM hfk hw hwl hw7 hWI hnx hnx8 hme; exact absurd hme (Nat.not_lt_zero _)
    | succ fu9 ih =>
      intro ta ob sn cnt w nx F1 ws1 H locs ls hta hob hsn hne hres hF hM hfk hw hwl hw7 hWI hnx hnx8 hme hP hD hS hl
      refine lv_iload hx hb dM_ways_60 (lv_at hl 5 rfl) ?_
      refine lv_if_le (tgt := 225) hx hb dM_ways_62 (by decide) (fun c62 => ?_) (fun c62 => ?_)
      · refine lv_iload hx hb dM_ways_225 (lv_at hl 4 rfl) ?_
        exact x_iret hx hb hr hlk hK hP hD hS dM_ways_227 (by have z9 : w = [] := List.eq_nil_of_length_eq_zero (by rcases Nat.eq_zero_or_pos w.length with z8 | z8; exact z8; exact absurd c62 (nI_nle z8 (by omega))); subst z9; have z7 : cnt + 0 = cw q.1 ob sn [ta] ta := hWI; exact ⟨by rw [hres, ← z7]; rfl, hF, _, _, hM, hR.vf (vk_s (a := [0]) (by simp)) (by decide) hfk (by decide)⟩)
      · obtain ⟨w0, h, rfl⟩ := snoc_of (w := w) (by rcases Nat.eq_zero_or_pos w.length with z9 | z9; exact absurd (by rw [z9]; decide) c62; exact z9)
        have hlen : (w0 ++ [h]).length = w0.length + 1 := by rw [List.length_append]; rfl
        have hhl : h < q.1.length := hwl h (List.mem_append_right _ (List.mem_singleton.mpr rfl))
        have hwh : F1 22 w0.length = nI h := by rw [hw w0.length (by omega), List.getElem_append_right (Nat.le_refl _)]; simp
        have hnk := hnx w0.length (by omega)
        have hk8 := hnx8 w0.length (by omega)
        have hd8 := (hR.1.1.2.2.2 h).2.1
        have hgh : (w0 ++ [h]).getD w0.length 0 = h := by rw [List.getD_eq_getElem?_getD]; simp
        rw [hgh] at hk8
        refine lv_aload_n hx hb dM_ways_65 rfl (lv_at hl 0 rfl) ?_
        refine va_get (D := D) (cl := xCl) (ci := 7) (v := .ref (ad (km + 22))) (C := rnM) (T := tbM) (N := 39) hx hb hts inM hown hK hP km hM.1 rfl 37 (by decide) (hts _ tw_654) (fun _ h9 => h9) rfl dM_ways_66 ?_
        refine lv_iload hx hb dM_ways_69 (lv_at hl 5 rfl) ?_
        refine lv_iconst (v := 1) hx hb dM_ways_71 (by decide) ?_
        refine lv_isub hx hb dM_ways_72 ?_
        refine lv_topi (fun v_2 ev_2 => ?_)
        obtain rfl : v_2 = nI w0.length := by rw [ev_2, hlen]; exact nI_pred _
        refine va_iald hx hb hK hP (km + 22) 0 (hM.a 22 8 rfl (by omega) (by omega)) hI (vp_in_nI (by omega) (by omega)) dM_ways_73 ?_
        refine lv_topi (fun v_3 ev_3 => ?_)
        obtain rfl : v_3 = nI h := by rw [ev_3, nI_clamp (by omega)]; exact hwh
        refine lv_istore (lv' := [(6, .int (nI h)), (0, .ref (ad km)), (1, .int (nI ta)), (2, .int (nI ob)), (3, .int (nI sn)), (4, .int (nI cnt)), (5, .int (nI (w0 ++ [h]).length))]) hx hb dM_ways_74 hl (by decide) rfl (fun ls hl => ?_)
        refine lv_aload_n hx hb dM_ways_76 rfl (lv_at hl 1 rfl) ?_
        refine va_get (D := D) (cl := xCl) (ci := 7) (v := .ref (ad (km + 23))) (C := rnM) (T := tbM) (N := 39) hx hb hts inM hown hK hP km hM.1 rfl 38 (by decide) (hts _ tw_655) (fun _ h9 => h9) rfl dM_ways_77 ?_
        refine lv_iload hx hb dM_ways_80 (lv_at hl 6 rfl) ?_
        refine lv_iconst (v := 1) hx hb dM_ways_82 (by decide) ?_
        refine lv_isub hx hb dM_ways_83 ?_
        refine lv_topi (fun v_4 ev_4 => ?_)
        obtain rfl : v_4 = nI w0.length := by rw [ev_4, hlen]; exact nI_pred _
        refine va_iald hx hb hK hP (km + 23) 0 (hM.a 23 8 rfl (by omega) (by omega)) hI (vp_in_nI (by omega) (by omega)) dM_ways_84 ?_
        refine lv_topi (fun v_5 ev_5 => ?_)
        obtain rfl : v_5 = nI (nx w0.length) := by rw [ev_5, nI_clamp (by omega)]; exact hnk
        refine lv_istore (lv' := [(7, .int (nI (nx w0.length))), (6, .int (nI h)), (0, .ref (ad km)), (1, .int (nI ta)), (2, .int (nI ob)), (3, .int (nI sn)), (4, .int (nI cnt)), (5, .int (nI (w0 ++ [h]).length))]) hx hb dM_ways_85 hl (by decide) rfl (fun ls hl => ?_)
        refine lv_aload_n hx hb dM_ways_87 rfl (lv_at hl 2 rfl) ?_
        refine va_get (D := D) (cl := xCl) (ci := 7) (v := .ref (ad (km + 23))) (C := rnM) (T := tbM) (N := 39) hx hb hts inM hown hK hP km hM.1 rfl 38 (by decide) (hts _ tw_655) (fun _ h9 => h9) rfl dM_ways_88 ?_
        refine lv_iload hx hb dM_ways_91 (lv_at hl 7 rfl) ?_
        refine lv_iconst (v := 1) hx hb dM_ways_93 (by decide) ?_
        refine lv_isub hx hb dM_ways_94 ?_
        refine lv_topi (fun v_6 ev_6 => ?_)
        obtain rfl : v_6 = nI w0.length := by rw [ev_6, hlen]; exact nI_pred _
        refine lv_dup2_11 hx hb dM_ways_95 rfl rfl ?_
        refine va_iald hx hb hK hP (km + 23) 0 (hM.a 23 8 rfl (by omega) (by omega)) hI (vp_in_nI (by omega) (by omega)) dM_ways_96 ?_
        refine lv_topi (fun v_7 ev_7 => ?_)
        refine lv_iconst (v := 1) hx hb dM_ways_97 (by decide) ?_
        refine lv_iadd hx hb dM_ways_98 ?_
        refine lv_topi (fun v_8 ev_8 => ?_)
        obtain rfl : v_8 = nI ((nx w0.length) + 1) := by rw [ev_8, ev_7, nI_clamp (by omega), hnk, nI_1]
        refine va_iast hx hb hK hP hD hS (km + 23) 0 (hM.a 23 8 rfl (by omega) (by omega)) hI (vp_in_nI (by omega) (by omega)) dM_ways_99 (fun H locs hP hD hS => ?_)
        obtain ⟨ws_10, hu_9, hP, hD⟩ := x_gen (hM.a 23 8 rfl (by omega) (by omega)) hP hD
        have hM : ModF cI ad ws_10 km (setV v 0 0) (setF F1 23 ((upd (F1 23) ((nI w0.length)).toNatClampNeg ((nI ((nx w0.length) + 1)))))) := hM.arr 23 8 rfl (by omega) (by omega) hu_9
        have hF := hF.tr (hu_9.fr (a := km) (b := km + 24) (by omega) (by omega))
        obtain ⟨F3, hF3⟩ : ∃ y, y = (setF F1 23 ((upd (F1 23) ((nI w0.length)).toNatClampNeg ((nI ((nx w0.length) + 1)))))) := ⟨_, rfl⟩
        rw [← hF3] at hM
        have hfk3 : fk [22, 23] F F3 := by rw [hF3]; exact hfk.tr (fk_s (by simp))
        have h22 : F3 22 = F1 22 := by rw [hF3]; rfl
        have h23 : F3 23 = upd (F1 23) w0.length (nI (nx w0.length + 1)) := by rw [hF3]; show upd (F1 23) (nI w0.length).toNatClampNeg _ = _; rw [nI_clamp (by omega)]
        obtain ⟨nx3, en1, en2⟩ : ∃ nx3 : Nat → Nat, (∀ i, i < w0.length → nx3 i = nx i) ∧ nx3 w0.length = nx w0.length + 1 := ⟨fun i => if i = w0.length then nx w0.length + 1 else nx i, fun i hi => if_neg (by omega), if_pos rfl⟩
        have hw3 : ∀ (i : Nat) (h9 : i < (w0 ++ [h]).length), F3 22 i = nI (w0 ++ [h])[i] := by rw [h22]; exact hw
        have hnx3 : ∀ i, i < (w0 ++ [h]).length → F3 23 i = nI (nx3 i) := fun i hi => by rw [h23]; by_cases z9 : i = w0.length; (rw [z9, upd_s9, en2]); (rw [upd_o z9, en1 i (by omega)]; exact hnx i hi)
        refine lv_iload hx hb dM_ways_100 (lv_at hl 7 rfl) ?_
        refine lv_iload_n hx hb dM_ways_102 rfl (lv_at hl 5 rfl) ?_
        refine lv_icmp_gt (tgt := 118) hx hb dM_ways_103 (by decide) (fun c103 => ?_) (fun c103 => ?_)
        · obtain ⟨v_11, ev_11⟩ : ∃ y : Int32, y = (nI (w0 ++ [h]).length) + (-1) := ⟨_, rfl⟩
          refine lv_iinc (v := v_11) (lv' := [(5, .int v_11), (7, .int (nI (nx w0.length))), (6, .int (nI h)), (0, .ref (ad km)), (1, .int (nI ta)), (2, .int (nI ob)), (3, .int (nI sn)), (4, .int (nI cnt))]) hx hb dM_ways_118 hl (k := 7) rfl (by rw [ev_11]; rfl) (by decide) rfl (fun ls hl => ?_)
          have hpp := hWI.pop (nx2 := nx3) en1 (Or.inl (by rw [hlen, nI_ltI (by omega) (by omega)] at c103; exact c103))
          have hl : lv_has ls 11 [(5, .int (nI w0.length)), (7, .int (nI (nx w0.length))), (6, .int (nI h)), (0, .ref (ad km)), (1, .int (nI ta)), (2, .int (nI ob)), (3, .int (nI sn)), (4, .int (nI cnt))] := by have z9 : v_11 = nI w0.length := (by rw [ev_11, hlen]; exact pk_m1 _); rw [← z9]; exact hl
          refine lv_goto (tgt := 60) hx hb dM_ways_121 (by decide) ?_
          exact ih ta ob sn cnt w0 nx3 F3 ws_10 _ _ _ hta hob hsn hne hres hF hM hfk3 (fun i hi => by rw [hw3 i (by omega), List.getElem_append_left hi]) (fun u hu => hwl u (List.mem_append_left _ hu)) (by omega) hpp.1 (fun i hi => hnx3 i (by omega)) (fun i hi => by have z9 := hnx8 i (by omega); rw [getD_app hi] at z9; rw [en1 i hi]; exact z9) (by omega) hP hD hS (lv_sub hl [3, 4, 5, 6, 7, 0] rfl)
        · refine lv_iload hx hb dM_ways_106 (lv_at hl 0 rfl) ?_
          refine lv_aload_n hx hb dM_ways_108 rfl (lv_at hl 2 rfl) ?_
          refine va_get (D := D) (cl := xCl) (ci := 7) (v := .ref (ad (km + 4))) (C := rnM) (T := tbM) (N := 39) hx hb hts inM hown hK hP km hM.1 rfl 5 (by decide) (hts _ tw_622) (fun _ h9 => h9) rfl dM_ways_109 ?_
          refine lv_iload hx hb dM_ways_112 (lv_at hl 1 rfl) ?_
          refine va_iald hx hb hK hP (km + 4) 0 (hM.a 4 30 rfl (by omega) (by omega)) hI (vp_in_nI (by omega) (by omega)) dM_ways_114 ?_
          refine lv_topi (fun v_12 ev_12 => ?_)
          obtain rfl : v_12 = nI (gD q.1 h).length := by rw [ev_12, nI_clamp (by omega), hfk3 4 (by simp)]; exact hR.1.2.2.2.1 h (by omega)
          refine lv_icmp_ne (tgt := 124) hx hb dM_ways_115 (by decide) (fun c115 => ?_) (fun c115 => ?_)
          · have hkl : nx w0.length < (gD q.1 h).length := by have c115 : ¬ nI (nx w0.length) = nI (gD q.1 h).length := c115; rw [nI_eq (by omega) (by omega)] at c115; omega
            have hst9 : w0.length + 1 ≤ sn := by rw [hlen, nI_ltI (by omega) (by omega)] at c103; omega
            refine lv_aload_n hx hb dM_ways_124 rfl (lv_at hl 2 rfl) ?_
            refine va_get (D := D) (cl := xCl) (ci := 7) (v := .ref (ad (km + 5))) (C := rnM) (T := tbM) (N := 39) hx hb hts inM hown hK hP km hM.1 rfl 6 (by decide) (hts _ tw_623) (fun _ h9 => h9) rfl dM_ways_125 ?_
            refine lv_bipush (v := 8) hx hb dM_ways_128 (by decide) ?_
            refine lv_iload hx hb dM_ways_130 (lv_at hl 1 rfl) ?_
            refine lv_imul hx hb dM_ways_132 ?_
            refine lv_topi (fun v_13 ev_13 => ?_)
            obtain rfl : v_13 = nI (8 * h) := by rw [ev_13, show (8 : Int32) = nI 8 from rfl, pk_mul]
            refine lv_iload hx hb dM_ways_133 (lv_at hl 0 rfl) ?_
            refine lv_iadd hx hb dM_ways_135 ?_
            refine lv_topi (fun v_14 ev_14 => ?_)
            obtain rfl : v_14 = nI (8 * h + nx w0.length) := by rw [ev_14, nI_add]
            refine va_iald hx hb hK hP (km + 5) 0 (hM.a 5 240 rfl (by omega) (by omega)) hI (vp_in_nI (by omega) (by omega)) dM_ways_136 ?_
            refine lv_topi (fun v_15 ev_15 => ?_)
            obtain ⟨u, hu9⟩ : ∃ u, u = ((gD q.1 h).getD (nx w0.length) 0) := ⟨_, rfl⟩
            obtain rfl : v_15 = nI u := by rw [ev_15, nI_clamp (by omega), hfk3 5 (by simp), hu9]; exact hR.1.2.2.2.2 h _ (by omega) hkl
            have hul : u < q.1.length := by rw [hu9]; exact (hR.1.1.2.2.2 h).2.2 _ (getD_mem hkl)
            obtain ⟨hnw, hnm⟩ := WI.next (nx2 := nx3) hWI en1 en2 hst9 hkl
            rw [← hu9] at hnw
            refine lv_istore (lv' := [(8, .int (nI u)), (7, .int (nI (nx w0.length))), (6, .int (nI h)), (0, .ref (ad km)), (1, .int (nI ta)), (2, .int (nI ob)), (3, .int (nI sn)), (4, .int (nI cnt)), (5, .int (nI (w0 ++ [h]).length))]) hx hb dM_ways_137 hl (by decide) rfl (fun ls hl => ?_)
            refine lv_iconst (v := 0) hx hb dM_ways_139 (by decide) ?_
            refine lv_istore (lv' := [(9, .int 0), (8, .int (nI u)), (7, .int (nI (nx w0.length))), (6, .int (nI h)), (0, .ref (ad km)), (1, .int (nI ta)), (2, .int (nI ob)), (3, .int (nI sn)), (4, .int (nI cnt)), (5, .int (nI (w0 ++ [h]).length))]) hx hb dM_ways_140 hl (by decide) rfl (fun ls hl => ?_)
            refine lv_iconst (v := 0) hx hb dM_ways_142 (by decide) ?_
            refine lv_istore (lv' := [(10, .int 0), (9, .int 0), (8, .int (nI u)), (7, .int (nI (nx w0.length))), (6, .int (nI h)), (0, .ref (ad km)), (1, .int (nI ta)), (2, .int (nI ob)), (3, .int (nI sn)), (4, .int (nI cnt)), (5, .int (nI (w0 ++ [h]).length))]) hx hb dM_ways_143 hl (by decide) rfl (fun ls hl => ?_)
            refine loop_145 _ ta ob sn cnt (w0 ++ [h]) u 0 0 F3 ws_10 _ _ _ hF hM hfk3 hw3 hwl hw7 hul rfl (Nat.zero_le _) hsn (Nat.lt_succ_self _) hP hD hS (lv_sub hl [5, 6, 7, 8, 9, 10, 2, 1, 0] rfl) (fun mt9 ws_16 H locs ls hw2 hmt9 hP hD hS hl => ?_)
            obtain rfl := hw2
            obtain rfl := hmt9
            refine lv_iload hx hb dM_ways_182 (lv_at hl 7 rfl) ?_
            refine lv_if_eq (tgt := 190) hx hb dM_ways_184 (by decide) (fun c184 => ?_) (fun c184 => ?_)
            · refine lv_iload hx hb dM_ways_190 (lv_at hl 6 rfl) ?_
              refine lv_iload_n hx hb dM_ways_192 rfl (lv_at hl 2 rfl) ?_
              refine lv_icmp_ne (tgt := 202) hx hb dM_ways_193 (by decide) (fun c193 => ?_) (fun c193 => ?_)
              · refine lv_aload_n hx hb dM_ways_202 rfl (lv_at hl 0 rfl) ?_
                refine va_get (D := D) (cl := xCl) (ci := 7) (v := .ref (ad (km + 22))) (C := rnM) (T := tbM) (N := 39) hx hb hts inM hown hK hP km hM.1 rfl 37 (by decide) (hts _ tw_654) (fun _ h9 => h9) rfl dM_ways_203 ?_
                refine lv_iload hx hb dM_ways_206 (lv_at hl 5 rfl) ?_
                refine lv_iload hx hb dM_ways_208 (lv_at hl 6 rfl) ?_
                refine va_iast hx hb hK hP hD hS (km + 22) 0 (hM.a 22 8 rfl (by omega) (by omega)) hI (vp_in_nI (by omega) (by omega)) dM_ways_210 (fun H locs hP hD hS => ?_)
                obtain ⟨ws_18, hu_17, hP, hD⟩ := x_gen (hM.a 22 8 rfl (by omega) (by omega)) hP hD
                have hM : ModF cI ad ws_18 km (setV v 0 0) (setF F3 22 ((upd (F3 22) ((nI (w0 ++ [h]).length)).toNatClampNeg ((nI u))))) := hM.arr 22 8 rfl (by omega) (by omega) hu_17
                have hF := hF.tr (hu_17.fr (a := km) (b := km + 24) (by omega) (by omega))
                refine lv_aload_n hx hb dM_ways_211 rfl (lv_at hl 0 rfl) ?_
                refine va_get (D := D) (cl := xCl) (ci := 7) (v := .ref (ad (km + 23))) (C := rnM) (T := tbM) (N := 39) hx hb hts inM hown hK hP km hM.1 rfl 38 (by decide) (hts _ tw_655) (fun _ h9 => h9) rfl dM_ways_212 ?_
                refine lv_iload hx hb dM_ways_215 (lv_at hl 5 rfl) ?_
                refine lv_iconst (v := 0) hx hb dM_ways_217 (by decide) ?_
                refine va_iast hx hb hK hP hD hS (km + 23) 0 (hM.a 23 8 rfl (by omega) (by omega)) hI (vp_in_nI (by omega) (by omega)) dM_ways_218 (fun H locs hP hD hS => ?_)
                obtain ⟨ws_20, hu_19, hP, hD⟩ := x_gen (hM.a 23 8 rfl (by omega) (by omega)) hP hD
                have hM : ModF cI ad ws_20 km (setV v 0 0) (setF (setF F3 22 ((upd (F3 22) ((nI (w0 ++ [h]).length)).toNatClampNeg ((nI u))))) 23 ((upd (F3 23) ((nI (w0 ++ [h]).length)).toNatClampNeg 0))) := hM.arr 23 8 rfl (by omega) (by omega) hu_19
                have hF := hF.tr (hu_19.fr (a := km) (b := km + 24) (by omega) (by omega))
                have hl2 : (w0 ++ [h] ++ [u]).length = (w0 ++ [h]).length + 1 := by rw [List.length_append]; rfl
                obtain ⟨nx4, en3, en4⟩ : ∃ nx4 : Nat → Nat, (∀ i, i < (w0 ++ [h]).length → nx4 i = nx3 i) ∧ nx4 (w0 ++ [h]).length = 0 := ⟨fun i => if i = (w0 ++ [h]).length then 0 else nx3 i, fun i hi => if_neg (by omega), if_pos rfl⟩
                have hpu := WI.push (s := sn - (w0.length + 1)) (nx2 := nx4) hR.1.1 hnw (by rw [hlen]) (of_decide_eq_false (b2i_0.mp c184)) (fun z9 => c193 (by rw [z9])) (by omega) en3 en4
                have hw4 : ∀ (i : Nat) (h9 : i < (w0 ++ [h] ++ [u]).length), (setF (setF F3 22 ((upd (F3 22) ((nI (w0 ++ [h]).length)).toNatClampNeg ((nI u))))) 23 ((upd (F3 23) ((nI (w0 ++ [h]).length)).toNatClampNeg 0))) 22 i = nI (w0 ++ [h] ++ [u])[i] := fun i hi => by show upd (F3 22) (nI (w0 ++ [h]).length).toNatClampNeg (nI u) i = _; rw [nI_clamp (by omega)]; by_cases z9 : i = (w0 ++ [h]).length; (subst z9; rw [upd_s9, List.getElem_append_right (Nat.le_refl _)]; simp); (rw [upd_o z9, List.getElem_append_left (by omega)]; exact hw3 i (by omega))
                have hnx4 : ∀ i, i < (w0 ++ [h] ++ [u]).length → (setF (setF F3 22 ((upd (F3 22) ((nI (w0 ++ [h]).length)).toNatClampNeg ((nI u))))) 23 ((upd (F3 23) ((nI (w0 ++ [h]).length)).toNatClampNeg 0))) 23 i = nI (nx4 i) := fun i hi => by show upd (F3 23) (nI (w0 ++ [h]).length).toNatClampNeg 0 i = _; rw [nI_clamp (by omega)]; by_cases z9 : i = (w0 ++ [h]).length; (rw [z9, upd_s9, en4]; rfl); (rw [upd_o z9, en3 i (by omega)]; exact hnx3 i (by omega))
                have hn84 : ∀ i, i < (w0 ++ [h] ++ [u]).length → nx4 i ≤ (gD q.1 ((w0 ++ [h] ++ [u]).getD i 0)).length := fun i hi => by by_cases z9 : i = (w0 ++ [h]).length; (rw [z9, en4]; exact Nat.zero_le _); (rw [en3 i (by omega), getD_app (by omega)]; by_cases z8 : i = w0.length; (rw [z8, hgh, en2]; omega); (rw [en1 i (by omega)]; exact hnx8 i (by omega)))
                refine lv_iinc (v := (nI ((w0 ++ [h]).length + 1))) (lv' := [(5, .int (nI ((w0 ++ [h]).length + 1))), (0, .ref (ad km)), (1, .int (nI ta)), (2, .int (nI ob)), (3, .int (nI sn)), (4, .int (nI cnt)), (8, .int (nI u)), (9, .int (b2i (decide (u ∈ (w0 ++ [h])))))]) hx hb dM_ways_219 hl (k := 5) rfl (nI_1 _) (by decide) rfl (fun ls hl => ?_)
                have hl : lv_has ls 11 [(5, .int (nI (w0 ++ [h] ++ [u]).length)), (0, .ref (ad km)), (1, .int (nI ta)), (2, .int (nI ob)), (3, .int (nI sn)), (4, .int (nI cnt)), (8, .int (nI u)), (9, .int (b2i (decide (u ∈ (w0 ++ [h])))))] := by rw [hl2]; exact hl
                refine lv_goto (tgt := 60) hx hb dM_ways_222 (by decide) ?_
                exact ih ta ob sn cnt (w0 ++ [h] ++ [u]) nx4 (setF (setF F3 22 ((upd (F3 22) ((nI (w0 ++ [h]).length)).toNatClampNeg ((nI u))))) 23 ((upd (F3 23) ((nI (w0 ++ [h]).length)).toNatClampNeg 0))) ws_20 _ _ _ hta hob hsn hne hres hF hM (hfk3.tr ((fk_s (by simp)).tr (fk_s (by simp)))) hw4 (fun z9 hz9 => (List.mem_append.mp hz9).elim (hwl z9) (fun z8 => by rw [List.mem_singleton.mp z8]; exact hul)) (by rw [List.length_append, List.length_singleton]; omega) hpu.1 hnx4 hn84 (by omega) hP hD hS (lv_sub hl [1, 2, 3, 4, 5, 0] rfl)
              · refine lv_iinc (v := (nI (cnt + 1))) (lv' := [(4, .int (nI (cnt + 1))), (0, .ref (ad km)), (1, .int (nI ta)), (2, .int (nI ob)), (3, .int (nI sn)), (5, .int (nI (w0 ++ [h]).length)), (8, .int (nI u)), (9, .int (b2i (decide (u ∈ (w0 ++ [h])))))]) hx hb dM_ways_196 hl (k := 4) rfl (nI_1 _) (by decide) rfl (fun ls hl => ?_)
                refine lv_goto (tgt := 60) hx hb dM_ways_199 (by decide) ?_
                exact ih ta ob sn (cnt + 1) (w0 ++ [h]) nx3 F3 ws_10 _ _ _ hta hob hsn hne hres hF hM hfk3 hw3 hwl hw7 (by unfold cwU at hnw; rw [if_neg (of_decide_eq_false (b2i_0.mp c184)), if_pos (by rw [nI_eq (by omega) (by omega)] at c193; exact c193)] at hnw; exact hnw) hnx3 (fun i hi => by by_cases z9 : i = w0.length; (rw [z9, hgh, en2]; omega); (rw [en1 i (by omega)]; exact hnx8 i hi)) (by omega) hP hD hS (lv_sub hl [1, 2, 3, 4, 0, 5] rfl)
            · refine lv_goto (tgt := 60) hx hb dM_ways_187 (by decide) ?_
              exact ih ta ob sn cnt (w0 ++ [h]) nx3 F3 ws_10 _ _ _ hta hob hsn hne hres hF hM hfk3 hw3 hwl hw7 (by unfold cwU at hnw; rw [if_pos (of_decide_eq_true (b2i_n0.mp c184))] at hnw; exact hnw) hnx3 (fun i hi => by by_cases z9 : i = w0.length; (rw [z9, hgh, en2]; omega); (rw [en1 i (by omega)]; exact hnx8 i hi)) (by omega) hP hD hS (lv_sub hl [0, 1, 2, 3, 4, 5] rfl)
          · obtain ⟨v_21, ev_21⟩ : ∃ y : Int32, y = (nI (w0 ++ [h]).length) + (-1) := ⟨_, rfl⟩
            refine lv_iinc (v := v_21) (lv' := [(5, .int v_21), (7, .int (nI (nx w0.length))), (6, .int (nI h)), (0, .ref (ad km)), (1, .int (nI ta)), (2, .int (nI ob)), (3, .int (nI sn)), (4, .int (nI cnt))]) hx hb dM_ways_118 hl (k := 7) rfl (by rw [ev_21]; rfl) (by decide) rfl (fun ls hl => ?_)
            have hpp := hWI.pop (nx2 := nx3) en1 (Or.inr (by have c115 : nI (nx w0.length) = nI (gD q.1 h).length := c115; rw [nI_eq (by omega) (by omega)] at c115; omega))
            have hl : lv_has ls 11 [(5, .int (nI w0.length)), (7, .int (nI (nx w0.length))), (6, .int (nI h)), (0, .ref (ad km)), (1, .int (nI ta)), (2, .int (nI ob)), (3, .int (nI sn)), (4, .int (nI cnt))] := by have z9 : v_21 = nI w0.length := (by rw [ev_21, hlen]; exact pk_m1 _); rw [← z9]; exact hl
            refine lv_goto (tgt := 60) hx hb dM_ways_121 (by decide) ?_
            exact ih ta ob sn cnt w0 nx3 F3 ws_10 _ _ _ hta hob hsn hne hres hF hM hfk3 (fun i hi => by rw [hw3 i (by omega), List.getElem_append_left hi]) (fun u hu => hwl u (List.mem_append_left _ hu)) (by omega) hpp.1 (fun i hi => hnx3 i (by omega)) (fun i hi => by have z9 := hnx8 i (by omega); rw [getD_app hi] at z9; rw [en1 i hi]; exact z9) (by omega) hP hD hS (lv_sub hl [3, 4, 5, 6, 7, 0] rfl)
  refine lv_aload_n hx hb dM_ways_0 rfl (lv_at hl 0 rfl) ?_
  refine lv_iconst (v := 0) hx hb dM_ways_1 (by decide) ?_
  refine va_put (D := D) (cl := xCl) (ci := 7) (v := .int 0) (ty := .int) (C := rnM) (T := tbM) (N := 39) hx hb hts inM tyM toM nmM hown hK hP hD hS km hM.1 rfl 0 (by decide) (hts _ tw_617) (fun _ h9 => h9) rfl (by decide +kernel) rfl rfl (Nat.le_of_ble_eq_true rfl) dM_ways_2 (fun H locs hP hD hS => ?_)
  obtain ⟨ws_23, hu_22, hP, hD⟩ := x_gen hM.1 hP hD
  have hM : ModF cI ad ws_23 km (setV v 0 0) F := hM.fld_0 hu_22
  have hF := hF.tr (hu_22.fr (a := km) (b := km + 24) (by omega) (by omega))
  refine lv_aload_n hx hb dM_ways_5 rfl (lv_at hl 0 rfl) ?_
  refine lv_iload_n hx hb dM_ways_6 rfl (lv_at hl 1 rfl) ?_
  refine x_calli (x_runV (n := 1) (As := [.int tt]) (rest := []) ⟨hx, hb, hml, hown, hts⟩ (cM_isTarget l D tys A ws_23 cI hI ad km (setV v 0 0) F q.1.length tt hR.1.2.1 hM) tw_747 tw_749 ts_M_isTarget tw_8 tw_750 (by decide +kernel) rfl rfl ⟨by decide, by decide⟩ ⟨Nat.zero_le _, Nat.zero_le _⟩ (va_recv hK hP (ci := 7) (q0 := km) rfl hM.1) hK hP hD hS hA hN rfl hl.1 rfl (lv_room (Nat.le_of_ble_eq_true rfl)) dM_ways_7) hS (fun rb1 ws_24 H locs hb1 hP hD hS => ?_)
  obtain ⟨hb1, rfl⟩ := hb1
  refine lv_if_eq (tgt := 31) hx hb dM_ways_10 (by decide) (fun c10 => ?_) (fun c10 => ?_)
  · refine lv_iconst (v := (-1)) hx hb dM_ways_31 (by decide) ?_
    exact x_iret hx hb hr hlk hK hP hD hS dM_ways_32 ⟨(if_neg (fun hc => blw_no (by omega) hb1 c10 hc.1)).symm, hF, _, _, hM, hR.vf (vk_s (a := [0]) (by simp)) (by decide) (fk.rf (a := [])) (by simp)⟩
  · refine lv_aload_n hx hb dM_ways_13 rfl (lv_at hl 0 rfl) ?_
    refine lv_iload_n hx hb dM_ways_14 rfl (lv_at hl 2 rfl) ?_
    refine x_calli (x_runV (n := 1) (As := [.int oo]) (rest := []) ⟨hx, hb, hml, hown, hts⟩ (cM_isTarget l D tys A ws_23 cI hI ad km (setV v 0 0) F q.1.length oo hR.1.2.1 hM) tw_747 tw_749 ts_M_isTarget tw_8 tw_750 (by decide +kernel) rfl rfl ⟨by decide, by decide⟩ ⟨Nat.zero_le _, Nat.zero_le _⟩ (va_recv hK hP (ci := 7) (q0 := km) rfl hM.1) hK hP hD hS hA hN rfl hl.1 rfl (lv_room (Nat.le_of_ble_eq_true rfl)) dM_ways_15) hS (fun rb2 ws_25 H locs hb2 hP hD hS => ?_)
    obtain ⟨hb2, rfl⟩ := hb2
    refine lv_if_eq (tgt := 31) hx hb dM_ways_18 (by decide) (fun c18 => ?_) (fun c18 => ?_)
    · refine lv_iconst (v := (-1)) hx hb dM_ways_31 (by decide) ?_
      exact x_iret hx hb hr hlk hK hP hD hS dM_ways_32 ⟨(if_neg (fun hc => blw_no (by omega) hb2 c18 hc.2.1)).symm, hF, _, _, hM, hR.vf (vk_s (a := [0]) (by simp)) (by decide) (fk.rf (a := [])) (by simp)⟩
    · refine lv_iload_n hx hb dM_ways_21 rfl (lv_at hl 3 rfl) ?_
      refine lv_if_lt (tgt := 31) hx hb dM_ways_22 (by decide) (fun c22 => ?_) (fun c22 => ?_)
      · refine lv_iconst (v := (-1)) hx hb dM_ways_31 (by decide) ?_
        exact x_iret hx hb hr hlk hK hP hD hS dM_ways_32 ⟨(if_neg (fun hc => by rw [i32_lt, i32_0] at c22; have := hc.2.2.1; omega)).symm, hF, _, _, hM, hR.vf (vk_s (a := [0]) (by simp)) (by decide) (fk.rf (a := [])) (by simp)⟩
      · refine lv_iload_n hx hb dM_ways_25 rfl (lv_at hl 3 rfl) ?_
        refine lv_bipush (v := 6) hx hb dM_ways_26 (by decide) ?_
        refine lv_icmp_le (tgt := 33) hx hb dM_ways_28 (by decide) (fun c28 => ?_) (fun c28 => ?_)
        · obtain ⟨ta, hta, rfl⟩ := blw_of (by omega) hb1 c10
          obtain ⟨ob, hob, rfl⟩ := blw_of (by omega) hb2 c18
          obtain ⟨sn, hsn, rfl⟩ : ∃ j : Nat, j ≤ 6 ∧ st = nI j := nI_of2 (M := 6) rfl c22 c28
          refine lv_iload_n hx hb dM_ways_33 rfl (lv_at hl 1 rfl) ?_
          refine lv_iload_n hx hb dM_ways_34 rfl (lv_at hl 2 rfl) ?_
          refine lv_icmp_ne (tgt := 40) hx hb dM_ways_35 (by decide) (fun c35 => ?_) (fun c35 => ?_)
          · have hne : ¬ ta = ob := fun z9 => c35 (by rw [z9])
            have hres9 : waysS q.1 (nI ta) (nI ob) (nI sn) = nI (cw q.1 ob sn [ta] ta) := by rw [waysS_in hgl hta hob hsn, if_neg hne, ways_eq hR.1.1 (by omega) (by omega) hne]
            refine lv_iconst (v := 0) hx hb dM_ways_40 (by decide) ?_
            refine lv_istore (lv' := [(4, .int 0), (0, .ref (ad km)), (1, .int (nI ta)), (2, .int (nI ob)), (3, .int (nI sn))]) hx hb dM_ways_41 hl (by decide) rfl (fun ls hl => ?_)
            refine lv_iconst (v := 1) hx hb dM_ways_43 (by decide) ?_
            refine lv_istore (lv' := [(5, .int 1), (4, .int 0), (0, .ref (ad km)), (1, .int (nI ta)), (2, .int (nI ob)), (3, .int (nI sn))]) hx hb dM_ways_44 hl (by decide) rfl (fun ls hl => ?_)
            refine lv_aload_n hx hb dM_ways_46 rfl (lv_at hl 2 rfl) ?_
            refine va_get (D := D) (cl := xCl) (ci := 7) (v := .ref (ad (km + 22))) (C := rnM) (T := tbM) (N := 39) hx hb hts inM hown hK hP km hM.1 rfl 37 (by decide) (hts _ tw_654) (fun _ h9 => h9) rfl dM_ways_47 ?_
            refine lv_iconst (v := 0) hx hb dM_ways_50 (by decide) ?_
            refine lv_iload_n hx hb dM_ways_51 rfl (lv_at hl 3 rfl) ?_
            refine va_iast hx hb hK hP hD hS (km + 22) 0 (hM.a 22 8 rfl (by omega) (by omega)) hI (vp_in_nI (n := 0) (by omega) (by omega)) dM_ways_52 (fun H locs hP hD hS => ?_)
            obtain ⟨ws_27, hu_26, hP, hD⟩ := x_gen (hM.a 22 8 rfl (by omega) (by omega)) hP hD
            have hM : ModF cI ad ws_27 km (setV v 0 0) (setF F 22 ((upd (F 22) (0 : Int32).toNatClampNeg ((nI ta))))) := hM.arr 22 8 rfl (by omega) (by omega) hu_26
            have hF := hF.tr (hu_26.fr (a := km) (b := km + 24) (by omega) (by omega))
            refine lv_aload_n hx hb dM_ways_53 rfl (lv_at hl 2 rfl) ?_
            refine va_get (D := D) (cl := xCl) (ci := 7) (v := .ref (ad (km + 23))) (C := rnM) (T := tbM) (N := 39) hx hb hts inM hown hK hP km hM.1 rfl 38 (by decide) (hts _ tw_655) (fun _ h9 => h9) rfl dM_ways_54 ?_
            refine lv_iconst (v := 0) hx hb dM_ways_57 (by decide) ?_
            refine lv_iconst (v := 0) hx hb dM_ways_58 (by decide) ?_
            refine va_iast hx hb hK hP hD hS (km + 23) 0 (hM.a 23 8 rfl (by omega) (by omega)) hI (vp_in_nI (n := 0) (by omega) (by omega)) dM_ways_59 (fun H locs hP hD hS => ?_)
            obtain ⟨ws_29, hu_28, hP, hD⟩ := x_gen (hM.a 23 8 rfl (by omega) (by omega)) hP hD
            have hM : ModF cI ad ws_29 km (setV v 0 0) (setF (setF F 22 ((upd (F 22) (0 : Int32).toNatClampNeg ((nI ta))))) 23 ((upd (F 23) (0 : Int32).toNatClampNeg 0))) := hM.arr 23 8 rfl (by omega) (by omega) hu_28
            have hF := hF.tr (hu_28.fr (a := km) (b := km + 24) (by omega) (by omega))
            exact loop_60 _ ta ob sn 0 [ta] (fun _ => 0) (setF (setF F 22 ((upd (F 22) (0 : Int32).toNatClampNeg ((nI ta))))) 23 ((upd (F 23) (0 : Int32).toNatClampNeg 0))) ws_29 _ _ _ hta hob hsn hne hres9 hF hM ((fk_s (by simp)).tr (fk_s (by simp))) (fun i hi => by have z9 : i = 0 := (by simp at hi; omega); subst z9; rfl) (fun u hu => by rw [List.mem_singleton] at hu; rw [hu]; exact hta) (by show 1 ≤ sn + 1; omega) (WI.init rfl) (fun i hi => by have z9 : i = 0 := (by simp at hi; omega); subst z9; rfl) (fun _ _ => Nat.zero_le _) (Nat.lt_succ_self _) hP hD hS (lv_sub hl [2, 3, 4, 5, 1, 0] rfl)
          · refine lv_iconst (v := 1) hx hb dM_ways_38 (by decide) ?_
            exact x_iret hx hb hr hlk hK hP hD hS dM_ways_39 ⟨by rw [waysS_in hgl hta hob hsn, if_pos ((nI_eq (by omega) (by omega)).mp c35)], hF, _, _, hM, hR.vf (vk_s (a := [0]) (by simp)) (by decide) (fk.rf (a := [])) (by simp)⟩
        · refine lv_iconst (v := (-1)) hx hb dM_ways_31 (by decide) ?_
          exact x_iret hx hb hr hlk hK hP hD hS dM_ways_32 ⟨(if_neg (fun hc => c28 (by rw [i32_le, show (6 : Int32).toInt = 6 from rfl]; exact hc.2.2.2))).symm, hF, _, _, hM, hR.vf (vk_s (a := [0]) (by simp)) (by decide) (fk.rf (a := [])) (by simp)⟩
