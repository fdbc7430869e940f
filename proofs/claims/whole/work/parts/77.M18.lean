theorem test_bq {g : Gr} (hg : GrOK g) {L : List Nat} (hL : gRow g L) {x0 : BX} (h0 : x0.1 = L) (h1 : ∀ u ∈ L, x0.2.1 u = -1 ∧ x0.2.2 u = 0) : testS g L = (List.range g.length).filter (fun t => decide (gK g t = 3 ∧ t ∈ (bq (nbB true g) 1000 30 0 x0).1)) := by
  have hnb : ∀ a u, u ∈ gU g a → u < 30 := fun a u hu => Nat.lt_of_lt_of_le (gU_lt a u hu) hg.1
  have hx : ∀ u ∈ x0.1, u < g.length := fun u hu => hL.2 u (by rw [← h0]; exact hu)
  have hB := BI.init (nb := gU g) (x := x0) (by rw [h0]; exact hL.1) (fun u hu => Nat.lt_of_lt_of_le (hx u hu) hg.1) (fun u hu => h1 u (by rw [← h0]; exact hu))
  rw [h0] at hB
  obtain ⟨lev, hB2⟩ := BI.run hnb 30 0 x0 _ hB (by omega)
  exact test_eq hg.1 (fun t ht => (hg.2.1 t ht).2) hB2 (bq_in gU_lt 30 0 x0 hx)
theorem rng_s {p : Nat → Bool} {i : Nat} : (List.range (i + 1)).filter p = (List.range i).filter p ++ (if p i = true then [i] else []) := by
  rw [List.range_succ, List.filter_append, List.filter_cons]
  by_cases e : p i = true <;> simp [e]
theorem rng_len (p : Nat → Bool) (i : Nat) : ((List.range i).filter p).length ≤ i := Nat.le_trans (List.length_filter_le _ _) (by rw [List.length_range]; omega)
theorem same_any {g : Gr} {L : List Nat} {t : Nat} (ht : t < g.length) (hL : ∀ u ∈ L, u < g.length) : (L.any (fun u => decide (gN g u / 10 = gN g t / 10))) = L.any (fun u => decide (gPn g u = gPn g t)) := by
  apply Bool.eq_iff_iff.mpr
  rw [List.any_eq_true, List.any_eq_true]
  have e : ∀ u, u < g.length → gPn g u = gN g u / 10 := fun u hu => if_pos hu
  constructor
  · rintro ⟨u, hu, h⟩; exact ⟨u, hu, by rw [e u (hL u hu), e t ht]; exact h⟩
  · rintro ⟨u, hu, h⟩; exact ⟨u, hu, by rw [e u (hL u hu), e t ht] at h; exact h⟩

set_option maxHeartbeats 4000000 in
set_option maxRecDepth 100000 in
theorem cM_filter_10 (l : Launch) (D : va_G) (tys : List (ClassId × FieldType)) (A : Nat → Prop) (ws : va_W) (cI : ClassId) (hI : tys[0]? = some (cI, .int)) (ad : Nat → Nat) (km : Nat) (v : Nat → Int32) (F : Nat → Nat → Int32) (n : Nat) (S : Nat → List Nat) (hS0 : MLs v F n S) (g : Gr) (hg : MGr g v F) (hn1 : 1 ≤ n) (hn58 : n < 50) (hgr : gRow g (S (n - 1))) (it9 : Int32) (hM : ModF cI ad ws km v F) : x_Mv l yM_filter wM_filter (xR 3) D xCl tys A [.ref (ad km), .int 10, .int it9] ws (fun ws1 => x_fr km (km + 24) ws ws1 ∧ ∃ v9 F9, ModF cI ad ws1 km v9 F9 ∧ MLs v9 F9 n (updJ S (n - 1) (testS g (S (n - 1)))) ∧ v9 30 = v 30 + nI (testS g (S (n - 1))).length ∧ vk [28, 30] v v9 ∧ fk [14, 15, 20, 21] F F9) := by
  have hF : x_fr km (km + 24) ws ws := x_fr.rf
  obtain ⟨hv28, hn60, hSi⟩ := id hS0
  have hgo := hg.1
  have hgl : g.length ≤ 30 := hgo.1
  refine x_enter (by decide) rfl (Nat.le_of_ble_eq_true rfl) (fun p e s m args below meth c ls hx hb hr hlk hml hown hnm hts hK hP hD hS hA hN hl => ?_)
  have hl : lv_has ls 7 [(0, .ref (ad km)), (1, .int 10), (2, .int it9)] := hl
  have loop_103 : ∀ (fu9 : Nat) (x0 : BX) (i : Nat) (v1 : Nat → Int32) (F1 : Nat → Nat → Int32) (ws1 : va_W) (H : Heap) (locs : List Loc) (ls : Array Slot), x_fr km (km + 24) ws ws1 → ModF cI ad ws1 km v1 F1 → vk [28] v v1 → fk [14, 15, 20, 21] F F1 → x0.1 = S (n - 1) → (∀ u ∈ S (n - 1), x0.2.1 u = -1 ∧ x0.2.2 u = 0) → i ≤ g.length → (MLs v1 F1 (n + 1 + 1) (updJ (updJ S n (bq (nbB true g) 1000 30 0 x0).1) (n + 1) ((List.range i).filter (fun t => decide (gK g t = 3 ∧ t ∈ (bq (nbB true g) 1000 30 0 x0).1))))) → g.length - i < fu9 → va_P D xCl ws1 H → va_D A ws1 → va_S A s.heap H locs → lv_has ls 7 [(0, .ref (ad km)), (1, .int 10), (2, .int it9), (3, .int (nI (n - 1))), (4, .int (nI i))] → W p l e (xR 3) s m args below meth c H locs 0 0 (MQ below (va_Qv (fun ws1 => x_fr km (km + 24) ws ws1 ∧ ∃ v9 F9, ModF cI ad ws1 km v9 F9 ∧ MLs v9 F9 n (updJ S (n - 1) (testS g (S (n - 1)))) ∧ v9 30 = v 30 + nI (testS g (S (n - 1))).length ∧ vk [28, 30] v v9 ∧ fk [14, 15, 20, 21] F F9) (x_B D xCl tys A) A) args s 0 0 A) (F0 m 103 ls []) := by
    intro fu9
    induction fu9 with
    | zero => intro x0 i v1 F1 ws1 H locs ls hF hM hvk hfk hx0 hx1 hi hS1 hme; exact absurd hme (Nat.not_lt_zero _)
    | succ fu9 ih =>
      intro x0 i v1 F1 ws1 H locs ls hF hM hvk hfk hx0 hx1 hi hS1 hme hP hD hS hl
      have hg1 : MGr g v1 F1 := hg.c2 (hvk 1 (by simp)) (hfk 1 (by simp)) (hfk 2 (by simp)) (hfk 3 (by simp)) (hfk 4 (by simp)) (hfk 5 (by simp))
      refine lv_iload hx hb dM_filter_103 (lv_at hl 4 rfl) ?_
      refine lv_aload_n hx hb dM_filter_105 rfl (lv_at hl 0 rfl) ?_
      refine va_get (D := D) (cl := xCl) (ci := 7) (v := .int (v1 1)) (C := rnM) (T := tbM) (N := 39) hx hb hts inM hown hK hP km hM.1 rfl 1 (by decide) (hts _ tw_618) (fun _ h9 => h9) rfl dM_filter_106 ?_
      refine lv_icmp_ge (tgt := 145) hx hb dM_filter_109 (by decide) (fun c109 => ?_) (fun c109 => ?_)
      · refine lv_aload_n hx hb dM_filter_145 rfl (lv_at hl 0 rfl) ?_
        refine lv_iconst (v := 2) hx hb dM_filter_146 (by decide) ?_
        refine x_callv (x_runV (n := 1) (As := [.int 2]) (rest := []) ⟨hx, hb, hml, hown, hts⟩ (cM_replace l D tys A ws1 cI hI ad km v1 F1 (n + 1 + 1) (updJ (updJ S n (bq (nbB true g) 1000 30 0 x0).1) (n + 1) ((List.range i).filter (fun t => decide (gK g t = 3 ∧ t ∈ (bq (nbB true g) 1000 30 0 x0).1)))) hS1 2 (by omega) (by omega) hM) tw_853 tw_855 ts_M_replace tw_8 tw_856 (by decide +kernel) rfl rfl ⟨by decide, by decide⟩ ⟨Nat.zero_le _, Nat.zero_le _⟩ (va_recv hK hP (ci := 7) (q0 := km) rfl hM.1) hK hP hD hS hA hN rfl hl.1 rfl (lv_room (Nat.le_of_ble_eq_true rfl)) dM_filter_147) hS (fun ws_1 H locs hrp hP hD hS => ?_)
        obtain ⟨hF9, v9, F9, hM9, hS9, h30, hvk9, hfk9⟩ := hrp
        have hF := hF.tr hF9
        refine lv_goto (tgt := 253) hx hb dM_filter_150 (by decide) ?_
        exact x_vret hx hb hr hlk hK hP hD hS dM_filter_253 (by have hiz : i = g.length := (by rw [hg1.2.1, nI_leI (by omega) (by omega)] at c109; omega); rw [hiz, ← test_bq hgo hgr hx0 hx1] at hS9 h30; rw [show (n + 1 + 1) - 1 - 2 + 1 = n by omega, show (n + 1 + 1) - 1 - 2 = n - 1 by omega, show (n + 1 + 1) - 1 = n + 1 by omega, updJ_s] at hS9; rw [show (n + 1 + 1) - 1 = n + 1 by omega, updJ_s] at h30; exact ⟨hF, _, _, hM9, hS9.cg (fun j hj => by by_cases z9 : j = n - 1; (rw [z9, updJ_s, updJ_s]); (rw [updJ_o9 z9, updJ_o9 z9, updJ_o9 (by omega), updJ_o9 (by omega)])), by rw [h30, hvk 30 (by simp)], (hvk.wd (by simp)).tr hvk9, (hfk.wd (by simp)).tr (hfk9.wd (by simp))⟩)
      · have hi2 : i < g.length := by rw [hg1.2.1, nI_leI (by omega) (by omega)] at c109; omega
        have hk4 := (hgo.2.1 i hi2).2
        have hcap : ((List.range i).filter (fun t => decide (gK g t = 3 ∧ t ∈ (bq (nbB true g) 1000 30 0 x0).1))).length < 30 := by have := rng_len (fun t => decide (gK g t = 3 ∧ t ∈ (bq (nbB true g) 1000 30 0 x0).1)) i; omega
        refine lv_aload_n hx hb dM_filter_112 rfl (lv_at hl 0 rfl) ?_
        refine va_get (D := D) (cl := xCl) (ci := 7) (v := .ref (ad (km + 3))) (C := rnM) (T := tbM) (N := 39) hx hb hts inM hown hK hP km hM.1 rfl 4 (by decide) (hts _ tw_621) (fun _ h9 => h9) rfl dM_filter_113 ?_
        refine lv_iload hx hb dM_filter_116 (lv_at hl 4 rfl) ?_
        refine va_iald hx hb hK hP (km + 3) 0 (hM.a 3 30 rfl (by omega) (by omega)) hI (vp_in_nI (by omega) (by omega)) dM_filter_118 ?_
        refine lv_topi (fun v_2 ev_2 => ?_)
        obtain rfl : v_2 = nI (gK g i) := by rw [ev_2, nI_clamp (by omega)]; exact (hg1.2.2.1 i hi2).2.2
        refine lv_iconst (v := 3) hx hb dM_filter_119 (by decide) ?_
        refine lv_icmp_ne (tgt := 139) hx hb dM_filter_120 (by decide) (fun c120 => ?_) (fun c120 => ?_)
        · refine lv_iinc (v := (nI (i + 1))) (lv' := [(4, .int (nI (i + 1))), (0, .ref (ad km)), (1, .int 10), (2, .int it9), (3, .int (nI (n - 1)))]) hx hb dM_filter_139 hl (k := 4) rfl (nI_1 _) (by decide) rfl (fun ls hl => ?_)
          refine lv_goto (tgt := 103) hx hb dM_filter_142 (by decide) ?_
          exact ih x0 (i + 1) v1 F1 ws1 _ _ _ hF hM hvk hfk hx0 hx1 (by omega) (by rw [rng_s, if_neg (by rw [decide_eq_true_eq]; exact fun z9 => c120 (by rw [z9.1]; rfl)), List.append_nil]; exact hS1) (by omega) hP hD hS (lv_sub hl [1, 2, 3, 4, 0] rfl)
        · refine lv_aload_n hx hb dM_filter_123 rfl (lv_at hl 0 rfl) ?_
          refine lv_iconst (v := 1) hx hb dM_filter_124 (by decide) ?_
          refine lv_iload hx hb dM_filter_125 (lv_at hl 4 rfl) ?_
          refine x_calli (x_runV (n := 2) (As := [.int 1, .int (nI i)]) (rest := []) ⟨hx, hb, hml, hown, hts⟩ (cM_has l D tys A ws1 cI hI ad km v1 F1 (n + 1 + 1) (updJ (updJ S n (bq (nbB true g) 1000 30 0 x0).1) (n + 1) ((List.range i).filter (fun t => decide (gK g t = 3 ∧ t ∈ (bq (nbB true g) 1000 30 0 x0).1)))) hS1 1 i (by omega) (by omega) hM) tw_861 tw_863 ts_M_has tw_8 tw_864 (by decide +kernel) rfl rfl ⟨by decide, by decide⟩ ⟨Nat.zero_le _, Nat.zero_le _⟩ (va_recv hK hP (ci := 7) (q0 := km) rfl hM.1) hK hP hD hS hA hN rfl hl.1 rfl (lv_room (Nat.le_of_ble_eq_true rfl)) dM_filter_127) hS (fun rha ws_3 H locs hha hP hD hS => ?_)
          obtain ⟨hha, rfl⟩ := hha
          rw [show n + 1 + 1 - 1 - 1 = n by omega, updJ_o9 (by omega), updJ_s] at hha
          refine lv_if_eq (tgt := 139) hx hb dM_filter_130 (by decide) (fun c130 => ?_) (fun c130 => ?_)
          · refine lv_iinc (v := (nI (i + 1))) (lv' := [(4, .int (nI (i + 1))), (0, .ref (ad km)), (1, .int 10), (2, .int it9), (3, .int (nI (n - 1)))]) hx hb dM_filter_139 hl (k := 4) rfl (nI_1 _) (by decide) rfl (fun ls hl => ?_)
            refine lv_goto (tgt := 103) hx hb dM_filter_142 (by decide) ?_
            exact ih x0 (i + 1) v1 F1 ws1 _ _ _ hF hM hvk hfk hx0 hx1 (by omega) (by rw [rng_s, if_neg (by rw [decide_eq_true_eq]; exact fun z9 => (of_decide_eq_false (b2i_0.mp (by rw [← hha]; exact c130))) z9.2), List.append_nil]; exact hS1) (by omega) hP hD hS (lv_sub hl [1, 2, 3, 4, 0] rfl)
          · refine lv_aload_n hx hb dM_filter_133 rfl (lv_at hl 0 rfl) ?_
            refine lv_iload hx hb dM_filter_134 (lv_at hl 4 rfl) ?_
            refine x_callv (x_runV (n := 1) (As := [.int (nI i)]) (rest := []) ⟨hx, hb, hml, hown, hts⟩ (cM_add l D tys A ws1 cI hI ad km v1 F1 (n + 1 + 1) (updJ (updJ S n (bq (nbB true g) 1000 30 0 x0).1) (n + 1) ((List.range i).filter (fun t => decide (gK g t = 3 ∧ t ∈ (bq (nbB true g) 1000 30 0 x0).1)))) hS1 i (by omega) (by omega) (by rw [show (n + 1 + 1) - 1 = n + 1 by omega, updJ_s]; exact hcap) hM) tw_837 tw_839 ts_M_add tw_8 tw_840 (by decide +kernel) rfl rfl ⟨by decide, by decide⟩ ⟨Nat.zero_le _, Nat.zero_le _⟩ (va_recv hK hP (ci := 7) (q0 := km) rfl hM.1) hK hP hD hS hA hN rfl hl.1 rfl (lv_room (Nat.le_of_ble_eq_true rfl)) dM_filter_136) hS (fun ws_4 H locs had hP hD hS => ?_)
            obtain ⟨hF9, v2, F2, hM, hS2, hvk2, hfk2⟩ := had
            have hF := hF.tr hF9
            rw [show (n + 1 + 1) - 1 = n + 1 by omega, updJ_s, updJ_2] at hS2
            refine lv_iinc (v := (nI (i + 1))) (lv' := [(4, .int (nI (i + 1))), (0, .ref (ad km)), (1, .int 10), (2, .int it9), (3, .int (nI (n - 1)))]) hx hb dM_filter_139 hl (k := 4) rfl (nI_1 _) (by decide) rfl (fun ls hl => ?_)
            refine lv_goto (tgt := 103) hx hb dM_filter_142 (by decide) ?_
            exact ih x0 (i + 1) v2 F2 ws_4 _ _ _ hF hM (hvk.tr hvk2) (hfk.tr (hfk2.wd (by simp))) hx0 hx1 (by omega) (by rw [rng_s, if_pos (by rw [decide_eq_true_eq]; exact ⟨(by have q9 : nI (gK g i) = nI 3 := c120; rw [nI_eq (by omega) (by omega)] at q9; exact q9), of_decide_eq_true (b2i_n0.mp (by rw [← hha]; exact c130))⟩)]; exact hS2) (by omega) hP hD hS (lv_sub hl [1, 2, 3, 4, 0] rfl)
  refine lv_aload_n hx hb dM_filter_0 rfl (lv_at hl 0 rfl) ?_
  refine va_get (D := D) (cl := xCl) (ci := 7) (v := .int (v 28)) (C := rnM) (T := tbM) (N := 39) hx hb hts inM hown hK hP km hM.1 rfl 28 (by decide) (hts _ tw_645) (fun _ h9 => h9) rfl dM_filter_1 ?_
  refine lv_iconst (v := 1) hx hb dM_filter_4 (by decide) ?_
  refine lv_isub hx hb dM_filter_5 ?_
  refine lv_topi (fun v_5 ev_5 => ?_)
  obtain rfl : v_5 = nI (n - 1) := by rw [ev_5, hv28, show (1 : Int32) = nI 1 from rfl, pk_sub (by omega)]
  refine lv_istore_n (lv' := [(3, .int (nI (n - 1))), (0, .ref (ad km)), (1, .int 10), (2, .int it9)]) hx hb dM_filter_6 rfl hl (by decide) rfl (fun ls hl => ?_)
  refine lv_iload_n hx hb dM_filter_7 rfl (lv_at hl 2 rfl) ?_
  refine lv_bipush (v := 9) hx hb dM_filter_8 (by decide) ?_
  refine lv_icmp_ne (tgt := 82) hx hb dM_filter_10 (by decide) (fun c10 => ?_) (fun c10 => ?_)
  · refine lv_iload_n hx hb dM_filter_82 rfl (lv_at hl 2 rfl) ?_
    refine lv_bipush (v := 10) hx hb dM_filter_83 (by decide) ?_
    refine lv_icmp_ne (tgt := 153) hx hb dM_filter_85 (by decide) (fun c85 => ?_) (fun c85 => ?_)
    · exact absurd rfl c85
    · refine lv_aload_n hx hb dM_filter_88 rfl (lv_at hl 1 rfl) ?_
      refine lv_iconst (v := 1) hx hb dM_filter_89 (by decide) ?_
      refine lv_sipush (v := 1000) hx hb dM_filter_90 (by decide) ?_
      refine x_callv (x_runV (n := 2) (As := [.int 1, .int 1000]) (rest := []) ⟨hx, hb, hml, hown, hts⟩ (cM_reach_t l D tys A ws cI hI ad km v F n S hS0 g hg 1000 (by omega) (by omega) hgr hM) tw_857 tw_859 ts_M_reach tw_8 tw_860 (by decide +kernel) rfl rfl ⟨by decide, by decide⟩ ⟨Nat.zero_le _, Nat.zero_le _⟩ (va_recv hK hP (ci := 7) (q0 := km) rfl hM.1) hK hP hD hS hA hN rfl hl.1 rfl (lv_room (Nat.le_of_ble_eq_true rfl)) dM_filter_93) hS (fun ws_6 H locs hre hP hD hS => ?_)
      obtain ⟨hF9, v3, F3, x0, hM, hx0, hx1, hS3, h20, h21, hvk3, hfk3⟩ := hre
      have hF := hF.tr hF9
      refine lv_aload_n hx hb dM_filter_96 rfl (lv_at hl 1 rfl) ?_
      refine x_callv (x_runV (n := 0) (As := []) (rest := []) ⟨hx, hb, hml, hown, hts⟩ (cM_begin l D tys A ws_6 cI hI ad km v3 F3 (n + 1) ((updJ S n (bq (nbB true g) 1000 30 0 x0).1)) hS3 (by omega) hM) tw_833 tw_835 ts_M_begin tw_8 tw_836 (by decide +kernel) rfl rfl ⟨by decide, by decide⟩ ⟨Nat.zero_le _, Nat.zero_le _⟩ (va_recv hK hP (ci := 7) (q0 := km) rfl hM.1) hK hP hD hS hA hN rfl hl.1 rfl (lv_room (Nat.le_of_ble_eq_true rfl)) dM_filter_97) hS (fun ws_7 H locs hbe hP hD hS => ?_)
      obtain ⟨hF9, v1, F1, hM, hS1, hvk, hfk⟩ := hbe
      have hF := hF.tr hF9
      refine lv_iconst (v := 0) hx hb dM_filter_100 (by decide) ?_
      refine lv_istore (lv' := [(4, .int 0), (3, .int (nI (n - 1))), (0, .ref (ad km)), (1, .int 10), (2, .int it9)]) hx hb dM_filter_101 hl (by decide) rfl (fun ls hl => ?_)
      exact loop_103 _ x0 0 v1 F1 ws_7 _ _ _ hF hM (hvk3.tr hvk) (hfk3.tr (hfk.wd (by simp))) hx0 hx1 (Nat.zero_le _) hS1 (Nat.lt_succ_self _) hP hD hS (lv_sub hl [2, 3, 4, 1, 0] rfl)
  · exact absurd c10 (by decide)

set_option maxHeartbeats 4000000 in
set_option maxRecDepth 100000 in
theorem cM_filter_11 (l : Launch) (D : va_G) (tys : List (ClassId × FieldType)) (A : Nat → Prop) (ws : va_W) (cI : ClassId) (hI : tys[0]? = some (cI, .int)) (ad : Nat → Nat) (km : Nat) (v : Nat → Int32) (F : Nat → Nat → Int32) (n : Nat) (S : Nat → List Nat) (hS0 : MLs v F n S) (g : Gr) (hg : MGr g v F) (hn1 : 1 ≤ n) (hn58 : n < 50) (hgr : gRow g (S (n - 1))) (it9 : Int32) (hM : ModF cI ad ws km v F) : x_Mv l yM_filter wM_filter (xR 3) D xCl tys A [.ref (ad km), .int 11, .int it9] ws (fun ws1 => x_fr km (km + 24) ws ws1 ∧ ∃ v9 F9, ModF cI ad ws1 km v9 F9 ∧ MLs v9 F9 n (updJ S (n - 1) (sameS g (S (n - 1)))) ∧ v9 30 = v 30 + nI (sameS g (S (n - 1))).length ∧ vk [28, 30] v v9 ∧ fk [14, 15, 20, 21] F F9) := by
  have hF : x_fr km (km + 24) ws ws := x_fr.rf
  obtain ⟨hv28, hn60, hSi⟩ := id hS0
  have hgo := hg.1
  have hgl : g.length ≤ 30 := hgo.1
  refine x_enter (by decide) rfl (Nat.le_of_ble_eq_true rfl) (fun p e s m args below meth c ls hx hb hr hlk hml hown hnm hts hK hP hD hS hA hN hl => ?_)
  have hl : lv_has ls 7 [(0, .ref (ad km)), (1, .int 11), (2, .int it9)] := hl
  have loop_175 : ∀ (fu9 : Nat) (i : Nat) (j : Nat) (mt : Int32) (v1 : Nat → Int32) (F1 : Nat → Nat → Int32) (hS1 : MLs v1 F1 (n + 1) (updJ S n ((List.range i).filter (fun t => (S (n - 1)).any (fun u => decide (gN g u / 10 = gN g t / 10)))))) (ws1 : va_W) (H : Heap) (locs : List Loc) (ls : Array Slot), ModF cI ad ws1 km v1 F1 → vk [28] v v1 → fk [14, 15] F F1 → i < g.length → j ≤ (S (n - 1)).length → mt = b2i (((S (n - 1)).take j).any (fun u => decide (gN g u / 10 = gN g i / 10))) → (S (n - 1)).length - j < fu9 → va_P D xCl ws1 H → va_D A ws1 → va_S A s.heap H locs → lv_has ls 7 [(0, .ref (ad km)), (1, .int 11), (2, .int it9), (3, .int (nI (n - 1))), (4, .int (nI i)), (5, .int mt), (6, .int (nI j))] → (∀ (mt9 : Int32) (ws2 : va_W) (H2 : Heap) (locs2 : List Loc) (ls2 : Array Slot), ws1 = ws2 → mt9 = b2i ((S (n - 1)).any (fun u => decide (gN g u / 10 = gN g i / 10))) → va_P D xCl ws2 H2 → va_D A ws2 → va_S A s.heap H2 locs2 → lv_has ls2 7 [(0, .ref (ad km)), (1, .int 11), (2, .int it9), (3, .int (nI (n - 1))), (4, .int (nI i)), (5, .int mt9)] → W p l e (xR 3) s m args below meth c H2 locs2 0 0 (MQ below (va_Qv (fun ws1 => x_fr km (km + 24) ws ws1 ∧ ∃ v9 F9, ModF cI ad ws1 km v9 F9 ∧ MLs v9 F9 n (updJ S (n - 1) (sameS g (S (n - 1)))) ∧ v9 30 = v 30 + nI (sameS g (S (n - 1))).length ∧ vk [28, 30] v v9 ∧ fk [14, 15, 20, 21] F F9) (x_B D xCl tys A) A) args s 0 0 A) (F0 m 231 ls2 [])) → W p l e (xR 3) s m args below meth c H locs 0 0 (MQ below (va_Qv (fun ws1 => x_fr km (km + 24) ws ws1 ∧ ∃ v9 F9, ModF cI ad ws1 km v9 F9 ∧ MLs v9 F9 n (updJ S (n - 1) (sameS g (S (n - 1)))) ∧ v9 30 = v 30 + nI (sameS g (S (n - 1))).length ∧ vk [28, 30] v v9 ∧ fk [14, 15, 20, 21] F F9) (x_B D xCl tys A) A) args s 0 0 A) (F0 m 175 ls []) := by
    intro fu9
    induction fu9 with
    | zero => intro i j mt v1 F1 hS1 ws1 H locs ls hM hvk hfk hi2 hj9 hmt hme; exact absurd hme (Nat.not_lt_zero _)
    | succ fu9 ih =>
      intro i j mt v1 F1 hS1 ws1 H locs ls hM hvk hfk hi2 hj9 hmt hme hP hD hS hl K
      obtain ⟨hu28, hu60, hui⟩ := id hS1
      have huL := hui (n - 1) (by omega)
      rw [updJ_o9 (by omega)] at huL
      have hg1 : MGr g v1 F1 := hg.c2 (hvk 1 (by simp)) (hfk 1 (by simp)) (hfk 2 (by simp)) (hfk 3 (by simp)) (hfk 4 (by simp)) (hfk 5 (by simp))
      refine lv_iload hx hb dM_filter_175 (lv_at hl 6 rfl) ?_
      refine lv_aload_n hx hb dM_filter_177 rfl (lv_at hl 0 rfl) ?_
      refine va_get (D := D) (cl := xCl) (ci := 7) (v := .ref (ad (km + 15))) (C := rnM) (T := tbM) (N := 39) hx hb hts inM hown hK hP km hM.1 rfl 24 (by decide) (hts _ tw_641) (fun _ h9 => h9) rfl dM_filter_178 ?_
      refine lv_iload_n hx hb dM_filter_181 rfl (lv_at hl 3 rfl) ?_
      refine va_iald hx hb hK hP (km + 15) 0 (hM.a 15 60 rfl (by omega) (by omega)) hI (vp_in_nI (by omega) (by omega)) dM_filter_182 ?_
      refine lv_topi (fun v_1 ev_1 => ?_)
      obtain rfl : v_1 = nI (S (n - 1)).length := by rw [ev_1, nI_clamp (by omega)]; exact huL.2.1
      refine lv_icmp_ge (tgt := 231) hx hb dM_filter_183 (by decide) (fun c183 => ?_) (fun c183 => ?_)
      · exact K mt ws1 _ _ _ rfl (by have z9 : (S (n - 1)).take j = (S (n - 1)) := List.take_of_length_le (by rw [nI_leI (by omega) (by omega)] at c183; exact c183); rw [z9] at hmt; exact hmt) hP hD hS (lv_sub hl [0, 1, 2, 3, 4, 5] rfl)
      · have hj2 : j < (S (n - 1)).length := by rw [nI_leI (by omega) (by omega)] at c183; omega
        have htj : (S (n - 1))[j] < g.length := hgr.2 _ (List.getElem_mem hj2)
        have hn1j := (hgo.2.1 _ htj).1
        have hn1i := (hgo.2.1 i hi2).1
        refine lv_iload hx hb dM_filter_186 (lv_at hl 5 rfl) ?_
        refine lv_if_ne (tgt := 218) hx hb dM_filter_188 (by decide) (fun c188 => ?_) (fun c188 => ?_)
        · refine lv_iconst (v := 1) hx hb dM_filter_218 (by decide) ?_
          refine lv_goto (tgt := 223) hx hb dM_filter_219 (by decide) ?_
          refine lv_istore (lv' := [(5, .int 1), (0, .ref (ad km)), (1, .int 11), (2, .int it9), (3, .int (nI (n - 1))), (4, .int (nI i)), (6, .int (nI j))]) hx hb dM_filter_223 hl (by decide) rfl (fun ls hl => ?_)
          refine lv_iinc (v := (nI (j + 1))) (lv' := [(6, .int (nI (j + 1))), (5, .int 1), (0, .ref (ad km)), (1, .int 11), (2, .int it9), (3, .int (nI (n - 1))), (4, .int (nI i))]) hx hb dM_filter_225 hl (k := 6) rfl (nI_1 _) (by decide) rfl (fun ls hl => ?_)
          refine lv_goto (tgt := 175) hx hb dM_filter_228 (by decide) ?_
          exact ih i (j + 1) 1 v1 F1 hS1 ws1 _ _ _ hM hvk hfk hi2 (by omega) (by rw [List.take_succ_eq_append_getElem hj2, List.any_append]; rw [show ((S (n - 1)).take j).any (fun u => decide (gN g u / 10 = gN g i / 10)) = true from b2i_n0.mp (by rw [← hmt]; exact c188)]; rfl) (by omega) hP hD hS (lv_sub hl [2, 3, 4, 5, 6, 1, 0] rfl) K
        · refine lv_aload_n hx hb dM_filter_191 rfl (lv_at hl 0 rfl) ?_
          refine va_get (D := D) (cl := xCl) (ci := 7) (v := .ref (ad (km + 1))) (C := rnM) (T := tbM) (N := 39) hx hb hts inM hown hK hP km hM.1 rfl 2 (by decide) (hts _ tw_619) (fun _ h9 => h9) rfl dM_filter_192 ?_
          refine lv_aload_n hx hb dM_filter_195 rfl (lv_at hl 0 rfl) ?_
          refine va_get (D := D) (cl := xCl) (ci := 7) (v := .ref (ad (km + 14))) (C := rnM) (T := tbM) (N := 39) hx hb hts inM hown hK hP km hM.1 rfl 23 (by decide) (hts _ tw_640) (fun _ h9 => h9) rfl dM_filter_196 ?_
          refine lv_bipush (v := 30) hx hb dM_filter_199 (by decide) ?_
          refine lv_iload_n hx hb dM_filter_201 rfl (lv_at hl 3 rfl) ?_
          refine lv_imul hx hb dM_filter_202 ?_
          refine lv_topi (fun v_2 ev_2 => ?_)
          obtain rfl : v_2 = nI (30 * (n - 1)) := by rw [ev_2, show (30 : Int32) = nI 30 from rfl, pk_mul]
          refine lv_iload hx hb dM_filter_203 (lv_at hl 6 rfl) ?_
          refine lv_iadd hx hb dM_filter_205 ?_
          refine lv_topi (fun v_3 ev_3 => ?_)
          obtain rfl : v_3 = nI (30 * (n - 1) + j) := by rw [ev_3, nI_add]
          refine va_iald hx hb hK hP (km + 14) 0 (hM.a 14 1800 rfl (by omega) (by omega)) hI (vp_in_nI (by omega) (by omega)) dM_filter_206 ?_
          refine lv_topi (fun v_4 ev_4 => ?_)
          obtain rfl : v_4 = nI (S (n - 1))[j] := by rw [ev_4, nI_clamp (by omega)]; exact huL.2.2.2 j hj2
          refine va_iald hx hb hK hP (km + 1) 0 (hM.a 1 30 rfl (by omega) (by omega)) hI (vp_in_nI (by omega) (by omega)) dM_filter_207 ?_
          refine lv_topi (fun v_5 ev_5 => ?_)
          obtain rfl : v_5 = nI (gN g (S (n - 1))[j] / 10) := by rw [ev_5, nI_clamp (by omega)]; exact (hg1.2.2.1 _ htj).1
          refine lv_aload_n hx hb dM_filter_208 rfl (lv_at hl 0 rfl) ?_
          refine va_get (D := D) (cl := xCl) (ci := 7) (v := .ref (ad (km + 1))) (C := rnM) (T := tbM) (N := 39) hx hb hts inM hown hK hP km hM.1 rfl 2 (by decide) (hts _ tw_619) (fun _ h9 => h9) rfl dM_filter_209 ?_
          refine lv_iload hx hb dM_filter_212 (lv_at hl 4 rfl) ?_
          refine va_iald hx hb hK hP (km + 1) 0 (hM.a 1 30 rfl (by omega) (by omega)) hI (vp_in_nI (by omega) (by omega)) dM_filter_214 ?_
          refine lv_topi (fun v_6 ev_6 => ?_)
          obtain rfl : v_6 = nI (gN g i / 10) := by rw [ev_6, nI_clamp (by omega)]; exact (hg1.2.2.1 _ hi2).1
          refine lv_icmp_ne (tgt := 222) hx hb dM_filter_215 (by decide) (fun c215 => ?_) (fun c215 => ?_)
          · refine lv_iconst (v := 0) hx hb dM_filter_222 (by decide) ?_
            refine lv_istore (lv' := [(5, .int 0), (0, .ref (ad km)), (1, .int 11), (2, .int it9), (3, .int (nI (n - 1))), (4, .int (nI i)), (6, .int (nI j))]) hx hb dM_filter_223 hl (by decide) rfl (fun ls hl => ?_)
            refine lv_iinc (v := (nI (j + 1))) (lv' := [(6, .int (nI (j + 1))), (5, .int 0), (0, .ref (ad km)), (1, .int 11), (2, .int it9), (3, .int (nI (n - 1))), (4, .int (nI i))]) hx hb dM_filter_225 hl (k := 6) rfl (nI_1 _) (by decide) rfl (fun ls hl => ?_)
            refine lv_goto (tgt := 175) hx hb dM_filter_228 (by decide) ?_
            exact ih i (j + 1) 0 v1 F1 hS1 ws1 _ _ _ hM hvk hfk hi2 (by omega) (by rw [List.take_succ_eq_append_getElem hj2, List.any_append]; rw [show ((S (n - 1)).take j).any (fun u => decide (gN g u / 10 = gN g i / 10)) = false from b2i_0.mp (by rw [← hmt]; exact c188), show [(S (n - 1))[j]].any (fun u => decide (gN g u / 10 = gN g i / 10)) = false by simp; rw [nI_eq (by omega) (by omega)] at c215; exact c215]; rfl) (by omega) hP hD hS (lv_sub hl [2, 3, 4, 5, 6, 1, 0] rfl) K
          · refine lv_iconst (v := 1) hx hb dM_filter_218 (by decide) ?_
            refine lv_goto (tgt := 223) hx hb dM_filter_219 (by decide) ?_
            refine lv_istore (lv' := [(5, .int 1), (0, .ref (ad km)), (1, .int 11), (2, .int it9), (3, .int (nI (n - 1))), (4, .int (nI i)), (6, .int (nI j))]) hx hb dM_filter_223 hl (by decide) rfl (fun ls hl => ?_)
            refine lv_iinc (v := (nI (j + 1))) (lv' := [(6, .int (nI (j + 1))), (5, .int 1), (0, .ref (ad km)), (1, .int 11), (2, .int it9), (3, .int (nI (n - 1))), (4, .int (nI i))]) hx hb dM_filter_225 hl (k := 6) rfl (nI_1 _) (by decide) rfl (fun ls hl => ?_)
            refine lv_goto (tgt := 175) hx hb dM_filter_228 (by decide) ?_
            exact ih i (j + 1) 1 v1 F1 hS1 ws1 _ _ _ hM hvk hfk hi2 (by omega) (by rw [List.take_succ_eq_append_getElem hj2, List.any_append]; rw [show ((S (n - 1)).take j).any (fun u => decide (gN g u / 10 = gN g i / 10)) = false from b2i_0.mp (by rw [← hmt]; exact c188), show [(S (n - 1))[j]].any (fun u => decide (gN g u / 10 = gN g i / 10)) = true by simp; rw [nI_eq (by omega) (by omega)] at c215; exact c215]; rfl) (by omega) hP hD hS (lv_sub hl [2, 3, 4, 5, 6, 1, 0] rfl) K
  have loop_160 : ∀ (fu9 : Nat) (i : Nat) (v1 : Nat → Int32) (F1 : Nat → Nat → Int32) (ws1 : va_W) (H : Heap) (locs : List Loc) (ls : Array Slot), x_fr km (km + 24) ws ws1 → ModF cI ad ws1 km v1 F1 → vk [28] v v1 → fk [14, 15] F F1 → i ≤ g.length → MLs v1 F1 (n + 1) (updJ S n ((List.range i).filter (fun t => (S (n - 1)).any (fun u => decide (gN g u / 10 = gN g t / 10))))) → g.length - i < fu9 → va_P D xCl ws1 H → va_D A ws1 → va_S A s.heap H locs → lv_has ls 7 [(0, .ref (ad km)), (1, .int 11), (2, .int it9), (3, .int (nI (n - 1))), (4, .int (nI i))] → W p l e (xR 3) s m args below meth c H locs 0 0 (MQ below (va_Qv (fun ws1 => x_fr km (km + 24) ws ws1 ∧ ∃ v9 F9, ModF cI ad ws1 km v9 F9 ∧ MLs v9 F9 n (updJ S (n - 1) (sameS g (S (n - 1)))) ∧ v9 30 = v 30 + nI (sameS g (S (n - 1))).length ∧ vk [28, 30] v v9 ∧ fk [14, 15, 20, 21] F F9) (x_B D xCl tys A) A) args s 0 0 A) (F0 m 160 ls []) := by
    intro fu9
    induction fu9 with
    | zero => intro i v1 F1 ws1 H locs ls hF hM hvk hfk hi hS1 hme; exact absurd hme (Nat.not_lt_zero _)
    | succ fu9 ih =>
      intro i v1 F1 ws1 H locs ls hF hM hvk hfk hi hS1 hme hP hD hS hl
      have hg1 : MGr g v1 F1 := hg.c2 (hvk 1 (by simp)) (hfk 1 (by simp)) (hfk 2 (by simp)) (hfk 3 (by simp)) (hfk 4 (by simp)) (hfk 5 (by simp))
      refine lv_iload hx hb dM_filter_160 (lv_at hl 4 rfl) ?_
      refine lv_aload_n hx hb dM_filter_162 rfl (lv_at hl 0 rfl) ?_
      refine va_get (D := D) (cl := xCl) (ci := 7) (v := .int (v1 1)) (C := rnM) (T := tbM) (N := 39) hx hb hts inM hown hK hP km hM.1 rfl 1 (by decide) (hts _ tw_618) (fun _ h9 => h9) rfl dM_filter_163 ?_
      refine lv_icmp_ge (tgt := 248) hx hb dM_filter_166 (by decide) (fun c166 => ?_) (fun c166 => ?_)
      · refine lv_aload_n hx hb dM_filter_248 rfl (lv_at hl 0 rfl) ?_
        refine lv_iconst (v := 1) hx hb dM_filter_249 (by decide) ?_
        refine x_callv (x_runV (n := 1) (As := [.int 1]) (rest := []) ⟨hx, hb, hml, hown, hts⟩ (cM_replace l D tys A ws1 cI hI ad km v1 F1 (n + 1) (updJ S n ((List.range i).filter (fun t => (S (n - 1)).any (fun u => decide (gN g u / 10 = gN g t / 10))))) hS1 1 (by omega) (by omega) hM) tw_853 tw_855 ts_M_replace tw_8 tw_856 (by decide +kernel) rfl rfl ⟨by decide, by decide⟩ ⟨Nat.zero_le _, Nat.zero_le _⟩ (va_recv hK hP (ci := 7) (q0 := km) rfl hM.1) hK hP hD hS hA hN rfl hl.1 rfl (lv_room (Nat.le_of_ble_eq_true rfl)) dM_filter_250) hS (fun ws_7 H locs hrp hP hD hS => ?_)
        obtain ⟨hF9, v9, F9, hM9, hS9, h30, hvk9, hfk9⟩ := hrp
        have hF := hF.tr hF9
        exact x_vret hx hb hr hlk hK hP hD hS dM_filter_253 (by have hiz : i = g.length := (by rw [hg1.2.1, nI_leI (by omega) (by omega)] at c166; omega); have hsm : (List.range i).filter (fun t => (S (n - 1)).any (fun u => decide (gN g u / 10 = gN g t / 10))) = sameS g (S (n - 1)) := (by rw [hiz]; exact List.filter_congr (fun t ht => same_any (List.mem_range.mp ht) hgr.2)); rw [hsm] at hS9 h30; rw [show (n + 1) - 1 - 1 + 1 = n by omega, show (n + 1) - 1 - 1 = n - 1 by omega, show (n + 1) - 1 = n by omega, updJ_s] at hS9; rw [show (n + 1) - 1 = n by omega, updJ_s] at h30; exact ⟨hF, _, _, hM9, hS9.cg (fun j hj => by by_cases z9 : j = n - 1; (rw [z9, updJ_s, updJ_s]); (rw [updJ_o9 z9, updJ_o9 z9, updJ_o9 (by omega)])), by rw [h30, hvk 30 (by simp)], (hvk.wd (by simp)).tr hvk9, (hfk.wd (by simp)).tr (hfk9.wd (by simp))⟩)
      · have hi2 : i < g.length := by rw [hg1.2.1, nI_leI (by omega) (by omega)] at c166; omega
        have hcap : ((List.range i).filter (fun t => (S (n - 1)).any (fun u => decide (gN g u / 10 = gN g t / 10)))).length < 30 := by have := rng_len (fun t => (S (n - 1)).any (fun u => decide (gN g u / 10 = gN g t / 10))) i; omega
        refine lv_iconst (v := 0) hx hb dM_filter_169 (by decide) ?_
        refine lv_istore (lv' := [(5, .int 0), (0, .ref (ad km)), (1, .int 11), (2, .int it9), (3, .int (nI (n - 1))), (4, .int (nI i))]) hx hb dM_filter_170 hl (by decide) rfl (fun ls hl => ?_)
        refine lv_iconst (v := 0) hx hb dM_filter_172 (by decide) ?_
        refine lv_istore (lv' := [(6, .int 0), (5, .int 0), (0, .ref (ad km)), (1, .int 11), (2, .int it9), (3, .int (nI (n - 1))), (4, .int (nI i))]) hx hb dM_filter_173 hl (by decide) rfl (fun ls hl => ?_)
        refine loop_175 _ i 0 0 v1 F1 hS1 ws1 _ _ _ hM hvk hfk hi2 (Nat.zero_le _) rfl (Nat.lt_succ_self _) hP hD hS (lv_sub hl [2, 3, 4, 5, 6, 1, 0] rfl) (fun mt9 ws_8 H locs ls hw2 hmt9 hP hD hS hl => ?_)
        obtain rfl := hw2
        refine lv_iload hx hb dM_filter_231 (lv_at hl 5 rfl) ?_
        refine lv_if_eq (tgt := 242) hx hb dM_filter_233 (by decide) (fun c233 => ?_) (fun c233 => ?_)
        · refine lv_iinc (v := (nI (i + 1))) (lv' := [(4, .int (nI (i + 1))), (0, .ref (ad km)), (1, .int 11), (2, .int it9), (3, .int (nI (n - 1))), (5, .int mt9)]) hx hb dM_filter_242 hl (k := 4) rfl (nI_1 _) (by decide) rfl (fun ls hl => ?_)
          refine lv_goto (tgt := 160) hx hb dM_filter_245 (by decide) ?_
          exact ih (i + 1) v1 F1 ws1 _ _ _ hF hM hvk hfk (by omega) (by rw [rng_s, if_neg (by rw [show (S (n - 1)).any (fun u => decide (gN g u / 10 = gN g i / 10)) = false from b2i_0.mp (by rw [← hmt9]; exact c233)]; decide), List.append_nil]; exact hS1) (by omega) hP hD hS (lv_sub hl [1, 2, 3, 4, 0] rfl)
        · refine lv_aload_n hx hb dM_filter_236 rfl (lv_at hl 0 rfl) ?_
          refine lv_iload hx hb dM_filter_237 (lv_at hl 4 rfl) ?_
          refine x_callv (x_runV (n := 1) (As := [.int (nI i)]) (rest := []) ⟨hx, hb, hml, hown, hts⟩ (cM_add l D tys A ws1 cI hI ad km v1 F1 (n + 1) (updJ S n ((List.range i).filter (fun t => (S (n - 1)).any (fun u => decide (gN g u / 10 = gN g t / 10))))) hS1 i (by omega) (by omega) (by rw [show (n + 1) - 1 = n by omega, updJ_s]; exact hcap) hM) tw_837 tw_839 ts_M_add tw_8 tw_840 (by decide +kernel) rfl rfl ⟨by decide, by decide⟩ ⟨Nat.zero_le _, Nat.zero_le _⟩ (va_recv hK hP (ci := 7) (q0 := km) rfl hM.1) hK hP hD hS hA hN rfl hl.1 rfl (lv_room (Nat.le_of_ble_eq_true rfl)) dM_filter_239) hS (fun ws_9 H locs had hP hD hS => ?_)
          obtain ⟨hF9, v2, F2, hM, hS2, hvk2, hfk2⟩ := had
          have hF := hF.tr hF9
          rw [show (n + 1) - 1 = n by omega, updJ_s, updJ_2] at hS2
          refine lv_iinc (v := (nI (i + 1))) (lv' := [(4, .int (nI (i + 1))), (0, .ref (ad km)), (1, .int 11), (2, .int it9), (3, .int (nI (n - 1))), (5, .int mt9)]) hx hb dM_filter_242 hl (k := 4) rfl (nI_1 _) (by decide) rfl (fun ls hl => ?_)
          refine lv_goto (tgt := 160) hx hb dM_filter_245 (by decide) ?_
          exact ih (i + 1) v2 F2 ws_9 _ _ _ hF hM (hvk.tr hvk2) (hfk.tr hfk2) (by omega) (by rw [rng_s, if_pos (b2i_n0.mp (by rw [← hmt9]; exact c233))]; exact hS2) (by omega) hP hD hS (lv_sub hl [1, 2, 3, 4, 0] rfl)
  refine lv_aload_n hx hb dM_filter_0 rfl (lv_at hl 0 rfl) ?_
  refine va_get (D := D) (cl := xCl) (ci := 7) (v := .int (v 28)) (C := rnM) (T := tbM) (N := 39) hx hb hts inM hown hK hP km hM.1 rfl 28 (by decide) (hts _ tw_645) (fun _ h9 => h9) rfl dM_filter_1 ?_
  refine lv_iconst (v := 1) hx hb dM_filter_4 (by decide) ?_
  refine lv_isub hx hb dM_filter_5 ?_
  refine lv_topi (fun v_10 ev_10 => ?_)
  obtain rfl : v_10 = nI (n - 1) := by rw [ev_10, hv28, show (1 : Int32) = nI 1 from rfl, pk_sub (by omega)]
  refine lv_istore_n (lv' := [(3, .int (nI (n - 1))), (0, .ref (ad km)), (1, .int 11), (2, .int it9)]) hx hb dM_filter_6 rfl hl (by decide) rfl (fun ls hl => ?_)
  refine lv_iload_n hx hb dM_filter_7 rfl (lv_at hl 2 rfl) ?_
  refine lv_bipush (v := 9) hx hb dM_filter_8 (by decide) ?_
  refine lv_icmp_ne (tgt := 82) hx hb dM_filter_10 (by decide) (fun c10 => ?_) (fun c10 => ?_)
  · refine lv_iload_n hx hb dM_filter_82 rfl (lv_at hl 2 rfl) ?_
    refine lv_bipush (v := 10) hx hb dM_filter_83 (by decide) ?_
    refine lv_icmp_ne (tgt := 153) hx hb dM_filter_85 (by decide) (fun c85 => ?_) (fun c85 => ?_)
    · refine lv_aload_n hx hb dM_filter_153 rfl (lv_at hl 1 rfl) ?_
      refine x_callv (x_runV (n := 0) (As := []) (rest := []) ⟨hx, hb, hml, hown, hts⟩ (cM_begin l D tys A ws cI hI ad km v F n S hS0 (by omega) hM) tw_833 tw_835 ts_M_begin tw_8 tw_836 (by decide +kernel) rfl rfl ⟨by decide, by decide⟩ ⟨Nat.zero_le _, Nat.zero_le _⟩ (va_recv hK hP (ci := 7) (q0 := km) rfl hM.1) hK hP hD hS hA hN rfl hl.1 rfl (lv_room (Nat.le_of_ble_eq_true rfl)) dM_filter_154) hS (fun ws_11 H locs hbe hP hD hS => ?_)
      obtain ⟨hF9, v1, F1, hM, hS1, hvk, hfk⟩ := hbe
      have hF := hF.tr hF9
      refine lv_iconst (v := 0) hx hb dM_filter_157 (by decide) ?_
      refine lv_istore (lv' := [(4, .int 0), (3, .int (nI (n - 1))), (0, .ref (ad km)), (1, .int 11), (2, .int it9)]) hx hb dM_filter_158 hl (by decide) rfl (fun ls hl => ?_)
      exact loop_160 _ 0 v1 F1 ws_11 _ _ _ hF hM hvk hfk (Nat.zero_le _) hS1 (Nat.lt_succ_self _) hP hD hS (lv_sub hl [2, 3, 4, 1, 0] rfl)
    · exact absurd c85 (by decide)
  · exact absurd c10 (by decide)
