-- ===== the model's join =====
def kp (K : Int32) (R : List Nat) (t : Nat) : Bool := decide (K = 43) || (decide (t ∈ R) == decide (K = 38))
theorem flt_s {L : List Nat} {p : Nat → Bool} {i : Nat} (h : i < L.length) : (L.take (i + 1)).filter p = (L.take i).filter p ++ (if p L[i] = true then [L[i]] else []) := by
  rw [List.take_succ_eq_append_getElem h, List.filter_append, List.filter_cons]
  by_cases e : p L[i] = true <;> simp [e]
theorem flt_len (L : List Nat) (p : Nat → Bool) (i : Nat) : ((L.take i).filter p).length ≤ i := Nat.le_trans (List.length_filter_le _ _) (by rw [List.length_take]; omega)
theorem addL_flt9 : ∀ (M L : List Nat), M.Nodup → addL L M = L ++ M.filter (fun t => !decide (t ∈ L)) := by
  intro M
  induction M with
  | nil => intro L _; show L = _; simp
  | cons a M ih =>
    intro L hn
    obtain ⟨h1, h2⟩ := List.nodup_cons.mp hn
    show addL (addN L a) M = _
    rw [ih _ h2]
    unfold addN
    by_cases e : a ∈ L
    · rw [if_pos e, List.filter_cons, if_neg (by simp [e])]
    · rw [if_neg e, List.filter_cons, if_pos (by simp [e]), List.append_assoc]
      congr 1
      show [a] ++ _ = a :: _
      rw [List.singleton_append]
      congr 1
      apply List.filter_congr
      intro t ht
      have hta : ¬ t = a := fun z => h1 (z ▸ ht)
      simp [hta]
theorem flt_nd {L : List Nat} (h : L.Nodup) (p : Nat → Bool) : (L.filter p).Nodup := List.Pairwise.sublist List.filter_sublist h

theorem updJ_o {J : Nat → List Nat} {i j : Nat} {L : List Nat} (h : ¬ j = i) : updJ J i L j = J j := if_neg h

theorem MLs.cg {v : Nat → Int32} {F : Nat → Nat → Int32} {n : Nat} {S S2 : Nat → List Nat} (h : MLs v F n S) (e : ∀ i, i < n → S2 i = S i) : MLs v F n S2 := ⟨h.1, h.2.1, fun i hi => by rw [e i hi]; exact h.2.2 i hi⟩
theorem joinX {g : Gr} {K : Int32} {L R : List Nat} (hK : K = 43 ∨ K = 45 ∨ K = 38) (hR : R.Nodup) : (if K = 43 then L ++ R.filter (fun t => !decide (t ∈ L)) else L.filter (kp K R)) = twoX g K L R := by
  rcases hK with rfl | rfl | rfl
  · rw [if_pos rfl, ← addL_flt9 R L hR]; rfl
  · rw [if_neg (by decide)]
    show _ = L.filter (fun t => !decide (t ∈ R))
    apply List.filter_congr
    intro t _
    show (decide ((45 : Int32) = 43) || (decide (t ∈ R) == decide ((45 : Int32) = 38))) = _
    rw [show decide ((45 : Int32) = 43) = false from by decide, show decide ((45 : Int32) = 38) = false from by decide]
    cases decide (t ∈ R) <;> rfl
  · rw [if_neg (by decide)]
    show _ = L.filter (fun t => decide (t ∈ R))
    apply List.filter_congr
    intro t _
    show (decide ((38 : Int32) = 43) || (decide (t ∈ R) == decide ((38 : Int32) = 38))) = _
    rw [show decide ((38 : Int32) = 43) = false from by decide, show decide ((38 : Int32) = 38) = true from by decide]
    cases decide (t ∈ R) <;> rfl
theorem kp_43 {R L : List Nat} : L.filter (kp 43 R) = L := by
  rw [List.filter_eq_self]
  intro t _
  rfl
theorem cap2 {L R : List Nat} {i : Nat} (hL : L.Nodup) (hR : R.Nodup) (h1 : ∀ t ∈ L, t < 30) (h2 : ∀ t ∈ R, t < 30) (hi : i < R.length) (hm : R[i] ∉ L) : (L ++ (R.take i).filter (fun t => !decide (t ∈ L))).length < 30 := by
  have q := nodup_len 30 ((L ++ (R.take i).filter (fun t => !decide (t ∈ L))) ++ [R[i]]) ?_ ?_
  · rw [List.length_append] at q
    simp only [List.length_singleton] at q
    omega
  · rw [List.nodup_append]
    refine ⟨?_, by simp, ?_⟩
    · rw [List.nodup_append]
      refine ⟨hL, flt_nd (List.Pairwise.sublist (List.take_sublist i R) hR) _, ?_⟩
      intro a ha b hb e
      subst e
      have := (List.mem_filter.mp hb).2
      simp [ha] at this
    · intro a ha b hb e
      rw [List.mem_singleton] at hb
      subst hb
      subst e
      rcases List.mem_append.mp ha with z | z
      · exact hm z
      · exact nodup_take hR hi (List.mem_filter.mp z).1
  · intro t ht
    rcases List.mem_append.mp ht with z | z
    · rcases List.mem_append.mp z with y | y
      · exact h1 t y
      · exact h2 t (List.mem_of_mem_take (List.mem_filter.mp y).1)
    · rw [List.mem_singleton] at z
      subst z
      exact h2 _ (List.getElem_mem hi)

set_option maxHeartbeats 4000000 in
set_option maxRecDepth 100000 in
/-- join(sign) -/
theorem cM_join (l : Launch) (D : va_G) (tys : List (ClassId × FieldType)) (A : Nat → Prop) (ws : va_W) (cI : ClassId) (hI : tys[0]? = some (cI, .int)) (ad : Nat → Nat) (km : Nat) (v : Nat → Int32) (F : Nat → Nat → Int32) (n : Nat) (S : Nat → List Nat) (hS0 : MLs v F n S) (g : Gr) (K : Int32) (hK3 : K = 43 ∨ K = 45 ∨ K = 38) (hn2 : 2 ≤ n) (hn58 : n < 58) (hnL : (S (n - 2)).Nodup) (hnR : (S (n - 1)).Nodup) (hM : ModF cI ad ws km v F) : x_Mv l yM_join wM_join (xR 1) D xCl tys A [.ref (ad km), .int K] ws (fun ws1 => x_fr km (km + 24) ws ws1 ∧ ∃ v9 F9, ModF cI ad ws1 km v9 F9 ∧ MLs v9 F9 (n - 1) (updJ S (n - 2) (twoX g K (S (n - 2)) (S (n - 1)))) ∧ v9 30 = v 30 + nI (twoX g K (S (n - 2)) (S (n - 1))).length ∧ vk [28, 30] v v9 ∧ fk [14, 15] F F9) := by
  have hF : x_fr km (km + 24) ws ws := x_fr.rf
  obtain ⟨hv28, hn60, hSi⟩ := id hS0
  refine x_enter (by decide) rfl (Nat.le_of_ble_eq_true rfl) (fun p e s m args below meth c ls hx hb hr hlk hml hown hnm hts hK hP hD hS hA hN hl => ?_)
  have hl : lv_has ls 7 [(0, .ref (ad km)), (1, .int K)] := hl
  have loop_101 : ∀ (fu9 : Nat) (v1 : Nat → Int32) (F1 : Nat → Nat → Int32) (M : List Nat) (i : Nat) (hi : i ≤ (S (n - 1)).length) (ws1 : va_W) (H : Heap) (locs : List Loc) (ls : Array Slot), M = (if K = 43 then (S (n - 2)) ++ ((S (n - 1)).take i).filter (fun t => !decide (t ∈ (S (n - 2)))) else (S (n - 2)).filter (kp K (S (n - 1)))) → x_fr km (km + 24) ws ws1 → ModF cI ad ws1 km v1 F1 → MLs v1 F1 (n + 1) (updJ S n M) → vk [28, 30] v v1 → fk [14, 15] F F1 → v1 30 = v 30 → (S (n - 1)).length - i < fu9 → va_P D xCl ws1 H → va_D A ws1 → va_S A s.heap H locs → lv_has ls 7 [(0, .ref (ad km)), (1, .int K), (2, .int (nI (n - 2))), (3, .int (nI (n - 1))), (4, .int (nI i))] → W p l e (xR 1) s m args below meth c H locs 0 0 (MQ below (va_Qv (fun ws1 => x_fr km (km + 24) ws ws1 ∧ ∃ v9 F9, ModF cI ad ws1 km v9 F9 ∧ MLs v9 F9 (n - 1) (updJ S (n - 2) (twoX g K (S (n - 2)) (S (n - 1)))) ∧ v9 30 = v 30 + nI (twoX g K (S (n - 2)) (S (n - 1))).length ∧ vk [28, 30] v v9 ∧ fk [14, 15] F F9) (x_B D xCl tys A) A) args s 0 0 A) (F0 m 101 ls []) := by
    intro fu9
    induction fu9 with
    | zero => intro v1 F1 M i hi ws1 H locs ls hMM hF hM hS1 hvk hfk hv30 hme; exact absurd hme (Nat.not_lt_zero _)
    | succ fu9 ih =>
      intro v1 F1 M i hi ws1 H locs ls hMM hF hM hS1 hvk hfk hv30 hme hP hD hS hl
      obtain ⟨hu28, hu60, hui⟩ := id hS1
      have huL := hui (n - 2) (by omega)
      have huR := hui (n - 1) (by omega)
      rw [updJ_o (by omega)] at huL huR
      have huM := hui n (by omega)
      rw [updJ_s] at huM
      refine lv_iload hx hb dM_join_101 (lv_at hl 4 rfl) ?_
      refine lv_aload_n hx hb dM_join_103 rfl (lv_at hl 0 rfl) ?_
      refine va_get (D := D) (cl := xCl) (ci := 7) (v := .ref (ad (km + 15))) (C := rnM) (T := tbM) (N := 39) hx hb hts inM hown hK hP km hM.1 rfl 24 (by decide) (hts _ tw_641) (fun _ h9 => h9) rfl dM_join_104 ?_
      refine lv_iload_n hx hb dM_join_107 rfl (lv_at hl 3 rfl) ?_
      refine va_iald hx hb hK hP (km + 15) 0 (hM.a 15 60 rfl (by omega) (by omega)) hI (vp_in_nI (by omega) (by omega)) dM_join_108 ?_
      refine lv_topi (fun v_1 ev_1 => ?_)
      obtain rfl : v_1 = nI (S (n - 1)).length := by rw [ev_1, nI_clamp (by omega)]; exact huR.2.1
      refine lv_icmp_ge (tgt := 169) hx hb dM_join_109 (by decide) (fun c109 => ?_) (fun c109 => ?_)
      · refine lv_aload_n hx hb dM_join_169 rfl (lv_at hl 0 rfl) ?_
        refine lv_iconst (v := 2) hx hb dM_join_170 (by decide) ?_
        refine x_callv (x_runV (n := 1) (As := [.int 2]) (rest := []) ⟨hx, hb, hml, hown, hts⟩ (cM_replace l D tys A ws1 cI hI ad km v1 F1 (n + 1) (updJ S n M) hS1 2 (by omega) (by omega) hM) tw_853 tw_855 ts_M_replace tw_8 tw_856 (by decide +kernel) rfl rfl ⟨by decide, by decide⟩ ⟨Nat.zero_le _, Nat.zero_le _⟩ (va_recv hK hP (ci := 7) (q0 := km) rfl hM.1) hK hP hD hS hA hN rfl hl.1 rfl (lv_room (Nat.le_of_ble_eq_true rfl)) dM_join_171) hS (fun ws_2 H locs hrp hP hD hS => ?_)
        obtain ⟨hF9, v9, F9, hM9, hS9, h30, hvk9, hfk9⟩ := hrp
        rw [show n + 1 - 1 - 2 + 1 = n - 1 by omega, show n + 1 - 1 - 2 = n - 2 by omega, show n + 1 - 1 = n by omega, updJ_s] at hS9
        rw [show n + 1 - 1 = n by omega, updJ_s] at h30
        have hXM : M = (twoX g K (S (n - 2)) (S (n - 1))) := by rw [hMM, show (S (n - 1)).take i = (S (n - 1)) from List.take_of_length_le (by rw [nI_leI (by omega) (by omega)] at c109; exact c109)]; exact joinX hK3 hnR
        exact x_vret hx hb hr hlk hK hP hD hS dM_join_174 ⟨hF.tr hF9, v9, F9, hM9, hS9.cg (fun i hi => by rw [← hXM]; by_cases e : i = n - 2; (rw [e, updJ_s, updJ_s]); (rw [updJ_o e, updJ_o e, updJ_o (by omega)])), by rw [h30, hv30, hXM], hvk.tr hvk9, hfk.tr hfk9⟩
      · have hi2 : i < (S (n - 1)).length := by rw [nI_leI (by omega) (by omega)] at c109; omega
        refine lv_iload_n hx hb dM_join_112 rfl (lv_at hl 1 rfl) ?_
        refine lv_bipush (v := 43) hx hb dM_join_113 (by decide) ?_
        refine lv_icmp_ne (tgt := 169) hx hb dM_join_115 (by decide) (fun c115 => ?_) (fun c115 => ?_)
        · refine lv_aload_n hx hb dM_join_169 rfl (lv_at hl 0 rfl) ?_
          refine lv_iconst (v := 2) hx hb dM_join_170 (by decide) ?_
          refine x_callv (x_runV (n := 1) (As := [.int 2]) (rest := []) ⟨hx, hb, hml, hown, hts⟩ (cM_replace l D tys A ws1 cI hI ad km v1 F1 (n + 1) (updJ S n M) hS1 2 (by omega) (by omega) hM) tw_853 tw_855 ts_M_replace tw_8 tw_856 (by decide +kernel) rfl rfl ⟨by decide, by decide⟩ ⟨Nat.zero_le _, Nat.zero_le _⟩ (va_recv hK hP (ci := 7) (q0 := km) rfl hM.1) hK hP hD hS hA hN rfl hl.1 rfl (lv_room (Nat.le_of_ble_eq_true rfl)) dM_join_171) hS (fun ws_3 H locs hrp hP hD hS => ?_)
          obtain ⟨hF9, v9, F9, hM9, hS9, h30, hvk9, hfk9⟩ := hrp
          rw [show n + 1 - 1 - 2 + 1 = n - 1 by omega, show n + 1 - 1 - 2 = n - 2 by omega, show n + 1 - 1 = n by omega, updJ_s] at hS9
          rw [show n + 1 - 1 = n by omega, updJ_s] at h30
          have hXM : M = (twoX g K (S (n - 2)) (S (n - 1))) := by rw [hMM, if_neg c115, ← joinX hK3 hnR, if_neg c115]
          exact x_vret hx hb hr hlk hK hP hD hS dM_join_174 ⟨hF.tr hF9, v9, F9, hM9, hS9.cg (fun i hi => by rw [← hXM]; by_cases e : i = n - 2; (rw [e, updJ_s, updJ_s]); (rw [updJ_o e, updJ_o e, updJ_o (by omega)])), by rw [h30, hv30, hXM], hvk.tr hvk9, hfk.tr hfk9⟩
        · have h30t : (S (n - 1))[i] < 30 := huR.2.2.1 _ (List.getElem_mem hi2)
          refine lv_aload_n hx hb dM_join_118 rfl (lv_at hl 0 rfl) ?_
          refine lv_bipush (v := 30) hx hb dM_join_119 (by decide) ?_
          refine lv_iload_n hx hb dM_join_121 rfl (lv_at hl 2 rfl) ?_
          refine lv_imul hx hb dM_join_122 ?_
          refine lv_topi (fun v_4 ev_4 => ?_)
          obtain rfl : v_4 = nI (30 * (n - 2)) := by rw [ev_4, show (30 : Int32) = nI 30 from rfl, pk_mul]
          refine lv_aload_n hx hb dM_join_123 rfl (lv_at hl 0 rfl) ?_
          refine va_get (D := D) (cl := xCl) (ci := 7) (v := .ref (ad (km + 15))) (C := rnM) (T := tbM) (N := 39) hx hb hts inM hown hK hP km hM.1 rfl 24 (by decide) (hts _ tw_641) (fun _ h9 => h9) rfl dM_join_124 ?_
          refine lv_iload_n hx hb dM_join_127 rfl (lv_at hl 2 rfl) ?_
          refine va_iald hx hb hK hP (km + 15) 0 (hM.a 15 60 rfl (by omega) (by omega)) hI (vp_in_nI (by omega) (by omega)) dM_join_128 ?_
          refine lv_topi (fun v_5 ev_5 => ?_)
          obtain rfl : v_5 = nI (S (n - 2)).length := by rw [ev_5, nI_clamp (by omega)]; exact huL.2.1
          refine lv_aload_n hx hb dM_join_129 rfl (lv_at hl 0 rfl) ?_
          refine va_get (D := D) (cl := xCl) (ci := 7) (v := .ref (ad (km + 14))) (C := rnM) (T := tbM) (N := 39) hx hb hts inM hown hK hP km hM.1 rfl 23 (by decide) (hts _ tw_640) (fun _ h9 => h9) rfl dM_join_130 ?_
          refine lv_bipush (v := 30) hx hb dM_join_133 (by decide) ?_
          refine lv_iload_n hx hb dM_join_135 rfl (lv_at hl 3 rfl) ?_
          refine lv_imul hx hb dM_join_136 ?_
          refine lv_topi (fun v_6 ev_6 => ?_)
          obtain rfl : v_6 = nI (30 * (n - 1)) := by rw [ev_6, show (30 : Int32) = nI 30 from rfl, pk_mul]
          refine lv_iload hx hb dM_join_137 (lv_at hl 4 rfl) ?_
          refine lv_iadd hx hb dM_join_139 ?_
          refine lv_topi (fun v_7 ev_7 => ?_)
          obtain rfl : v_7 = nI (30 * (n - 1) + i) := by rw [ev_7, nI_add]
          refine va_iald hx hb hK hP (km + 14) 0 (hM.a 14 1800 rfl (by omega) (by omega)) hI (vp_in_nI (by omega) (by omega)) dM_join_140 ?_
          refine lv_topi (fun v_8 ev_8 => ?_)
          obtain rfl : v_8 = nI (S (n - 1))[i] := by rw [ev_8, nI_clamp (by omega)]; exact huR.2.2.2 i hi2
          refine x_calli (x_runV (n := 3) (As := [.int (nI (30 * (n - 2))), .int (nI (S (n - 2)).length), .int (nI (S (n - 1))[i])]) (rest := []) ⟨hx, hb, hml, hown, hts⟩ (cM_isIn l D tys A ws1 cI hI ad km v1 F1 (30 * (n - 2)) (S (n - 1))[i] (S (n - 2)) huL.1 (by omega) (by omega) (fun i h => huL.2.2.1 _ (List.getElem_mem h)) (fun j h => huL.2.2.2 j h) hM) tw_849 tw_851 ts_M_isIn tw_8 tw_852 (by decide +kernel) rfl rfl ⟨by decide, by decide⟩ ⟨Nat.zero_le _, Nat.zero_le _⟩ (va_recv hK hP (ci := 7) (q0 := km) rfl hM.1) hK hP hD hS hA hN rfl hl.1 rfl (lv_room (Nat.le_of_ble_eq_true rfl)) dM_join_141) hS (fun rii ws_9 H locs hii hP hD hS => ?_)
          obtain ⟨hii, rfl⟩ := hii
          refine lv_if_ne (tgt := 163) hx hb dM_join_144 (by decide) (fun c144 => ?_) (fun c144 => ?_)
          · refine lv_iinc (v := (nI (i + 1))) (lv' := [(4, .int (nI (i + 1))), (0, .ref (ad km)), (1, .int K), (2, .int (nI (n - 2))), (3, .int (nI (n - 1)))]) hx hb dM_join_163 hl (k := 4) rfl (nI_1 _) (by decide) rfl (fun ls hl => ?_)
            refine lv_goto (tgt := 101) hx hb dM_join_166 (by decide) ?_
            exact ih v1 F1 M (i + 1) (by omega) ws1 _ _ _ (by rw [hii, b2i_n0, decide_eq_true_eq] at c144; rw [hMM, if_pos c115, if_pos c115, flt_s hi2, if_neg (by simp [c144])]; simp) hF hM hS1 hvk hfk hv30 (by omega) hP hD hS (lv_sub hl [1, 2, 3, 4, 0] rfl)
          · have hnin : (S (n - 1))[i] ∉ (S (n - 2)) := by rw [hii, b2i_0, decide_eq_false_iff_not] at c144; exact c144
            have hcap : M.length < 30 := by rw [hMM, if_pos c115]; exact cap2 hnL hnR huL.2.2.1 huR.2.2.1 hi2 hnin
            have h30t : (S (n - 1))[i] < 30 := huR.2.2.1 _ (List.getElem_mem hi2)
            refine lv_aload_n hx hb dM_join_147 rfl (lv_at hl 0 rfl) ?_
            refine lv_aload_n hx hb dM_join_148 rfl (lv_at hl 0 rfl) ?_
            refine va_get (D := D) (cl := xCl) (ci := 7) (v := .ref (ad (km + 14))) (C := rnM) (T := tbM) (N := 39) hx hb hts inM hown hK hP km hM.1 rfl 23 (by decide) (hts _ tw_640) (fun _ h9 => h9) rfl dM_join_149 ?_
            refine lv_bipush (v := 30) hx hb dM_join_152 (by decide) ?_
            refine lv_iload_n hx hb dM_join_154 rfl (lv_at hl 3 rfl) ?_
            refine lv_imul hx hb dM_join_155 ?_
            refine lv_topi (fun v_10 ev_10 => ?_)
            obtain rfl : v_10 = nI (30 * (n - 1)) := by rw [ev_10, show (30 : Int32) = nI 30 from rfl, pk_mul]
            refine lv_iload hx hb dM_join_156 (lv_at hl 4 rfl) ?_
            refine lv_iadd hx hb dM_join_158 ?_
            refine lv_topi (fun v_11 ev_11 => ?_)
            obtain rfl : v_11 = nI (30 * (n - 1) + i) := by rw [ev_11, nI_add]
            refine va_iald hx hb hK hP (km + 14) 0 (hM.a 14 1800 rfl (by omega) (by omega)) hI (vp_in_nI (by omega) (by omega)) dM_join_159 ?_
            refine lv_topi (fun v_12 ev_12 => ?_)
            obtain rfl : v_12 = nI (S (n - 1))[i] := by rw [ev_12, nI_clamp (by omega)]; exact huR.2.2.2 i hi2
            refine x_callv (x_runV (n := 1) (As := [.int (nI (S (n - 1))[i])]) (rest := []) ⟨hx, hb, hml, hown, hts⟩ (cM_add l D tys A ws1 cI hI ad km v1 F1 (n + 1) (updJ S n M) hS1 (S (n - 1))[i] (by omega) (by omega) (by rw [show n + 1 - 1 = n by omega, updJ_s]; exact hcap) hM) tw_837 tw_839 ts_M_add tw_8 tw_840 (by decide +kernel) rfl rfl ⟨by decide, by decide⟩ ⟨Nat.zero_le _, Nat.zero_le _⟩ (va_recv hK hP (ci := 7) (q0 := km) rfl hM.1) hK hP hD hS hA hN rfl hl.1 rfl (lv_room (Nat.le_of_ble_eq_true rfl)) dM_join_160) hS (fun ws_13 H locs had hP hD hS => ?_)
            obtain ⟨hF9, v2, F2, hM, hS2, hvk2, hfk2⟩ := had
            have hF := hF.tr hF9
            rw [show n + 1 - 1 = n by omega, updJ_s, updJ_2] at hS2
            refine lv_iinc (v := (nI (i + 1))) (lv' := [(4, .int (nI (i + 1))), (0, .ref (ad km)), (1, .int K), (2, .int (nI (n - 2))), (3, .int (nI (n - 1)))]) hx hb dM_join_163 hl (k := 4) rfl (nI_1 _) (by decide) rfl (fun ls hl => ?_)
            refine lv_goto (tgt := 101) hx hb dM_join_166 (by decide) ?_
            exact ih v2 F2 _ (i + 1) (by omega) ws_13 _ _ _ (by rw [if_pos c115, flt_s hi2, if_pos (by simp [hnin]), hMM, if_pos c115, List.append_assoc]) hF hM hS2 (hvk.tr (hvk2.wd (by simp))) (hfk.tr hfk2) (by rw [hvk2 30 (by simp)]; exact hv30) (by omega) hP hD hS (lv_sub hl [1, 2, 3, 4, 0] rfl)
  have loop_21 : ∀ (fu9 : Nat) (v1 : Nat → Int32) (F1 : Nat → Nat → Int32) (M : List Nat) (i : Nat) (hi : i ≤ (S (n - 2)).length) (ws1 : va_W) (H : Heap) (locs : List Loc) (ls : Array Slot), M = ((S (n - 2)).take i).filter (kp K (S (n - 1))) → x_fr km (km + 24) ws ws1 → ModF cI ad ws1 km v1 F1 → MLs v1 F1 (n + 1) (updJ S n M) → vk [28, 30] v v1 → fk [14, 15] F F1 → v1 30 = v 30 → (S (n - 2)).length - i < fu9 → va_P D xCl ws1 H → va_D A ws1 → va_S A s.heap H locs → lv_has ls 7 [(0, .ref (ad km)), (1, .int K), (2, .int (nI (n - 2))), (3, .int (nI (n - 1))), (4, .int (nI i))] → W p l e (xR 1) s m args below meth c H locs 0 0 (MQ below (va_Qv (fun ws1 => x_fr km (km + 24) ws ws1 ∧ ∃ v9 F9, ModF cI ad ws1 km v9 F9 ∧ MLs v9 F9 (n - 1) (updJ S (n - 2) (twoX g K (S (n - 2)) (S (n - 1)))) ∧ v9 30 = v 30 + nI (twoX g K (S (n - 2)) (S (n - 1))).length ∧ vk [28, 30] v v9 ∧ fk [14, 15] F F9) (x_B D xCl tys A) A) args s 0 0 A) (F0 m 21 ls []) := by
    intro fu9
    induction fu9 with
    | zero => intro v1 F1 M i hi ws1 H locs ls hMM hF hM hS1 hvk hfk hv30 hme; exact absurd hme (Nat.not_lt_zero _)
    | succ fu9 ih =>
      intro v1 F1 M i hi ws1 H locs ls hMM hF hM hS1 hvk hfk hv30 hme hP hD hS hl
      obtain ⟨hu28, hu60, hui⟩ := id hS1
      have huL := hui (n - 2) (by omega)
      have huR := hui (n - 1) (by omega)
      rw [updJ_o (by omega)] at huL huR
      have huM := hui n (by omega)
      rw [updJ_s] at huM
      refine lv_iload hx hb dM_join_21 (lv_at hl 4 rfl) ?_
      refine lv_aload_n hx hb dM_join_23 rfl (lv_at hl 0 rfl) ?_
      refine va_get (D := D) (cl := xCl) (ci := 7) (v := .ref (ad (km + 15))) (C := rnM) (T := tbM) (N := 39) hx hb hts inM hown hK hP km hM.1 rfl 24 (by decide) (hts _ tw_641) (fun _ h9 => h9) rfl dM_join_24 ?_
      refine lv_iload_n hx hb dM_join_27 rfl (lv_at hl 2 rfl) ?_
      refine va_iald hx hb hK hP (km + 15) 0 (hM.a 15 60 rfl (by omega) (by omega)) hI (vp_in_nI (by omega) (by omega)) dM_join_28 ?_
      refine lv_topi (fun v_14 ev_14 => ?_)
      obtain rfl : v_14 = nI (S (n - 2)).length := by rw [ev_14, nI_clamp (by omega)]; exact huL.2.1
      refine lv_icmp_ge (tgt := 98) hx hb dM_join_29 (by decide) (fun c29 => ?_) (fun c29 => ?_)
      · refine lv_iconst (v := 0) hx hb dM_join_98 (by decide) ?_
        refine lv_istore (lv' := [(4, .int 0), (0, .ref (ad km)), (1, .int K), (2, .int (nI (n - 2))), (3, .int (nI (n - 1)))]) hx hb dM_join_99 hl (by decide) rfl (fun ls hl => ?_)
        exact loop_101 _ v1 F1 M 0 (Nat.zero_le _) ws1 _ _ _ (by rw [hMM, show (S (n - 2)).take i = (S (n - 2)) from List.take_of_length_le (by rw [nI_leI (by omega) (by omega)] at c29; exact c29), List.take_zero]; by_cases z : K = 43; (rw [if_pos z, z, kp_43]; simp); (rw [if_neg z])) hF hM hS1 hvk hfk hv30 (Nat.lt_succ_self _) hP hD hS (lv_sub hl [1, 2, 3, 4, 0] rfl)
      · have hi2 : i < (S (n - 2)).length := by rw [nI_leI (by omega) (by omega)] at c29; omega
        have hcap : M.length < 30 := by rw [hMM]; have := flt_len (S (n - 2)) (kp K (S (n - 1))) i; have := huL.1; omega
        have h30t : (S (n - 2))[i] < 30 := huL.2.2.1 _ (List.getElem_mem hi2)
        refine lv_aload_n hx hb dM_join_32 rfl (lv_at hl 0 rfl) ?_
        refine va_get (D := D) (cl := xCl) (ci := 7) (v := .ref (ad (km + 14))) (C := rnM) (T := tbM) (N := 39) hx hb hts inM hown hK hP km hM.1 rfl 23 (by decide) (hts _ tw_640) (fun _ h9 => h9) rfl dM_join_33 ?_
        refine lv_bipush (v := 30) hx hb dM_join_36 (by decide) ?_
        refine lv_iload_n hx hb dM_join_38 rfl (lv_at hl 2 rfl) ?_
        refine lv_imul hx hb dM_join_39 ?_
        refine lv_topi (fun v_15 ev_15 => ?_)
        obtain rfl : v_15 = nI (30 * (n - 2)) := by rw [ev_15, show (30 : Int32) = nI 30 from rfl, pk_mul]
        refine lv_iload hx hb dM_join_40 (lv_at hl 4 rfl) ?_
        refine lv_iadd hx hb dM_join_42 ?_
        refine lv_topi (fun v_16 ev_16 => ?_)
        obtain rfl : v_16 = nI (30 * (n - 2) + i) := by rw [ev_16, nI_add]
        refine va_iald hx hb hK hP (km + 14) 0 (hM.a 14 1800 rfl (by omega) (by omega)) hI (vp_in_nI (by omega) (by omega)) dM_join_43 ?_
        refine lv_topi (fun v_17 ev_17 => ?_)
        obtain rfl : v_17 = nI (S (n - 2))[i] := by rw [ev_17, nI_clamp (by omega)]; exact huL.2.2.2 i hi2
        refine lv_istore (lv' := [(5, .int (nI (S (n - 2))[i])), (0, .ref (ad km)), (1, .int K), (2, .int (nI (n - 2))), (3, .int (nI (n - 1))), (4, .int (nI i))]) hx hb dM_join_44 hl (by decide) rfl (fun ls hl => ?_)
        refine lv_aload_n hx hb dM_join_46 rfl (lv_at hl 1 rfl) ?_
        refine lv_bipush (v := 30) hx hb dM_join_47 (by decide) ?_
        refine lv_iload_n hx hb dM_join_49 rfl (lv_at hl 4 rfl) ?_
        refine lv_imul hx hb dM_join_50 ?_
        refine lv_topi (fun v_18 ev_18 => ?_)
        obtain rfl : v_18 = nI (30 * (n - 1)) := by rw [ev_18, show (30 : Int32) = nI 30 from rfl, pk_mul]
        refine lv_aload_n hx hb dM_join_51 rfl (lv_at hl 1 rfl) ?_
        refine va_get (D := D) (cl := xCl) (ci := 7) (v := .ref (ad (km + 15))) (C := rnM) (T := tbM) (N := 39) hx hb hts inM hown hK hP km hM.1 rfl 24 (by decide) (hts _ tw_641) (fun _ h9 => h9) rfl dM_join_52 ?_
        refine lv_iload_n hx hb dM_join_55 rfl (lv_at hl 4 rfl) ?_
        refine va_iald hx hb hK hP (km + 15) 0 (hM.a 15 60 rfl (by omega) (by omega)) hI (vp_in_nI (by omega) (by omega)) dM_join_56 ?_
        refine lv_topi (fun v_19 ev_19 => ?_)
        obtain rfl : v_19 = nI (S (n - 1)).length := by rw [ev_19, nI_clamp (by omega)]; exact huR.2.1
        refine lv_iload hx hb dM_join_57 (lv_at hl 0 rfl) ?_
        refine x_calli (x_runV (n := 3) (As := [.int (nI (30 * (n - 1))), .int (nI (S (n - 1)).length), .int (nI (S (n - 2))[i])]) (rest := []) ⟨hx, hb, hml, hown, hts⟩ (cM_isIn l D tys A ws1 cI hI ad km v1 F1 (30 * (n - 1)) (S (n - 2))[i] (S (n - 1)) huR.1 (by omega) (by omega) (fun i h => huR.2.2.1 _ (List.getElem_mem h)) (fun j h => huR.2.2.2 j h) hM) tw_849 tw_851 ts_M_isIn tw_8 tw_852 (by decide +kernel) rfl rfl ⟨by decide, by decide⟩ ⟨Nat.zero_le _, Nat.zero_le _⟩ (va_recv hK hP (ci := 7) (q0 := km) rfl hM.1) hK hP hD hS hA hN rfl hl.1 rfl (lv_room (Nat.le_of_ble_eq_true rfl)) dM_join_59) hS (fun rin ws_20 H locs hin hP hD hS => ?_)
        obtain ⟨hin, rfl⟩ := hin
        refine lv_istore (lv' := [(6, .int rin), (5, .int (nI (S (n - 2))[i])), (0, .ref (ad km)), (1, .int K), (2, .int (nI (n - 2))), (3, .int (nI (n - 1))), (4, .int (nI i))]) hx hb dM_join_62 hl (by decide) rfl (fun ls hl => ?_)
        refine lv_iload_n hx hb dM_join_64 rfl (lv_at hl 3 rfl) ?_
        refine lv_bipush (v := 43) hx hb dM_join_65 (by decide) ?_
        refine lv_icmp_eq (tgt := 86) hx hb dM_join_67 (by decide) (fun c67 => ?_) (fun c67 => ?_)
        · refine lv_aload_n hx hb dM_join_86 rfl (lv_at hl 2 rfl) ?_
          refine lv_iload hx hb dM_join_87 (lv_at hl 1 rfl) ?_
          refine x_callv (x_runV (n := 1) (As := [.int (nI (S (n - 2))[i])]) (rest := []) ⟨hx, hb, hml, hown, hts⟩ (cM_add l D tys A ws1 cI hI ad km v1 F1 (n + 1) (updJ S n M) hS1 (S (n - 2))[i] (by omega) (by omega) (by rw [show n + 1 - 1 = n by omega, updJ_s]; exact hcap) hM) tw_837 tw_839 ts_M_add tw_8 tw_840 (by decide +kernel) rfl rfl ⟨by decide, by decide⟩ ⟨Nat.zero_le _, Nat.zero_le _⟩ (va_recv hK hP (ci := 7) (q0 := km) rfl hM.1) hK hP hD hS hA hN rfl hl.1 rfl (lv_room (Nat.le_of_ble_eq_true rfl)) dM_join_89) hS (fun ws_21 H locs had hP hD hS => ?_)
          obtain ⟨hF9, v2, F2, hM, hS2, hvk2, hfk2⟩ := had
          have hF := hF.tr hF9
          rw [show n + 1 - 1 = n by omega, updJ_s, updJ_2] at hS2
          refine lv_iinc (v := (nI (i + 1))) (lv' := [(4, .int (nI (i + 1))), (6, .int rin), (5, .int (nI (S (n - 2))[i])), (0, .ref (ad km)), (1, .int K), (2, .int (nI (n - 2))), (3, .int (nI (n - 1)))]) hx hb dM_join_92 hl (k := 6) rfl (nI_1 _) (by decide) rfl (fun ls hl => ?_)
          refine lv_goto (tgt := 21) hx hb dM_join_95 (by decide) ?_
          exact ih v2 F2 _ (i + 1) (by omega) ws_21 _ _ _ (by have hk : kp K (S (n - 1)) (S (n - 2))[i] = true := (by show (decide (K = 43) || _) = true; rw [decide_eq_true c67]; rfl); rw [flt_s hi2, if_pos hk, hMM]) hF hM hS2 (hvk.tr (hvk2.wd (by simp))) (hfk.tr hfk2) (by rw [hvk2 30 (by simp)]; exact hv30) (by omega) hP hD hS (lv_sub hl [3, 4, 5, 6, 0] rfl)
        · refine lv_iload hx hb dM_join_70 (lv_at hl 0 rfl) ?_
          refine lv_iload_n hx hb dM_join_72 rfl (lv_at hl 3 rfl) ?_
          refine lv_bipush (v := 38) hx hb dM_join_73 (by decide) ?_
          refine lv_icmp_ne (tgt := 82) hx hb dM_join_75 (by decide) (fun c75 => ?_) (fun c75 => ?_)
          · refine lv_iconst (v := 0) hx hb dM_join_82 (by decide) ?_
            refine lv_icmp_ne (tgt := 92) hx hb dM_join_83 (by decide) (fun c83 => ?_) (fun c83 => ?_)
            · refine lv_iinc (v := (nI (i + 1))) (lv' := [(4, .int (nI (i + 1))), (6, .int rin), (5, .int (nI (S (n - 2))[i])), (0, .ref (ad km)), (1, .int K), (2, .int (nI (n - 2))), (3, .int (nI (n - 1)))]) hx hb dM_join_92 hl (k := 6) rfl (nI_1 _) (by decide) rfl (fun ls hl => ?_)
              refine lv_goto (tgt := 21) hx hb dM_join_95 (by decide) ?_
              exact ih v1 F1 M (i + 1) (by omega) ws1 _ _ _ (by have hk : kp K (S (n - 1)) (S (n - 2))[i] = false := (by show (decide (K = 43) || (decide ((S (n - 2))[i] ∈ (S (n - 1))) == decide (K = 38))) = false; rw [decide_eq_false c67, decide_eq_false (show ¬ K = 38 from c75)]; rw [hin] at c83; revert c83; cases decide ((S (n - 2))[i] ∈ (S (n - 1))) <;> decide); rw [hMM, flt_s hi2, if_neg (by rw [hk]; decide)]; simp) hF hM hS1 hvk hfk hv30 (by omega) hP hD hS (lv_sub hl [3, 4, 5, 6, 0] rfl)
            · refine lv_aload_n hx hb dM_join_86 rfl (lv_at hl 2 rfl) ?_
              refine lv_iload hx hb dM_join_87 (lv_at hl 1 rfl) ?_
              refine x_callv (x_runV (n := 1) (As := [.int (nI (S (n - 2))[i])]) (rest := []) ⟨hx, hb, hml, hown, hts⟩ (cM_add l D tys A ws1 cI hI ad km v1 F1 (n + 1) (updJ S n M) hS1 (S (n - 2))[i] (by omega) (by omega) (by rw [show n + 1 - 1 = n by omega, updJ_s]; exact hcap) hM) tw_837 tw_839 ts_M_add tw_8 tw_840 (by decide +kernel) rfl rfl ⟨by decide, by decide⟩ ⟨Nat.zero_le _, Nat.zero_le _⟩ (va_recv hK hP (ci := 7) (q0 := km) rfl hM.1) hK hP hD hS hA hN rfl hl.1 rfl (lv_room (Nat.le_of_ble_eq_true rfl)) dM_join_89) hS (fun ws_22 H locs had hP hD hS => ?_)
              obtain ⟨hF9, v2, F2, hM, hS2, hvk2, hfk2⟩ := had
              have hF := hF.tr hF9
              rw [show n + 1 - 1 = n by omega, updJ_s, updJ_2] at hS2
              refine lv_iinc (v := (nI (i + 1))) (lv' := [(4, .int (nI (i + 1))), (6, .int rin), (5, .int (nI (S (n - 2))[i])), (0, .ref (ad km)), (1, .int K), (2, .int (nI (n - 2))), (3, .int (nI (n - 1)))]) hx hb dM_join_92 hl (k := 6) rfl (nI_1 _) (by decide) rfl (fun ls hl => ?_)
              refine lv_goto (tgt := 21) hx hb dM_join_95 (by decide) ?_
              exact ih v2 F2 _ (i + 1) (by omega) ws_22 _ _ _ (by have hk : kp K (S (n - 1)) (S (n - 2))[i] = true := (by show (decide (K = 43) || (decide ((S (n - 2))[i] ∈ (S (n - 1))) == decide (K = 38))) = true; rw [decide_eq_false c67, decide_eq_false (show ¬ K = 38 from c75)]; rw [hin] at c83; revert c83; cases decide ((S (n - 2))[i] ∈ (S (n - 1))) <;> decide); rw [flt_s hi2, if_pos hk, hMM]) hF hM hS2 (hvk.tr (hvk2.wd (by simp))) (hfk.tr hfk2) (by rw [hvk2 30 (by simp)]; exact hv30) (by omega) hP hD hS (lv_sub hl [3, 4, 5, 6, 0] rfl)
          · refine lv_iconst (v := 1) hx hb dM_join_78 (by decide) ?_
            refine lv_goto (tgt := 83) hx hb dM_join_79 (by decide) ?_
            refine lv_icmp_ne (tgt := 92) hx hb dM_join_83 (by decide) (fun c83 => ?_) (fun c83 => ?_)
            · refine lv_iinc (v := (nI (i + 1))) (lv' := [(4, .int (nI (i + 1))), (6, .int rin), (5, .int (nI (S (n - 2))[i])), (0, .ref (ad km)), (1, .int K), (2, .int (nI (n - 2))), (3, .int (nI (n - 1)))]) hx hb dM_join_92 hl (k := 6) rfl (nI_1 _) (by decide) rfl (fun ls hl => ?_)
              refine lv_goto (tgt := 21) hx hb dM_join_95 (by decide) ?_
              exact ih v1 F1 M (i + 1) (by omega) ws1 _ _ _ (by have hk : kp K (S (n - 1)) (S (n - 2))[i] = false := (by show (decide (K = 43) || (decide ((S (n - 2))[i] ∈ (S (n - 1))) == decide (K = 38))) = false; rw [decide_eq_false c67, decide_eq_true (show K = 38 from c75)]; rw [hin] at c83; revert c83; cases decide ((S (n - 2))[i] ∈ (S (n - 1))) <;> decide); rw [hMM, flt_s hi2, if_neg (by rw [hk]; decide)]; simp) hF hM hS1 hvk hfk hv30 (by omega) hP hD hS (lv_sub hl [3, 4, 5, 6, 0] rfl)
            · refine lv_aload_n hx hb dM_join_86 rfl (lv_at hl 2 rfl) ?_
              refine lv_iload hx hb dM_join_87 (lv_at hl 1 rfl) ?_
              refine x_callv (x_runV (n := 1) (As := [.int (nI (S (n - 2))[i])]) (rest := []) ⟨hx, hb, hml, hown, hts⟩ (cM_add l D tys A ws1 cI hI ad km v1 F1 (n + 1) (updJ S n M) hS1 (S (n - 2))[i] (by omega) (by omega) (by rw [show n + 1 - 1 = n by omega, updJ_s]; exact hcap) hM) tw_837 tw_839 ts_M_add tw_8 tw_840 (by decide +kernel) rfl rfl ⟨by decide, by decide⟩ ⟨Nat.zero_le _, Nat.zero_le _⟩ (va_recv hK hP (ci := 7) (q0 := km) rfl hM.1) hK hP hD hS hA hN rfl hl.1 rfl (lv_room (Nat.le_of_ble_eq_true rfl)) dM_join_89) hS (fun ws_23 H locs had hP hD hS => ?_)
              obtain ⟨hF9, v2, F2, hM, hS2, hvk2, hfk2⟩ := had
              have hF := hF.tr hF9
              rw [show n + 1 - 1 = n by omega, updJ_s, updJ_2] at hS2
              refine lv_iinc (v := (nI (i + 1))) (lv' := [(4, .int (nI (i + 1))), (6, .int rin), (5, .int (nI (S (n - 2))[i])), (0, .ref (ad km)), (1, .int K), (2, .int (nI (n - 2))), (3, .int (nI (n - 1)))]) hx hb dM_join_92 hl (k := 6) rfl (nI_1 _) (by decide) rfl (fun ls hl => ?_)
              refine lv_goto (tgt := 21) hx hb dM_join_95 (by decide) ?_
              exact ih v2 F2 _ (i + 1) (by omega) ws_23 _ _ _ (by have hk : kp K (S (n - 1)) (S (n - 2))[i] = true := (by show (decide (K = 43) || (decide ((S (n - 2))[i] ∈ (S (n - 1))) == decide (K = 38))) = true; rw [decide_eq_false c67, decide_eq_true (show K = 38 from c75)]; rw [hin] at c83; revert c83; cases decide ((S (n - 2))[i] ∈ (S (n - 1))) <;> decide); rw [flt_s hi2, if_pos hk, hMM]) hF hM hS2 (hvk.tr (hvk2.wd (by simp))) (hfk.tr hfk2) (by rw [hvk2 30 (by simp)]; exact hv30) (by omega) hP hD hS (lv_sub hl [3, 4, 5, 6, 0] rfl)
  refine lv_aload_n hx hb dM_join_0 rfl (lv_at hl 0 rfl) ?_
  refine x_callv (x_runV (n := 0) (As := []) (rest := []) ⟨hx, hb, hml, hown, hts⟩ (cM_begin l D tys A ws cI hI ad km v F n S hS0 (by omega) hM) tw_833 tw_835 ts_M_begin tw_8 tw_836 (by decide +kernel) rfl rfl ⟨by decide, by decide⟩ ⟨Nat.zero_le _, Nat.zero_le _⟩ (va_recv hK hP (ci := 7) (q0 := km) rfl hM.1) hK hP hD hS hA hN rfl hl.1 rfl (lv_room (Nat.le_of_ble_eq_true rfl)) dM_join_1) hS (fun ws_24 H locs hbe hP hD hS => ?_)
  obtain ⟨hF9, v1, F1, hM, hS1, hvk, hfk⟩ := hbe
  have hF := hF.tr hF9
  have hu28 := hS1.1
  refine lv_aload_n hx hb dM_join_4 rfl (lv_at hl 0 rfl) ?_
  refine va_get (D := D) (cl := xCl) (ci := 7) (v := .int (v1 28)) (C := rnM) (T := tbM) (N := 39) hx hb hts inM hown hK hP km hM.1 rfl 28 (by decide) (hts _ tw_645) (fun _ h9 => h9) rfl dM_join_5 ?_
  refine lv_iconst (v := 3) hx hb dM_join_8 (by decide) ?_
  refine lv_isub hx hb dM_join_9 ?_
  refine lv_topi (fun v_25 ev_25 => ?_)
  obtain rfl : v_25 = nI (n - 2) := by rw [ev_25, hu28, show (3 : Int32) = nI 3 from rfl, pk_sub (by omega), show n + 1 - 3 = n - 2 by omega]
  refine lv_istore_n (lv' := [(2, .int (nI (n - 2))), (0, .ref (ad km)), (1, .int K)]) hx hb dM_join_10 rfl hl (by decide) rfl (fun ls hl => ?_)
  refine lv_aload_n hx hb dM_join_11 rfl (lv_at hl 1 rfl) ?_
  refine va_get (D := D) (cl := xCl) (ci := 7) (v := .int (v1 28)) (C := rnM) (T := tbM) (N := 39) hx hb hts inM hown hK hP km hM.1 rfl 28 (by decide) (hts _ tw_645) (fun _ h9 => h9) rfl dM_join_12 ?_
  refine lv_iconst (v := 2) hx hb dM_join_15 (by decide) ?_
  refine lv_isub hx hb dM_join_16 ?_
  refine lv_topi (fun v_26 ev_26 => ?_)
  obtain rfl : v_26 = nI (n - 1) := by rw [ev_26, hu28, show (2 : Int32) = nI 2 from rfl, pk_sub (by omega), show n + 1 - 2 = n - 1 by omega]
  refine lv_istore_n (lv' := [(3, .int (nI (n - 1))), (2, .int (nI (n - 2))), (0, .ref (ad km)), (1, .int K)]) hx hb dM_join_17 rfl hl (by decide) rfl (fun ls hl => ?_)
  refine lv_iconst (v := 0) hx hb dM_join_18 (by decide) ?_
  refine lv_istore (lv' := [(4, .int 0), (3, .int (nI (n - 1))), (2, .int (nI (n - 2))), (0, .ref (ad km)), (1, .int K)]) hx hb dM_join_19 hl (by decide) rfl (fun ls hl => ?_)
  exact loop_21 _ v1 F1 [] 0 (Nat.zero_le _) ws_24 _ _ _ (by rw [List.take_zero]; rfl) hF hM hS1 (hvk.wd (by simp)) hfk (hvk 30 (by simp)) (Nat.lt_succ_self _) hP hD hS (lv_sub hl [3, 4, 2, 1, 0] rfl)
