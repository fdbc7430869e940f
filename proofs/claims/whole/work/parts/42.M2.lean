def oI (x : Option Nat) : Int32 := match x with
  | some t => nI t
  | none => -1
theorem gNo_o (g : Gr) (nm : Nat) : gNo g nm = oI (gNum g nm) := rfl
theorem gNumN_hit {g : Gr} (hg : GrOK g) {nm t : Nat} (ht : t < g.length) (h : gN g t = nm) : gNumN g nm (t + 1) = some t := by
  have e : gNumN g nm t = none := gNumN_n.mpr (fun u hu he => by
    have := hg.2.2.1 u t (by omega) ht (by rw [he, h])
    omega)
  show (match gNumN g nm t with | some t => some t | none => if gN g t = nm then some t else none) = _
  rw [e]
  exact if_pos h
theorem gNumN_miss {g : Gr} {nm t : Nat} (h : ¬ gN g t = nm) : gNumN g nm (t + 1) = gNumN g nm t := by
  show (match gNumN g nm t with | some t => some t | none => if gN g t = nm then some t else none) = _
  split
  · next u hu => rw [hu]
  · next hu => rw [hu, if_neg h]

set_option maxHeartbeats 4000000 in
set_option maxRecDepth 100000 in
theorem cM_find (l : Launch) (D : va_G) (tys : List (ClassId × FieldType)) (A : Nat → Prop) (ws : va_W) (cI : ClassId) (hI : tys[0]? = some (cI, .int)) (ad : Nat → Nat) (km : Nat) (v : Nat → Int32) (F : Nat → Nat → Int32) (g : Gr) (hg : MGr g v F) (a b : Nat) (ha : a < 6) (hb9 : b < 10) (hM : ModF cI ad ws km v F) : x_Mi l yM_find wM_find (xR 0) D xCl tys A [.ref (ad km), .int (nI a), .int (nI b)] ws (fun r ws1 => r = gNo g (a * 10 + b) ∧ ws = ws1) := by
  have hF : x_fr km (km + 24) ws ws := x_fr.rf
  obtain ⟨hg1, hg2, hg3, hg4, hg5⟩ := id hg
  have hle := hg1.1
  refine x_enter (by decide) rfl (Nat.le_of_ble_eq_true rfl) (fun p e s m args below meth c ls hx hb hr hlk hml hown hnm hts hK hP hD hS hA hN hl => ?_)
  have hl : lv_has ls 5 [(0, .ref (ad km)), (1, .int (nI a)), (2, .int (nI b))] := hl
  have loop_5 : ∀ (n : Nat) (i : Nat) (got : Int32) (hi : i ≤ g.length) (ws1 : va_W) (H : Heap) (locs : List Loc) (ls : Array Slot), got = oI (gNumN g (a * 10 + b) i) → ws = ws1 → g.length - i < n → va_P D xCl ws1 H → va_D A ws1 → va_S A s.heap H locs → lv_has ls 5 [(0, .ref (ad km)), (1, .int (nI a)), (2, .int (nI b)), (3, .int got), (4, .int (nI i))] → W p l e (xR 0) s m args below meth c H locs 0 0 (MQ below (va_Qi (fun r ws1 => r = gNo g (a * 10 + b) ∧ ws = ws1) (x_B D xCl tys A) A) args s 0 0 A) (F0 m 5 ls []) := by
    intro n
    induction n with
    | zero => intro i got hi ws1 H locs ls hgt hws hme; exact absurd hme (Nat.not_lt_zero _)
    | succ n ih =>
      intro i got hi ws1 H locs ls hgt hws hme hP hD hS hl
      subst hws
      refine lv_iload hx hb dM_find_5 (lv_at hl 4 rfl) ?_
      refine lv_aload_n hx hb dM_find_7 rfl (lv_at hl 0 rfl) ?_
      refine va_get (D := D) (cl := xCl) (ci := 7) (v := .int (v 1)) (C := rnM) (T := tbM) (N := 39) hx hb hts inM hown hK hP km hM.1 rfl 1 (by decide) (hts _ tw_618) (fun _ h9 => h9) rfl dM_find_8 ?_
      refine lv_icmp_ge (tgt := 49) hx hb dM_find_11 (by decide) (fun c11 => ?_) (fun c11 => ?_)
      · refine lv_iload_n hx hb dM_find_49 rfl (lv_at hl 3 rfl) ?_
        exact x_iret hx hb hr hlk hK hP hD hS dM_find_50 ⟨by rw [hgt]; have e : i = g.length := (by rw [hg2, nI_leI (by omega) (by omega)] at c11; omega); rw [e]; rfl, rfl⟩
      · have hi2 : i < g.length := by rw [hg2, nI_leI (by omega) (by omega)] at c11; omega
        have hn60 := (hg1.2.1 i hi2).1
        refine lv_aload_n hx hb dM_find_14 rfl (lv_at hl 0 rfl) ?_
        refine va_get (D := D) (cl := xCl) (ci := 7) (v := .ref (ad (km + 1))) (C := rnM) (T := tbM) (N := 39) hx hb hts inM hown hK hP km hM.1 rfl 2 (by decide) (hts _ tw_619) (fun _ h9 => h9) rfl dM_find_15 ?_
        refine lv_iload hx hb dM_find_18 (lv_at hl 4 rfl) ?_
        refine va_iald hx hb hK hP (km + 1) 0 (hM.a 1 30 rfl (by omega) (by omega)) hI (vp_in_nI (by omega) (by omega)) dM_find_20 ?_
        refine lv_topi (fun v_1 ev_1 => ?_)
        refine lv_iload_n hx hb dM_find_21 rfl (lv_at hl 1 rfl) ?_
        refine lv_icmp_ne (tgt := 41) hx hb dM_find_22 (by decide) (fun c22 => ?_) (fun c22 => ?_)
        · refine lv_iload_n hx hb dM_find_41 rfl (lv_at hl 3 rfl) ?_
          refine lv_istore_n (lv' := [(3, .int got), (0, .ref (ad km)), (1, .int (nI a)), (2, .int (nI b)), (4, .int (nI i))]) hx hb dM_find_42 rfl hl (by decide) rfl (fun ls hl => ?_)
          refine lv_iinc (v := (nI (i + 1))) (lv' := [(4, .int (nI (i + 1))), (3, .int got), (0, .ref (ad km)), (1, .int (nI a)), (2, .int (nI b))]) hx hb dM_find_43 hl (k := 4) rfl (nI_1 _) (by decide) rfl (fun ls hl => ?_)
          refine lv_goto (tgt := 5) hx hb dM_find_46 (by decide) ?_
          exact ih (i + 1) got (by omega) ws _ _ _ (by rw [ev_1, nI_clamp (by omega), (hg3 i hi2).1, nI_eq (by omega) (by omega)] at c22; rw [gNumN_miss (by omega)]; exact hgt) rfl (by omega) hP hD hS (lv_sub hl [2, 3, 4, 1, 0] rfl)
        · refine lv_aload_n hx hb dM_find_25 rfl (lv_at hl 0 rfl) ?_
          refine va_get (D := D) (cl := xCl) (ci := 7) (v := .ref (ad (km + 2))) (C := rnM) (T := tbM) (N := 39) hx hb hts inM hown hK hP km hM.1 rfl 3 (by decide) (hts _ tw_620) (fun _ h9 => h9) rfl dM_find_26 ?_
          refine lv_iload hx hb dM_find_29 (lv_at hl 4 rfl) ?_
          refine va_iald hx hb hK hP (km + 2) 0 (hM.a 2 30 rfl (by omega) (by omega)) hI (vp_in_nI (by omega) (by omega)) dM_find_31 ?_
          refine lv_topi (fun v_2 ev_2 => ?_)
          refine lv_iload_n hx hb dM_find_32 rfl (lv_at hl 2 rfl) ?_
          refine lv_icmp_ne (tgt := 41) hx hb dM_find_33 (by decide) (fun c33 => ?_) (fun c33 => ?_)
          · refine lv_iload_n hx hb dM_find_41 rfl (lv_at hl 3 rfl) ?_
            refine lv_istore_n (lv' := [(3, .int got), (0, .ref (ad km)), (1, .int (nI a)), (2, .int (nI b)), (4, .int (nI i))]) hx hb dM_find_42 rfl hl (by decide) rfl (fun ls hl => ?_)
            refine lv_iinc (v := (nI (i + 1))) (lv' := [(4, .int (nI (i + 1))), (3, .int got), (0, .ref (ad km)), (1, .int (nI a)), (2, .int (nI b))]) hx hb dM_find_43 hl (k := 4) rfl (nI_1 _) (by decide) rfl (fun ls hl => ?_)
            refine lv_goto (tgt := 5) hx hb dM_find_46 (by decide) ?_
            exact ih (i + 1) got (by omega) ws _ _ _ (by rw [ev_1, nI_clamp (by omega), (hg3 i hi2).1, nI_eq (by omega) (by omega)] at c22; rw [ev_2, nI_clamp (by omega), (hg3 i hi2).2.1, nI_eq (by omega) (by omega)] at c33; rw [gNumN_miss (by omega)]; exact hgt) rfl (by omega) hP hD hS (lv_sub hl [2, 3, 4, 1, 0] rfl)
          · refine lv_iload hx hb dM_find_36 (lv_at hl 4 rfl) ?_
            refine lv_goto (tgt := 42) hx hb dM_find_38 (by decide) ?_
            refine lv_istore_n (lv' := [(3, .int (nI i)), (0, .ref (ad km)), (1, .int (nI a)), (2, .int (nI b)), (4, .int (nI i))]) hx hb dM_find_42 rfl hl (by decide) rfl (fun ls hl => ?_)
            refine lv_iinc (v := (nI (i + 1))) (lv' := [(4, .int (nI (i + 1))), (3, .int (nI i)), (0, .ref (ad km)), (1, .int (nI a)), (2, .int (nI b))]) hx hb dM_find_43 hl (k := 4) rfl (nI_1 _) (by decide) rfl (fun ls hl => ?_)
            refine lv_goto (tgt := 5) hx hb dM_find_46 (by decide) ?_
            exact ih (i + 1) (nI i) (by omega) ws _ _ _ (by rw [ev_1, nI_clamp (by omega), (hg3 i hi2).1, nI_eq (by omega) (by omega)] at c22; rw [ev_2, nI_clamp (by omega), (hg3 i hi2).2.1, nI_eq (by omega) (by omega)] at c33; rw [gNumN_hit hg1 hi2 (by omega)]; rfl) rfl (by omega) hP hD hS (lv_sub hl [2, 3, 4, 1, 0] rfl)
  refine lv_iconst (v := (-1)) hx hb dM_find_0 (by decide) ?_
  refine lv_istore_n (lv' := [(3, .int (-1)), (0, .ref (ad km)), (1, .int (nI a)), (2, .int (nI b))]) hx hb dM_find_1 rfl hl (by decide) rfl (fun ls hl => ?_)
  refine lv_iconst (v := 0) hx hb dM_find_2 (by decide) ?_
  refine lv_istore (lv' := [(4, .int 0), (3, .int (-1)), (0, .ref (ad km)), (1, .int (nI a)), (2, .int (nI b))]) hx hb dM_find_3 hl (by decide) rfl (fun ls hl => ?_)
  exact loop_5 _ 0 (-1) (Nat.zero_le _) ws _ _ _ rfl rfl (Nat.lt_succ_self _) hP hD hS (lv_sub hl [2, 3, 4, 1, 0] rfl)

theorem List.mem_of_mem_take9 {L : List Nat} {x i : Nat} (h : x ∈ L.take i) (hi : i < L.length) : x ∈ L.take (i + 1) := by
  rw [List.take_succ_eq_append_getElem hi]
  exact List.mem_append_left _ h
theorem take_in {L : List Nat} {x i : Nat} (hi : i < L.length) (h : L.getD i 0 = x) : x ∈ L.take (i + 1) := by
  rw [List.take_succ_eq_append_getElem hi]
  apply List.mem_append_right
  rw [List.mem_singleton, ← h]
  simp [hi]
theorem take_out {L : List Nat} {x i : Nat} (hi : i < L.length) (h0 : x ∉ L.take i) (h : ¬ L.getD i 0 = x) : x ∉ L.take (i + 1) := by
  rw [List.take_succ_eq_append_getElem hi]
  intro hm
  rcases List.mem_append.mp hm with q | q
  · exact h0 q
  · rw [List.mem_singleton] at q
    apply h
    rw [q]
    simp [hi]

set_option maxHeartbeats 4000000 in
set_option maxRecDepth 100000 in
theorem cM_isNeed (l : Launch) (D : va_G) (tys : List (ClassId × FieldType)) (A : Nat → Prop) (ws : va_W) (cI : ClassId) (hI : tys[0]? = some (cI, .int)) (ad : Nat → Nat) (km : Nat) (v : Nat → Int32) (F : Nat → Nat → Int32) (g : Gr) (hg : MGr g v F) (ta ob : Nat) (hta : ta < 30) (hob : ob < 2 ^ 31) (hM : ModF cI ad ws km v F) : x_Mi l yM_isNeed wM_isNeed (xR 0) D xCl tys A [.ref (ad km), .int (nI ta), .int (nI ob)] ws (fun r ws1 => r = b2i (decide (ob ∈ gD g ta)) ∧ ws = ws1) := by
  have hF : x_fr km (km + 24) ws ws := x_fr.rf
  obtain ⟨hg1, hg2, hg3, hg4, hg5⟩ := id hg
  have hle := hg1.1
  refine x_enter (by decide) rfl (Nat.le_of_ble_eq_true rfl) (fun p e s m args below meth c ls hx hb hr hlk hml hown hnm hts hK hP hD hS hA hN hl => ?_)
  have hl : lv_has ls 5 [(0, .ref (ad km)), (1, .int (nI ta)), (2, .int (nI ob))] := hl
  have loop_5 : ∀ (n : Nat) (i : Nat) (bb : Int32) (hi : i ≤ 8) (ws1 : va_W) (H : Heap) (locs : List Loc) (ls : Array Slot), bb = b2i (decide (ob ∈ (gD g ta).take i)) → ws = ws1 → 8 - i < n → va_P D xCl ws1 H → va_D A ws1 → va_S A s.heap H locs → lv_has ls 5 [(0, .ref (ad km)), (1, .int (nI ta)), (2, .int (nI ob)), (3, .int bb), (4, .int (nI i))] → W p l e (xR 0) s m args below meth c H locs 0 0 (MQ below (va_Qi (fun r ws1 => r = b2i (decide (ob ∈ gD g ta)) ∧ ws = ws1) (x_B D xCl tys A) A) args s 0 0 A) (F0 m 5 ls []) := by
    intro n
    induction n with
    | zero => intro i bb hi ws1 H locs ls hbb hws hme; exact absurd hme (Nat.not_lt_zero _)
    | succ n ih =>
      intro i bb hi ws1 H locs ls hbb hws hme hP hD hS hl
      subst hws
      refine lv_iload hx hb dM_isNeed_5 (lv_at hl 4 rfl) ?_
      refine lv_aload_n hx hb dM_isNeed_7 rfl (lv_at hl 0 rfl) ?_
      refine va_get (D := D) (cl := xCl) (ci := 7) (v := .ref (ad (km + 4))) (C := rnM) (T := tbM) (N := 39) hx hb hts inM hown hK hP km hM.1 rfl 5 (by decide) (hts _ tw_622) (fun _ h9 => h9) rfl dM_isNeed_8 ?_
      refine lv_iload_n hx hb dM_isNeed_11 rfl (lv_at hl 1 rfl) ?_
      refine va_iald hx hb hK hP (km + 4) 0 (hM.a 4 30 rfl (by omega) (by omega)) hI (vp_in_nI (by omega) (by omega)) dM_isNeed_12 ?_
      refine lv_topi (fun v_1 ev_1 => ?_)
      refine lv_icmp_ge (tgt := 48) hx hb dM_isNeed_13 (by decide) (fun c13 => ?_) (fun c13 => ?_)
      · refine lv_iload_n hx hb dM_isNeed_48 rfl (lv_at hl 3 rfl) ?_
        exact x_zret hx hb hr (by rw [hbb]; exact b2i_nar _) hlk hK hP hD hS dM_isNeed_49 ⟨by rw [hbb]; have e : (gD g ta).take i = gD g ta := List.take_of_length_le (by rw [ev_1, nI_clamp (by omega), hg4 ta hta, nI_leI (by have := (hg1.2.2.2 ta).2.1; omega) (by omega)] at c13; exact c13); rw [e], rfl⟩
      · have hl9 : i < (gD g ta).length := by rw [ev_1, nI_clamp (by omega), hg4 ta hta, nI_leI (by have := (hg1.2.2.2 ta).2.1; omega) (by omega)] at c13; omega
        have hl8 := (hg1.2.2.2 ta).2.1
        have hx9 : (gD g ta).getD i 0 < g.length := (hg1.2.2.2 ta).2.2 _ (by rw [List.getD_eq_getElem?_getD, List.getElem?_eq_getElem hl9]; exact List.getElem_mem hl9)
        refine lv_iload_n hx hb dM_isNeed_16 rfl (lv_at hl 3 rfl) ?_
        refine lv_if_ne (tgt := 36) hx hb dM_isNeed_17 (by decide) (fun c17 => ?_) (fun c17 => ?_)
        · refine lv_iconst (v := 1) hx hb dM_isNeed_36 (by decide) ?_
          refine lv_goto (tgt := 41) hx hb dM_isNeed_37 (by decide) ?_
          refine lv_istore_n (lv' := [(3, .int 1), (0, .ref (ad km)), (1, .int (nI ta)), (2, .int (nI ob)), (4, .int (nI i))]) hx hb dM_isNeed_41 rfl hl (by decide) rfl (fun ls hl => ?_)
          refine lv_iinc (v := (nI (i + 1))) (lv' := [(4, .int (nI (i + 1))), (3, .int 1), (0, .ref (ad km)), (1, .int (nI ta)), (2, .int (nI ob))]) hx hb dM_isNeed_42 hl (k := 4) rfl (nI_1 _) (by decide) rfl (fun ls hl => ?_)
          refine lv_goto (tgt := 5) hx hb dM_isNeed_45 (by decide) ?_
          exact ih (i + 1) 1 (by omega) ws _ _ _ (by rw [hbb, b2i_n0, decide_eq_true_eq] at c17; rw [decide_eq_true (p := ob ∈ (gD g ta).take (i + 1)) (List.mem_of_mem_take9 c17 hl9)]; rfl) rfl (by omega) hP hD hS (lv_sub hl [2, 3, 4, 1, 0] rfl)
        · refine lv_aload_n hx hb dM_isNeed_20 rfl (lv_at hl 0 rfl) ?_
          refine va_get (D := D) (cl := xCl) (ci := 7) (v := .ref (ad (km + 5))) (C := rnM) (T := tbM) (N := 39) hx hb hts inM hown hK hP km hM.1 rfl 6 (by decide) (hts _ tw_623) (fun _ h9 => h9) rfl dM_isNeed_21 ?_
          refine lv_bipush (v := 8) hx hb dM_isNeed_24 (by decide) ?_
          refine lv_iload_n hx hb dM_isNeed_26 rfl (lv_at hl 1 rfl) ?_
          refine lv_imul hx hb dM_isNeed_27 ?_
          refine lv_topi (fun v_2 ev_2 => ?_)
          refine lv_iload hx hb dM_isNeed_28 (lv_at hl 4 rfl) ?_
          refine lv_iadd hx hb dM_isNeed_30 ?_
          refine lv_topi (fun v_3 ev_3 => ?_)
          refine va_iald hx hb hK hP (km + 5) 0 (hM.a 5 240 rfl (by omega) (by omega)) hI (by rw [ev_3, ev_2, show (8 : Int32) = nI 8 from rfl, pk_mul, nI_add]; exact vp_in_nI (by omega) (by omega)) dM_isNeed_31 ?_
          refine lv_topi (fun v_4 ev_4 => ?_)
          refine lv_iload_n hx hb dM_isNeed_32 rfl (lv_at hl 2 rfl) ?_
          refine lv_icmp_ne (tgt := 40) hx hb dM_isNeed_33 (by decide) (fun c33 => ?_) (fun c33 => ?_)
          · refine lv_iconst (v := 0) hx hb dM_isNeed_40 (by decide) ?_
            refine lv_istore_n (lv' := [(3, .int 0), (0, .ref (ad km)), (1, .int (nI ta)), (2, .int (nI ob)), (4, .int (nI i))]) hx hb dM_isNeed_41 rfl hl (by decide) rfl (fun ls hl => ?_)
            refine lv_iinc (v := (nI (i + 1))) (lv' := [(4, .int (nI (i + 1))), (3, .int 0), (0, .ref (ad km)), (1, .int (nI ta)), (2, .int (nI ob))]) hx hb dM_isNeed_42 hl (k := 4) rfl (nI_1 _) (by decide) rfl (fun ls hl => ?_)
            refine lv_goto (tgt := 5) hx hb dM_isNeed_45 (by decide) ?_
            exact ih (i + 1) 0 (by omega) ws _ _ _ (by rw [hbb, b2i_0, decide_eq_false_iff_not] at c17; rw [ev_4, ev_3, ev_2, show (8 : Int32) = nI 8 from rfl, pk_mul, nI_add, nI_clamp (by omega), hg5 ta i hta hl9, nI_eq (by omega) (by omega)] at c33; rw [decide_eq_false (p := ob ∈ (gD g ta).take (i + 1)) (take_out hl9 c17 c33)]; rfl) rfl (by omega) hP hD hS (lv_sub hl [2, 3, 4, 1, 0] rfl)
          · refine lv_iconst (v := 1) hx hb dM_isNeed_36 (by decide) ?_
            refine lv_goto (tgt := 41) hx hb dM_isNeed_37 (by decide) ?_
            refine lv_istore_n (lv' := [(3, .int 1), (0, .ref (ad km)), (1, .int (nI ta)), (2, .int (nI ob)), (4, .int (nI i))]) hx hb dM_isNeed_41 rfl hl (by decide) rfl (fun ls hl => ?_)
            refine lv_iinc (v := (nI (i + 1))) (lv' := [(4, .int (nI (i + 1))), (3, .int 1), (0, .ref (ad km)), (1, .int (nI ta)), (2, .int (nI ob))]) hx hb dM_isNeed_42 hl (k := 4) rfl (nI_1 _) (by decide) rfl (fun ls hl => ?_)
            refine lv_goto (tgt := 5) hx hb dM_isNeed_45 (by decide) ?_
            exact ih (i + 1) 1 (by omega) ws _ _ _ (by rw [hbb, b2i_0, decide_eq_false_iff_not] at c17; rw [ev_4, ev_3, ev_2, show (8 : Int32) = nI 8 from rfl, pk_mul, nI_add, nI_clamp (by omega), hg5 ta i hta hl9, nI_eq (by omega) (by omega)] at c33; rw [decide_eq_true (p := ob ∈ (gD g ta).take (i + 1)) (take_in hl9 c33)]; rfl) rfl (by omega) hP hD hS (lv_sub hl [2, 3, 4, 1, 0] rfl)
  refine lv_iconst (v := 0) hx hb dM_isNeed_0 (by decide) ?_
  refine lv_istore_n (lv' := [(3, .int 0), (0, .ref (ad km)), (1, .int (nI ta)), (2, .int (nI ob))]) hx hb dM_isNeed_1 rfl hl (by decide) rfl (fun ls hl => ?_)
  refine lv_iconst (v := 0) hx hb dM_isNeed_2 (by decide) ?_
  refine lv_istore (lv' := [(4, .int 0), (3, .int 0), (0, .ref (ad km)), (1, .int (nI ta)), (2, .int (nI ob))]) hx hb dM_isNeed_3 hl (by decide) rfl (fun ls hl => ?_)
  exact loop_5 _ 0 0 (Nat.zero_le _) ws _ _ _ (by rw [List.take_zero]; rfl) rfl (Nat.lt_succ_self _) hP hD hS (lv_sub hl [2, 3, 4, 1, 0] rfl)
