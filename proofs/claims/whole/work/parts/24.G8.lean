-- ===== nearest =====
def dst (i w : Nat) : Nat := if w ≤ i then i - w else w - i
/-- among the names a + i * st, i below n: the one whose i is nearest to w (of like ones the lesser), and how near -/
def clo (g : Gr) (a st w pl : Nat) : Nat → Int32 × Nat
  | 0 => (-1, pl)
  | i + 1 => if gNo g (a + i * st) ≠ -1 ∧ dst i w < (clo g a st w pl i).2 then (gNo g (a + i * st), dst i w) else clo g a st w pl i
theorem clo_no {g : Gr} {a st w pl i : Nat} (h : ¬ (gNo g (a + i * st) ≠ -1 ∧ dst i w < (clo g a st w pl i).2)) : clo g a st w pl (i + 1) = clo g a st w pl i := if_neg h
theorem clo_yes {g : Gr} {a st w pl i : Nat} (h : gNo g (a + i * st) ≠ -1 ∧ dst i w < (clo g a st w pl i).2) : clo g a st w pl (i + 1) = (gNo g (a + i * st), dst i w) := if_pos h
theorem dst_abs {i w : Nat} (hi : i < 100) (hw : w < 100) : (if 0 ≤ nI i - nI w then nI i - nI w else 0 - (nI i - nI w)) = nI (dst i w) := by
  have e1 := pk_sub_toInt (a := i) (b := w) (by omega) (by omega)
  unfold dst
  by_cases h : w ≤ i
  · rw [if_pos h, if_pos (by rw [i32_le, e1, i32_0]; omega), pk_sub h]
  · rw [if_neg h, if_neg (by rw [i32_le, e1, i32_0]; omega), i32_eq, nI_toInt (by omega), Int32.toInt_sub, e1, i32_0, Int.bmod_eq_of_le (by omega) (by omega)]
    omega

set_option maxHeartbeats 4000000 in
set_option maxRecDepth 100000 in
/-- Graph.closest(first, stride, places, wanted) -/
theorem cG_closest (l : Launch) (D : va_G) (tys : List (ClassId × FieldType)) (A : Nat → Prop) (ws : va_W) (cI : ClassId) (hI : tys[0]? = some (cI, .int)) (ad : Nat → Nat) (kg : Nat) (g : Gr) (a st pl w : Nat) (hpl : pl ≤ 10) (hw : w < 60) (hall : ∀ i, i < pl → a + i * st < 60) (hG : GraphAt cI ad ws kg g) : x_Mi l yG_closest wG_closest (xR 2) D xCl tys A [.ref (ad kg), .int (nI a), .int (nI st), .int (nI pl), .int (nI w)] ws (fun r ws1 => r = (clo g a st w pl pl).1 ∧ ws = ws1) := by
  obtain ⟨fsG, hgo⟩ := hG.obj
  refine x_enter (by decide) rfl (Nat.le_of_ble_eq_true rfl) (fun p e s m args below meth c ls hx hb hr hlk hml hown hnm hts hK hP hD hS hA hN hl => ?_)
  have hl : lv_has ls 9 [(0, .ref (ad kg)), (1, .int (nI a)), (2, .int (nI st)), (3, .int (nI pl)), (4, .int (nI w))] := hl
  have loop_9 : ∀ (n : Nat) (i : Nat) (f0 : Int32) (g0 : Nat) (hi : i ≤ pl) (ws1 : va_W) (H : Heap) (locs : List Loc) (ls : Array Slot), f0 = (clo g a st w pl i).1 → g0 = (clo g a st w pl i).2 → g0 < 100 → ws = ws1 → pl - i < n → va_P D xCl ws1 H → va_D A ws1 → va_S A s.heap H locs → lv_has ls 9 [(0, .ref (ad kg)), (1, .int (nI a)), (2, .int (nI st)), (3, .int (nI pl)), (4, .int (nI w)), (5, .int f0), (6, .int (nI g0)), (7, .int (nI i))] → W p l e (xR 2) s m args below meth c H locs 0 0 (MQ below (va_Qi (fun r ws1 => r = (clo g a st w pl pl).1 ∧ ws = ws1) (x_B D xCl tys A) A) args s 0 0 A) (F0 m 9 ls []) := by
    intro n
    induction n with
    | zero => intro i f0 g0 hi ws1 H locs ls hst1 hst2 hg0 hws hme; exact absurd hme (Nat.not_lt_zero _)
    | succ n ih =>
      intro i f0 g0 hi ws1 H locs ls hst1 hst2 hg0 hws hme hP hD hS hl
      subst hws
      refine lv_iload hx hb dG_closest_9 (lv_at hl 7 rfl) ?_
      refine lv_iload_n hx hb dG_closest_11 rfl (lv_at hl 3 rfl) ?_
      refine lv_icmp_ge (tgt := 66) hx hb dG_closest_12 (by decide) (fun c12 => ?_) (fun c12 => ?_)
      · refine lv_iload hx hb dG_closest_66 (lv_at hl 5 rfl) ?_
        exact x_iret hx hb hr hlk hK hP hD hS dG_closest_68 ⟨by rw [hst1]; have e : i = pl := (by rw [nI_leI (by omega) (by omega)] at c12; omega); rw [e], rfl⟩
      · have hi2 : i < pl := by rw [nI_leI (by omega) (by omega)] at c12; omega
        refine lv_aload_n hx hb dG_closest_15 rfl (lv_at hl 0 rfl) ?_
        refine lv_iload_n hx hb dG_closest_16 rfl (lv_at hl 1 rfl) ?_
        refine lv_iload hx hb dG_closest_17 (lv_at hl 7 rfl) ?_
        refine lv_iload_n hx hb dG_closest_19 rfl (lv_at hl 2 rfl) ?_
        refine lv_imul hx hb dG_closest_20 ?_
        refine lv_topi (fun v_1 ev_1 => ?_)
        refine lv_iadd hx hb dG_closest_21 ?_
        refine lv_topi (fun v_2 ev_2 => ?_)
        obtain rfl : v_2 = nI (a + i * st) := by rw [ev_2, ev_1, pk_mul, nI_add]
        refine x_calli (x_runV (n := 1) (As := [.int (nI (a + i * st))]) (rest := []) ⟨hx, hb, hml, hown, hts⟩ (cG_numberOf l D tys A ws cI hI ad kg g ((nI (a + i * st))) hG) tw_577 tw_406 tw_407 tw_2 tw_408 (by decide +kernel) rfl rfl ⟨by decide, by decide⟩ ⟨Nat.zero_le _, Nat.zero_le _⟩ (va_recv hK hP (ci := 0) (q0 := kg) rfl hgo) hK hP hD hS hA hN rfl hl.1 rfl (lv_room (Nat.le_of_ble_eq_true rfl)) dG_closest_22) hS (fun rnu ws_3 H locs hnu hP hD hS => ?_)
        obtain ⟨hnu, rfl⟩ := hnu
        refine lv_istore (lv' := [(8, .int rnu), (0, .ref (ad kg)), (1, .int (nI a)), (2, .int (nI st)), (3, .int (nI pl)), (4, .int (nI w)), (5, .int f0), (6, .int (nI g0)), (7, .int (nI i))]) hx hb dG_closest_25 hl (by decide) rfl (fun ls hl => ?_)
        refine lv_iload hx hb dG_closest_27 (lv_at hl 0 rfl) ?_
        refine lv_iconst (v := (-1)) hx hb dG_closest_29 (by decide) ?_
        refine lv_icmp_eq (tgt := 60) hx hb dG_closest_30 (by decide) (fun c30 => ?_) (fun c30 => ?_)
        · refine lv_iinc (v := (nI (i + 1))) (lv' := [(7, .int (nI (i + 1))), (8, .int rnu), (0, .ref (ad kg)), (1, .int (nI a)), (2, .int (nI st)), (3, .int (nI pl)), (4, .int (nI w)), (5, .int f0), (6, .int (nI g0))]) hx hb dG_closest_60 hl (k := 8) rfl (nI_1 _) (by decide) rfl (fun ls hl => ?_)
          refine lv_goto (tgt := 9) hx hb dG_closest_63 (by decide) ?_
          exact ih (i + 1) f0 g0 (by omega) ws _ _ _ (by rw [hnu, gNoI_nI g (hall i hi2)] at c30; rw [clo_no (fun hc => hc.1 c30)]; exact hst1) (by rw [hnu, gNoI_nI g (hall i hi2)] at c30; rw [clo_no (fun hc => hc.1 c30)]; exact hst2) (by omega) rfl (by omega) hP hD hS (lv_sub hl [2, 3, 4, 5, 6, 7, 8, 0] rfl)
        · refine lv_iload hx hb dG_closest_33 (lv_at hl 8 rfl) ?_
          refine lv_iload hx hb dG_closest_35 (lv_at hl 5 rfl) ?_
          refine lv_isub hx hb dG_closest_37 ?_
          refine lv_topi (fun v_4 ev_4 => ?_)
          refine va_mabs hx hb (by rw [hml]; exact hl.1.symm) hown (hts _ tw_578) (hts _ tw_579) (hts _ tw_13) (hts _ tw_580) (by decide) (Nat.le_of_ble_eq_true rfl) (Nat.zero_le _) (Nat.zero_le _) dG_closest_38 ?_
          refine lv_topi (fun v_5 ev_5 => ?_)
          obtain rfl : v_5 = nI (dst i w) := by rw [ev_5, ev_4]; exact dst_abs (by omega) (by omega)
          refine lv_iload hx hb dG_closest_41 (lv_at hl 7 rfl) ?_
          refine lv_icmp_ge (tgt := 60) hx hb dG_closest_43 (by decide) (fun c43 => ?_) (fun c43 => ?_)
          · refine lv_iinc (v := (nI (i + 1))) (lv' := [(7, .int (nI (i + 1))), (8, .int rnu), (0, .ref (ad kg)), (1, .int (nI a)), (2, .int (nI st)), (3, .int (nI pl)), (4, .int (nI w)), (5, .int f0), (6, .int (nI g0))]) hx hb dG_closest_60 hl (k := 8) rfl (nI_1 _) (by decide) rfl (fun ls hl => ?_)
            refine lv_goto (tgt := 9) hx hb dG_closest_63 (by decide) ?_
            exact ih (i + 1) f0 g0 (by omega) ws _ _ _ (by rw [nI_leI (by omega) (by unfold dst; split <;> omega)] at c43; rw [clo_no (fun hc => by have := hc.2; omega)]; exact hst1) (by rw [nI_leI (by omega) (by unfold dst; split <;> omega)] at c43; rw [clo_no (fun hc => by have := hc.2; omega)]; exact hst2) (by omega) rfl (by omega) hP hD hS (lv_sub hl [2, 3, 4, 5, 6, 7, 8, 0] rfl)
          · refine lv_iload hx hb dG_closest_46 (lv_at hl 0 rfl) ?_
            refine lv_istore (lv' := [(5, .int rnu), (8, .int rnu), (0, .ref (ad kg)), (1, .int (nI a)), (2, .int (nI st)), (3, .int (nI pl)), (4, .int (nI w)), (6, .int (nI g0)), (7, .int (nI i))]) hx hb dG_closest_48 hl (by decide) rfl (fun ls hl => ?_)
            refine lv_iload hx hb dG_closest_50 (lv_at hl 8 rfl) ?_
            refine lv_iload hx hb dG_closest_52 (lv_at hl 6 rfl) ?_
            refine lv_isub hx hb dG_closest_54 ?_
            refine lv_topi (fun v_6 ev_6 => ?_)
            refine va_mabs hx hb (by rw [hml]; exact hl.1.symm) hown (hts _ tw_578) (hts _ tw_579) (hts _ tw_13) (hts _ tw_580) (by decide) (Nat.le_of_ble_eq_true rfl) (Nat.zero_le _) (Nat.zero_le _) dG_closest_55 ?_
            refine lv_topi (fun v_7 ev_7 => ?_)
            obtain rfl : v_7 = nI (dst i w) := by rw [ev_7, ev_6]; exact dst_abs (by omega) (by omega)
            refine lv_istore (lv' := [(6, .int (nI (dst i w))), (5, .int rnu), (8, .int rnu), (0, .ref (ad kg)), (1, .int (nI a)), (2, .int (nI st)), (3, .int (nI pl)), (4, .int (nI w)), (7, .int (nI i))]) hx hb dG_closest_58 hl (by decide) rfl (fun ls hl => ?_)
            refine lv_iinc (v := (nI (i + 1))) (lv' := [(7, .int (nI (i + 1))), (6, .int (nI (dst i w))), (5, .int rnu), (8, .int rnu), (0, .ref (ad kg)), (1, .int (nI a)), (2, .int (nI st)), (3, .int (nI pl)), (4, .int (nI w))]) hx hb dG_closest_60 hl (k := 8) rfl (nI_1 _) (by decide) rfl (fun ls hl => ?_)
            refine lv_goto (tgt := 9) hx hb dG_closest_63 (by decide) ?_
            exact ih (i + 1) rnu (dst i w) (by omega) ws _ _ _ (by rw [hnu, gNoI_nI g (hall i hi2)] at c30; rw [nI_leI (by omega) (by unfold dst; split <;> omega)] at c43; rw [clo_yes ⟨c30, by omega⟩]; rw [hnu, gNoI_nI g (hall i hi2)]) (by rw [hnu, gNoI_nI g (hall i hi2)] at c30; rw [nI_leI (by omega) (by unfold dst; split <;> omega)] at c43; rw [clo_yes ⟨c30, by omega⟩]) (by unfold dst; split <;> omega) rfl (by omega) hP hD hS (lv_sub hl [4, 5, 6, 7, 8, 2, 1, 0] rfl)
  refine lv_iconst (v := (-1)) hx hb dG_closest_0 (by decide) ?_
  refine lv_istore (lv' := [(5, .int (-1)), (0, .ref (ad kg)), (1, .int (nI a)), (2, .int (nI st)), (3, .int (nI pl)), (4, .int (nI w))]) hx hb dG_closest_1 hl (by decide) rfl (fun ls hl => ?_)
  refine lv_iload_n hx hb dG_closest_3 rfl (lv_at hl 4 rfl) ?_
  refine lv_istore (lv' := [(6, .int (nI pl)), (5, .int (-1)), (0, .ref (ad kg)), (1, .int (nI a)), (2, .int (nI st)), (3, .int (nI pl)), (4, .int (nI w))]) hx hb dG_closest_4 hl (by decide) rfl (fun ls hl => ?_)
  refine lv_iconst (v := 0) hx hb dG_closest_6 (by decide) ?_
  refine lv_istore (lv' := [(7, .int 0), (6, .int (nI pl)), (5, .int (-1)), (0, .ref (ad kg)), (1, .int (nI a)), (2, .int (nI st)), (3, .int (nI pl)), (4, .int (nI w))]) hx hb dG_closest_7 hl (by decide) rfl (fun ls hl => ?_)
  exact loop_9 _ 0 (-1) pl (Nat.zero_le _) ws _ _ _ rfl rfl (by omega) rfl (Nat.lt_succ_self _) hP hD hS (lv_sub hl [3, 4, 5, 6, 7, 2, 1, 0] rfl)

/-- promise 8: the target whose name is nearest to v -/
def nearN (g : Gr) (v : Nat) : Int32 := if (clo g (v / 10 * 10) 1 (v % 10) 10 10).1 = -1 then (clo g (v % 10) 10 (v / 10) 6 6).1 else (clo g (v / 10 * 10) 1 (v % 10) 10 10).1
def nearS (g : Gr) (v : Int32) : Int32 := if 0 ≤ v.toInt ∧ v.toInt < 60 then nearN g v.toInt.toNat else -1

set_option maxHeartbeats 4000000 in
set_option maxRecDepth 100000 in
/-- Graph.nearestTo(name) -/
theorem cG_nearestTo (l : Launch) (D : va_G) (tys : List (ClassId × FieldType)) (A : Nat → Prop) (ws : va_W) (cI : ClassId) (hI : tys[0]? = some (cI, .int)) (ad : Nat → Nat) (kg : Nat) (g : Gr) (v : Int32) (hG : GraphAt cI ad ws kg g) : x_Mi l yG_nearestTo wG_nearestTo (xR 3) D xCl tys A [.ref (ad kg), .int v] ws (fun r ws1 => r = nearS g v ∧ ws = ws1) := by
  obtain ⟨FF, ⟨hg0, hg1, hg2, hg3, -⟩, hRR⟩ := id hG
  refine x_enter (by decide) rfl (Nat.le_of_ble_eq_true rfl) (fun p e s m args below meth c ls hx hb hr hlk hml hown hnm hts hK hP hD hS hA hN hl => ?_)
  have hl : lv_has ls 5 [(0, .ref (ad kg)), (1, .int v)] := hl
  refine lv_iload_n hx hb dG_nearestTo_0 rfl (lv_at hl 1 rfl) ?_
  refine lv_aload_n hx hb dG_nearestTo_1 rfl (lv_at hl 0 rfl) ?_
  refine va_get (D := D) (cl := xCl) (ci := 0) (v := .ref (ad (kg + 3))) (C := rnG) (T := tbG) (N := 9) hx hb hts inG hown hK hP kg hg0 rfl 2 (by decide) (hts _ tw_31) (fun _ h9 => h9) rfl dG_nearestTo_2 ?_
  refine va_alen (v := 60) hx hb hK hP (kg + 3) 0 hg3 hI (by rfl) dG_nearestTo_5 ?_
  refine x_calli (x_runS (n := 2) (As := [.int v, .int 60]) (rest := []) ⟨hx, hb, hml, hown, hts⟩ (cG_below l D tys A ws v 60) tw_178 tw_179 tw_2 tw_180 (by decide +kernel) rfl rfl ⟨by decide, by decide⟩ ⟨Nat.zero_le _, Nat.zero_le _⟩ hK hP hD hS hA hN rfl hl.1 rfl (lv_room (Nat.le_of_ble_eq_true rfl)) dG_nearestTo_6) hS (fun rhb1 ws_1 H locs hb1 hP hD hS => ?_)
  obtain ⟨hb1, rfl⟩ := hb1
  refine lv_if_ne (tgt := 14) hx hb dG_nearestTo_9 (by decide) (fun c9 => ?_) (fun c9 => ?_)
  · obtain ⟨vn, hvn, rfl⟩ := blw_of (n := 60) (by omega) hb1 c9
    refine lv_iload_n hx hb dG_nearestTo_14 rfl (lv_at hl 1 rfl) ?_
    refine lv_bipush (v := 10) hx hb dG_nearestTo_15 (by decide) ?_
    refine lv_idiv hx hb dG_nearestTo_17 (by decide) ?_
    refine lv_topi (fun v_2 ev_2 => ?_)
    obtain rfl : v_2 = nI (vn / 10) := by rw [ev_2, show (10 : Int32) = nI 10 from rfl, pk_div (by omega) (by omega) (by omega)]
    refine lv_istore_n (lv' := [(2, .int (nI (vn / 10))), (0, .ref (ad kg)), (1, .int (nI vn))]) hx hb dG_nearestTo_18 rfl hl (by decide) rfl (fun ls hl => ?_)
    refine lv_iload_n hx hb dG_nearestTo_19 rfl (lv_at hl 2 rfl) ?_
    refine lv_bipush (v := 10) hx hb dG_nearestTo_20 (by decide) ?_
    refine lv_irem hx hb dG_nearestTo_22 (by decide) ?_
    refine lv_topi (fun v_3 ev_3 => ?_)
    obtain rfl : v_3 = nI (vn % 10) := by rw [ev_3, show (10 : Int32) = nI 10 from rfl, pk_rem (by omega) (by omega) (by omega)]
    refine lv_istore_n (lv' := [(3, .int (nI (vn % 10))), (2, .int (nI (vn / 10))), (0, .ref (ad kg)), (1, .int (nI vn))]) hx hb dG_nearestTo_23 rfl hl (by decide) rfl (fun ls hl => ?_)
    refine lv_aload_n hx hb dG_nearestTo_24 rfl (lv_at hl 2 rfl) ?_
    refine lv_iload_n hx hb dG_nearestTo_25 rfl (lv_at hl 1 rfl) ?_
    refine lv_bipush (v := 10) hx hb dG_nearestTo_26 (by decide) ?_
    refine lv_imul hx hb dG_nearestTo_28 ?_
    refine lv_topi (fun v_4 ev_4 => ?_)
    obtain rfl : v_4 = nI (vn / 10 * 10) := by rw [ev_4, show (10 : Int32) = nI 10 from rfl, pk_mul]
    refine lv_iconst (v := 1) hx hb dG_nearestTo_29 (by decide) ?_
    refine lv_bipush (v := 10) hx hb dG_nearestTo_30 (by decide) ?_
    refine lv_iload_n hx hb dG_nearestTo_32 rfl (lv_at hl 0 rfl) ?_
    refine x_calli (x_runV (n := 4) (As := [.int (nI (vn / 10 * 10)), .int 1, .int 10, .int (nI (vn % 10))]) (rest := []) ⟨hx, hb, hml, hown, hts⟩ (cG_closest l D tys A ws cI hI ad kg g (vn / 10 * 10) 1 10 (vn % 10) (by omega) (by omega) (fun i hi => by omega) hG) tw_573 tw_575 ts_G_closest tw_2 tw_576 (by decide +kernel) rfl rfl ⟨by decide, by decide⟩ ⟨Nat.zero_le _, Nat.zero_le _⟩ (va_recv hK hP (ci := 0) (q0 := kg) rfl hg0) hK hP hD hS hA hN rfl hl.1 rfl (lv_room (Nat.le_of_ble_eq_true rfl)) dG_nearestTo_33) hS (fun rhc1 ws_5 H locs hc1 hP hD hS => ?_)
    obtain ⟨hc1, rfl⟩ := hc1
    refine lv_istore (lv' := [(4, .int rhc1), (3, .int (nI (vn % 10))), (2, .int (nI (vn / 10))), (0, .ref (ad kg)), (1, .int (nI vn))]) hx hb dG_nearestTo_36 hl (by decide) rfl (fun ls hl => ?_)
    refine lv_iload hx hb dG_nearestTo_38 (lv_at hl 0 rfl) ?_
    refine lv_iconst (v := (-1)) hx hb dG_nearestTo_40 (by decide) ?_
    refine lv_icmp_eq (tgt := 49) hx hb dG_nearestTo_41 (by decide) (fun c41 => ?_) (fun c41 => ?_)
    · refine lv_aload_n hx hb dG_nearestTo_49 rfl (lv_at hl 3 rfl) ?_
      refine lv_iload_n hx hb dG_nearestTo_50 rfl (lv_at hl 1 rfl) ?_
      refine lv_bipush (v := 10) hx hb dG_nearestTo_51 (by decide) ?_
      refine lv_bipush (v := 6) hx hb dG_nearestTo_53 (by decide) ?_
      refine lv_iload_n hx hb dG_nearestTo_55 rfl (lv_at hl 2 rfl) ?_
      refine x_calli (x_runV (n := 4) (As := [.int (nI (vn % 10)), .int 10, .int 6, .int (nI (vn / 10))]) (rest := []) ⟨hx, hb, hml, hown, hts⟩ (cG_closest l D tys A ws cI hI ad kg g (vn % 10) 10 6 (vn / 10) (by omega) (by omega) (fun i hi => by omega) hG) tw_573 tw_575 ts_G_closest tw_2 tw_576 (by decide +kernel) rfl rfl ⟨by decide, by decide⟩ ⟨Nat.zero_le _, Nat.zero_le _⟩ (va_recv hK hP (ci := 0) (q0 := kg) rfl hg0) hK hP hD hS hA hN rfl hl.1 rfl (lv_room (Nat.le_of_ble_eq_true rfl)) dG_nearestTo_56) hS (fun rhc2 ws_6 H locs hc2 hP hD hS => ?_)
      obtain ⟨hc2, rfl⟩ := hc2
      exact x_iret hx hb hr hlk hK hP hD hS dG_nearestTo_59 ⟨by unfold nearS nearN; rw [nI_toInt (by omega), if_pos ⟨by omega, by omega⟩, Int.toNat_natCast]; rw [hc1] at c41; rw [if_pos c41]; exact hc2, rfl⟩
    · refine lv_iload hx hb dG_nearestTo_44 (lv_at hl 0 rfl) ?_
      refine lv_goto (tgt := 59) hx hb dG_nearestTo_46 (by decide) ?_
      exact x_iret hx hb hr hlk hK hP hD hS dG_nearestTo_59 ⟨by unfold nearS nearN; rw [nI_toInt (by omega), if_pos ⟨by omega, by omega⟩, Int.toNat_natCast]; rw [hc1] at c41; rw [if_neg c41]; exact hc1, rfl⟩
  · refine lv_iconst (v := (-1)) hx hb dG_nearestTo_12 (by decide) ?_
    exact x_iret hx hb hr hlk hK hP hD hS dG_nearestTo_13 ⟨by have q := blw_no (n := 60) (by omega) hb1 c9; exact (if_neg q).symm, rfl⟩
