/-- promise 10: how many ways -/
def waysS (g : Gr) (t o st : Int32) : Int32 := if (0 ≤ t.toInt ∧ t.toInt < g.length) ∧ (0 ≤ o.toInt ∧ o.toInt < g.length) ∧ 0 ≤ st.toInt ∧ st.toInt ≤ 6 then (if t = o then 1 else nI (wy g o.toInt.toNat st.toInt.toNat t.toInt.toNat (((1 : Int32) <<< (t &&& 31)) ||| ((1 : Int32) <<< (o &&& 31))))) else -1
theorem waysS_in {g : Gr} {t o st : Nat} (hg : g.length ≤ 30) (h1 : t < g.length) (h2 : o < g.length) (h3 : st ≤ 6) : waysS g (nI t) (nI o) (nI st) = if t = o then 1 else nI (wy g o st t (((1 : Int32) <<< (nI t &&& 31)) ||| ((1 : Int32) <<< (nI o &&& 31)))) := by
  unfold waysS
  rw [nI_toInt (by omega), nI_toInt (by omega), nI_toInt (by omega), if_pos ⟨by omega, by omega, by omega, by omega⟩]
  by_cases e : t = o
  · rw [if_pos e, if_pos (by rw [e])]
  · rw [if_neg e, if_neg (fun h => e ((nI_eq (by omega) (by omega)).mp h))]; simp

set_option maxHeartbeats 4000000 in
set_option maxRecDepth 100000 in
/-- Graph.waysBetween(t, other, steps) -/
theorem cG_waysBetween (l : Launch) (D : va_G) (tys : List (ClassId × FieldType)) (A : Nat → Prop) (ws : va_W) (cI : ClassId) (hI : tys[0]? = some (cI, .int)) (ad : Nat → Nat) (kg : Nat) (g : Gr) (tt oo st : Int32) (hG : GraphAt cI ad ws kg g) : x_Mi l yG_waysBetween wG_waysBetween (xR 9) D xCl tys A [.ref (ad kg), .int tt, .int oo, .int st] ws (fun r ws1 => r = waysS g tt oo st ∧ ws = ws1) := by
  obtain ⟨FF, ⟨hg0, -⟩, -⟩ := id hG
  have hle := hG.ok.1
  refine x_enter (by decide) rfl (Nat.le_of_ble_eq_true rfl) (fun p e s m args below meth c ls hx hb hr hlk hml hown hnm hts hK hP hD hS hA hN hl => ?_)
  have hl : lv_has ls 4 [(0, .ref (ad kg)), (1, .int tt), (2, .int oo), (3, .int st)] := hl
  refine lv_iload_n hx hb dG_waysBetween_0 rfl (lv_at hl 1 rfl) ?_
  refine lv_aload_n hx hb dG_waysBetween_1 rfl (lv_at hl 0 rfl) ?_
  refine va_get (D := D) (cl := xCl) (ci := 0) (v := .int (nI g.length)) (C := rnG) (T := tbG) (N := 9) hx hb hts inG hown hK hP kg hg0 rfl 8 (by decide) (hts _ tw_37) (fun _ h9 => h9) rfl dG_waysBetween_2 ?_
  refine x_calli (x_runS (n := 2) (As := [.int tt, .int (nI g.length)]) (rest := []) ⟨hx, hb, hml, hown, hts⟩ (cG_below l D tys A ws tt ((nI g.length))) tw_178 tw_179 tw_2 tw_180 (by decide +kernel) rfl rfl ⟨by decide, by decide⟩ ⟨Nat.zero_le _, Nat.zero_le _⟩ hK hP hD hS hA hN rfl hl.1 rfl (lv_room (Nat.le_of_ble_eq_true rfl)) dG_waysBetween_5) hS (fun rhb1 ws_1 H locs hb1 hP hD hS => ?_)
  obtain ⟨hb1, rfl⟩ := hb1
  refine lv_if_eq (tgt := 32) hx hb dG_waysBetween_8 (by decide) (fun c8 => ?_) (fun c8 => ?_)
  · refine lv_iconst (v := (-1)) hx hb dG_waysBetween_32 (by decide) ?_
    exact x_iret hx hb hr hlk hK hP hD hS dG_waysBetween_33 ⟨(if_neg (fun hc => blw_no (by omega) hb1 c8 hc.1)).symm, rfl⟩
  · obtain ⟨ta, hta, rfl⟩ := blw_of (by omega) hb1 c8
    refine lv_iload_n hx hb dG_waysBetween_11 rfl (lv_at hl 2 rfl) ?_
    refine lv_aload_n hx hb dG_waysBetween_12 rfl (lv_at hl 0 rfl) ?_
    refine va_get (D := D) (cl := xCl) (ci := 0) (v := .int (nI g.length)) (C := rnG) (T := tbG) (N := 9) hx hb hts inG hown hK hP kg hg0 rfl 8 (by decide) (hts _ tw_37) (fun _ h9 => h9) rfl dG_waysBetween_13 ?_
    refine x_calli (x_runS (n := 2) (As := [.int oo, .int (nI g.length)]) (rest := []) ⟨hx, hb, hml, hown, hts⟩ (cG_below l D tys A ws oo ((nI g.length))) tw_178 tw_179 tw_2 tw_180 (by decide +kernel) rfl rfl ⟨by decide, by decide⟩ ⟨Nat.zero_le _, Nat.zero_le _⟩ hK hP hD hS hA hN rfl hl.1 rfl (lv_room (Nat.le_of_ble_eq_true rfl)) dG_waysBetween_16) hS (fun rhb2 ws_2 H locs hb2 hP hD hS => ?_)
    obtain ⟨hb2, rfl⟩ := hb2
    refine lv_if_eq (tgt := 32) hx hb dG_waysBetween_19 (by decide) (fun c19 => ?_) (fun c19 => ?_)
    · refine lv_iconst (v := (-1)) hx hb dG_waysBetween_32 (by decide) ?_
      exact x_iret hx hb hr hlk hK hP hD hS dG_waysBetween_33 ⟨(if_neg (fun hc => blw_no (by omega) hb2 c19 hc.2.1)).symm, rfl⟩
    · obtain ⟨ob, hob, rfl⟩ := blw_of (by omega) hb2 c19
      refine lv_iload_n hx hb dG_waysBetween_22 rfl (lv_at hl 3 rfl) ?_
      refine lv_if_lt (tgt := 32) hx hb dG_waysBetween_23 (by decide) (fun c23 => ?_) (fun c23 => ?_)
      · refine lv_iconst (v := (-1)) hx hb dG_waysBetween_32 (by decide) ?_
        exact x_iret hx hb hr hlk hK hP hD hS dG_waysBetween_33 ⟨(if_neg (fun hc => by rw [i32_lt, i32_0] at c23; have := hc.2.2.1; omega)).symm, rfl⟩
      · refine lv_iload_n hx hb dG_waysBetween_26 rfl (lv_at hl 3 rfl) ?_
        refine lv_bipush (v := 6) hx hb dG_waysBetween_27 (by decide) ?_
        refine lv_icmp_le (tgt := 34) hx hb dG_waysBetween_29 (by decide) (fun c29 => ?_) (fun c29 => ?_)
        · obtain ⟨sn, hsn, rfl⟩ : ∃ j : Nat, j ≤ 6 ∧ st = nI j := nI_of2 (M := 6) rfl c23 c29
          refine lv_iload_n hx hb dG_waysBetween_34 rfl (lv_at hl 1 rfl) ?_
          refine lv_iload_n hx hb dG_waysBetween_35 rfl (lv_at hl 2 rfl) ?_
          refine lv_icmp_ne (tgt := 43) hx hb dG_waysBetween_36 (by decide) (fun c36 => ?_) (fun c36 => ?_)
          · refine lv_aload_n hx hb dG_waysBetween_43 rfl (lv_at hl 0 rfl) ?_
            refine lv_iload_n hx hb dG_waysBetween_44 rfl (lv_at hl 1 rfl) ?_
            refine lv_iload_n hx hb dG_waysBetween_45 rfl (lv_at hl 2 rfl) ?_
            refine lv_iload_n hx hb dG_waysBetween_46 rfl (lv_at hl 3 rfl) ?_
            refine lv_iconst (v := 1) hx hb dG_waysBetween_47 (by decide) ?_
            refine lv_iload_n hx hb dG_waysBetween_48 rfl (lv_at hl 1 rfl) ?_
            refine lv_ishl hx hb dG_waysBetween_49 ?_
            refine lv_topi (fun v_3 ev_3 => ?_)
            refine lv_iconst (v := 1) hx hb dG_waysBetween_50 (by decide) ?_
            refine lv_iload_n hx hb dG_waysBetween_51 rfl (lv_at hl 2 rfl) ?_
            refine lv_ishl hx hb dG_waysBetween_52 ?_
            refine lv_topi (fun v_4 ev_4 => ?_)
            refine lv_ior hx hb dG_waysBetween_53 ?_
            refine lv_topi (fun v_5 ev_5 => ?_)
            refine x_calli (x_runV (n := 4) (As := [.int (nI ta), .int (nI ob), .int (nI sn), .int v_5]) (rest := []) ⟨hx, hb, hml, hown, hts⟩ (cG_waysOn l D tys A cI hI ad kg g ob hob sn hsn ws ta v_5 hta hG) tw_597 tw_599 ts_G_waysOn tw_2 tw_600 (by decide +kernel) rfl rfl (xR_ok (by omega) (by omega)) ⟨Nat.zero_le _, Nat.zero_le _⟩ (va_recv hK hP (ci := 0) (q0 := kg) rfl hg0) hK hP hD hS hA hN rfl hl.1 rfl (lv_room (Nat.le_of_ble_eq_true rfl)) dG_waysBetween_54) hS (fun rwo ws_6 H locs hwo hP hD hS => ?_)
            obtain ⟨hwo, rfl⟩ := hwo
            exact x_iret hx hb hr hlk hK hP hD hS dG_waysBetween_57 ⟨by rw [waysS_in hle hta hob hsn, if_neg (fun h => c36 (by rw [h])), hwo, ev_5, ev_4, ev_3], rfl⟩
          · refine lv_iconst (v := 1) hx hb dG_waysBetween_39 (by decide) ?_
            refine lv_goto (tgt := 57) hx hb dG_waysBetween_40 (by decide) ?_
            exact x_iret hx hb hr hlk hK hP hD hS dG_waysBetween_57 ⟨by rw [waysS_in hle hta hob hsn, if_pos ((nI_eq (by omega) (by omega)).mp c36)], rfl⟩
        · refine lv_iconst (v := (-1)) hx hb dG_waysBetween_32 (by decide) ?_
          exact x_iret hx hb hr hlk hK hP hD hS dG_waysBetween_33 ⟨(if_neg (fun hc => by rw [i32_le, show (6 : Int32).toInt = 6 from rfl] at c29; have := hc.2.2.2; omega)).symm, rfl⟩

-- ===== characters =====
def isDg (w : Nat) : Bool := decide (48 ≤ w ∧ w ≤ 57)
def isCp (w : Nat) : Bool := decide (65 ≤ w ∧ w ≤ 90)
def isRw (w : Nat) : Bool := decide ((48 ≤ w ∧ w ≤ 57) ∨ (65 ≤ w ∧ w ≤ 90) ∨ (97 ≤ w ∧ w ≤ 122))
def isJn (w : Nat) : Bool := decide (w = 43 ∨ w = 45 ∨ w = 38)
def isSg (w : Nat) : Bool := decide (w = 40 ∨ w = 41 ∨ w = 44 ∨ w = 61 ∨ w = 43 ∨ w = 45 ∨ w = 38)

set_option maxHeartbeats 4000000 in
set_option maxRecDepth 100000 in
theorem cX_isDigit (l : Launch) (D : va_G) (tys : List (ClassId × FieldType)) (A : Nat → Prop) (ws : va_W) (w : Nat) (hw : w < 65536) : x_Mi l yX_isDigit wX_isDigit (xR 0) D xCl tys A [.int (nI w)] ws (fun r ws1 => r = b2i (isDg w) ∧ ws = ws1) := by
  refine x_enter (by decide) rfl (Nat.le_of_ble_eq_true rfl) (fun p e s m args below meth c ls hx hb hr hlk hml hown hnm hts hK hP hD hS hA hN hl => ?_)
  have hl : lv_has ls 1 [(0, .int (nI w))] := hl
  refine lv_iload_n hx hb dX_isDigit_0 rfl (lv_at hl 0 rfl) ?_
  refine lv_bipush (v := 48) hx hb dX_isDigit_1 (by decide) ?_
  refine lv_icmp_lt (tgt := 16) hx hb dX_isDigit_3 (by decide) (fun c3 => ?_) (fun c3 => ?_)
  · refine lv_iconst (v := 0) hx hb dX_isDigit_16 (by decide) ?_
    exact x_zret hx hb hr rfl hlk hK hP hD hS dX_isDigit_17 ⟨by have nc3 : w < 48 := (by have q : nI w < nI 48 := c3; rw [nI_ltI (by omega) (by omega)] at q; exact q); rw [show isDg w = false from (by unfold isDg; exact decide_eq_false (by omega))]; rfl, rfl⟩
  · refine lv_iload_n hx hb dX_isDigit_6 rfl (lv_at hl 0 rfl) ?_
    refine lv_bipush (v := 57) hx hb dX_isDigit_7 (by decide) ?_
    refine lv_icmp_gt (tgt := 16) hx hb dX_isDigit_9 (by decide) (fun c9 => ?_) (fun c9 => ?_)
    · refine lv_iconst (v := 0) hx hb dX_isDigit_16 (by decide) ?_
      exact x_zret hx hb hr rfl hlk hK hP hD hS dX_isDigit_17 ⟨by have nc3 : ¬ w < 48 := (by have q : ¬ nI w < nI 48 := c3; rw [nI_ltI (by omega) (by omega)] at q; exact q); have nc9 : 57 < w := (by have q : nI 57 < nI w := c9; rw [nI_ltI (by omega) (by omega)] at q; exact q); rw [show isDg w = false from (by unfold isDg; exact decide_eq_false (by omega))]; rfl, rfl⟩
    · refine lv_iconst (v := 1) hx hb dX_isDigit_12 (by decide) ?_
      refine lv_goto (tgt := 17) hx hb dX_isDigit_13 (by decide) ?_
      exact x_zret hx hb hr rfl hlk hK hP hD hS dX_isDigit_17 ⟨by have nc3 : ¬ w < 48 := (by have q : ¬ nI w < nI 48 := c3; rw [nI_ltI (by omega) (by omega)] at q; exact q); have nc9 : ¬ 57 < w := (by have q : ¬ nI 57 < nI w := c9; rw [nI_ltI (by omega) (by omega)] at q; exact q); rw [show isDg w = true from (by unfold isDg; exact decide_eq_true (by omega))]; rfl, rfl⟩

set_option maxHeartbeats 4000000 in
set_option maxRecDepth 100000 in
theorem cX_isCapital (l : Launch) (D : va_G) (tys : List (ClassId × FieldType)) (A : Nat → Prop) (ws : va_W) (w : Nat) (hw : w < 65536) : x_Mi l yX_isCapital wX_isCapital (xR 0) D xCl tys A [.int (nI w)] ws (fun r ws1 => r = b2i (isCp w) ∧ ws = ws1) := by
  refine x_enter (by decide) rfl (Nat.le_of_ble_eq_true rfl) (fun p e s m args below meth c ls hx hb hr hlk hml hown hnm hts hK hP hD hS hA hN hl => ?_)
  have hl : lv_has ls 1 [(0, .int (nI w))] := hl
  refine lv_iload_n hx hb dX_isCapital_0 rfl (lv_at hl 0 rfl) ?_
  refine lv_bipush (v := 65) hx hb dX_isCapital_1 (by decide) ?_
  refine lv_icmp_lt (tgt := 16) hx hb dX_isCapital_3 (by decide) (fun c3 => ?_) (fun c3 => ?_)
  · refine lv_iconst (v := 0) hx hb dX_isCapital_16 (by decide) ?_
    exact x_zret hx hb hr rfl hlk hK hP hD hS dX_isCapital_17 ⟨by have nc3 : w < 65 := (by have q : nI w < nI 65 := c3; rw [nI_ltI (by omega) (by omega)] at q; exact q); rw [show isCp w = false from (by unfold isCp; exact decide_eq_false (by omega))]; rfl, rfl⟩
  · refine lv_iload_n hx hb dX_isCapital_6 rfl (lv_at hl 0 rfl) ?_
    refine lv_bipush (v := 90) hx hb dX_isCapital_7 (by decide) ?_
    refine lv_icmp_gt (tgt := 16) hx hb dX_isCapital_9 (by decide) (fun c9 => ?_) (fun c9 => ?_)
    · refine lv_iconst (v := 0) hx hb dX_isCapital_16 (by decide) ?_
      exact x_zret hx hb hr rfl hlk hK hP hD hS dX_isCapital_17 ⟨by have nc3 : ¬ w < 65 := (by have q : ¬ nI w < nI 65 := c3; rw [nI_ltI (by omega) (by omega)] at q; exact q); have nc9 : 90 < w := (by have q : nI 90 < nI w := c9; rw [nI_ltI (by omega) (by omega)] at q; exact q); rw [show isCp w = false from (by unfold isCp; exact decide_eq_false (by omega))]; rfl, rfl⟩
    · refine lv_iconst (v := 1) hx hb dX_isCapital_12 (by decide) ?_
      refine lv_goto (tgt := 17) hx hb dX_isCapital_13 (by decide) ?_
      exact x_zret hx hb hr rfl hlk hK hP hD hS dX_isCapital_17 ⟨by have nc3 : ¬ w < 65 := (by have q : ¬ nI w < nI 65 := c3; rw [nI_ltI (by omega) (by omega)] at q; exact q); have nc9 : ¬ 90 < w := (by have q : ¬ nI 90 < nI w := c9; rw [nI_ltI (by omega) (by omega)] at q; exact q); rw [show isCp w = true from (by unfold isCp; exact decide_eq_true (by omega))]; rfl, rfl⟩

set_option maxHeartbeats 4000000 in
set_option maxRecDepth 100000 in
theorem cQ_isJoin (l : Launch) (D : va_G) (tys : List (ClassId × FieldType)) (A : Nat → Prop) (ws : va_W) (w : Nat) (hw : w < 65536) : x_Mi l yQ_isJoin wQ_isJoin (xR 0) D xCl tys A [.int (nI w)] ws (fun r ws1 => r = b2i (isJn w) ∧ ws = ws1) := by
  refine x_enter (by decide) rfl (Nat.le_of_ble_eq_true rfl) (fun p e s m args below meth c ls hx hb hr hlk hml hown hnm hts hK hP hD hS hA hN hl => ?_)
  have hl : lv_has ls 1 [(0, .int (nI w))] := hl
  refine lv_iload_n hx hb dQ_isJoin_0 rfl (lv_at hl 0 rfl) ?_
  refine lv_bipush (v := 43) hx hb dQ_isJoin_1 (by decide) ?_
  refine lv_icmp_eq (tgt := 18) hx hb dQ_isJoin_3 (by decide) (fun c3 => ?_) (fun c3 => ?_)
  · refine lv_iconst (v := 1) hx hb dQ_isJoin_18 (by decide) ?_
    refine lv_goto (tgt := 23) hx hb dQ_isJoin_19 (by decide) ?_
    exact x_zret hx hb hr rfl hlk hK hP hD hS dQ_isJoin_23 ⟨by have nc3 : w = 43 := (by have q : nI w = nI 43 := c3; rw [nI_eq (by omega) (by omega)] at q; exact q); rw [show isJn w = true from (by unfold isJn; exact decide_eq_true (by omega))]; rfl, rfl⟩
  · refine lv_iload_n hx hb dQ_isJoin_6 rfl (lv_at hl 0 rfl) ?_
    refine lv_bipush (v := 45) hx hb dQ_isJoin_7 (by decide) ?_
    refine lv_icmp_eq (tgt := 18) hx hb dQ_isJoin_9 (by decide) (fun c9 => ?_) (fun c9 => ?_)
    · refine lv_iconst (v := 1) hx hb dQ_isJoin_18 (by decide) ?_
      refine lv_goto (tgt := 23) hx hb dQ_isJoin_19 (by decide) ?_
      exact x_zret hx hb hr rfl hlk hK hP hD hS dQ_isJoin_23 ⟨by have nc3 : ¬ w = 43 := (by have q : ¬ nI w = nI 43 := c3; rw [nI_eq (by omega) (by omega)] at q; exact q); have nc9 : w = 45 := (by have q : nI w = nI 45 := c9; rw [nI_eq (by omega) (by omega)] at q; exact q); rw [show isJn w = true from (by unfold isJn; exact decide_eq_true (by omega))]; rfl, rfl⟩
    · refine lv_iload_n hx hb dQ_isJoin_12 rfl (lv_at hl 0 rfl) ?_
      refine lv_bipush (v := 38) hx hb dQ_isJoin_13 (by decide) ?_
      refine lv_icmp_ne (tgt := 22) hx hb dQ_isJoin_15 (by decide) (fun c15 => ?_) (fun c15 => ?_)
      · refine lv_iconst (v := 0) hx hb dQ_isJoin_22 (by decide) ?_
        exact x_zret hx hb hr rfl hlk hK hP hD hS dQ_isJoin_23 ⟨by have nc3 : ¬ w = 43 := (by have q : ¬ nI w = nI 43 := c3; rw [nI_eq (by omega) (by omega)] at q; exact q); have nc9 : ¬ w = 45 := (by have q : ¬ nI w = nI 45 := c9; rw [nI_eq (by omega) (by omega)] at q; exact q); have nc15 : ¬ w = 38 := (by have q : ¬ nI w = nI 38 := c15; rw [nI_eq (by omega) (by omega)] at q; exact q); rw [show isJn w = false from (by unfold isJn; exact decide_eq_false (by omega))]; rfl, rfl⟩
      · refine lv_iconst (v := 1) hx hb dQ_isJoin_18 (by decide) ?_
        refine lv_goto (tgt := 23) hx hb dQ_isJoin_19 (by decide) ?_
        exact x_zret hx hb hr rfl hlk hK hP hD hS dQ_isJoin_23 ⟨by have nc3 : ¬ w = 43 := (by have q : ¬ nI w = nI 43 := c3; rw [nI_eq (by omega) (by omega)] at q; exact q); have nc9 : ¬ w = 45 := (by have q : ¬ nI w = nI 45 := c9; rw [nI_eq (by omega) (by omega)] at q; exact q); have nc15 : w = 38 := (by have q : nI w = nI 38 := c15; rw [nI_eq (by omega) (by omega)] at q; exact q); rw [show isJn w = true from (by unfold isJn; exact decide_eq_true (by omega))]; rfl, rfl⟩

set_option maxHeartbeats 4000000 in
set_option maxRecDepth 100000 in
theorem cX_isRowChar (l : Launch) (D : va_G) (tys : List (ClassId × FieldType)) (A : Nat → Prop) (ws : va_W) (w : Nat) (hw : w < 65536) : x_Mi l yX_isRowChar wX_isRowChar (xR 1) D xCl tys A [.int (nI w)] ws (fun r ws1 => r = b2i (isRw w) ∧ ws = ws1) := by
  refine x_enter (by decide) rfl (Nat.le_of_ble_eq_true rfl) (fun p e s m args below meth c ls hx hb hr hlk hml hown hnm hts hK hP hD hS hA hN hl => ?_)
  have hl : lv_has ls 1 [(0, .int (nI w))] := hl
  refine lv_iload_n hx hb dX_isRowChar_0 rfl (lv_at hl 0 rfl) ?_
  refine x_calli (x_runS (n := 1) (As := [.int (nI w)]) (rest := []) ⟨hx, hb, hml, hown, hts⟩ (cX_isDigit l D tys A ws w hw) tw_231 tw_232 tw_3 tw_233 (by decide +kernel) rfl rfl ⟨by decide, by decide⟩ ⟨Nat.zero_le _, Nat.zero_le _⟩ hK hP hD hS hA hN rfl hl.1 rfl (lv_room (Nat.le_of_ble_eq_true rfl)) dX_isRowChar_1) hS (fun rhd ws_1 H locs hd hP hD hS => ?_)
  obtain ⟨hd, rfl⟩ := hd
  refine lv_if_ne (tgt := 26) hx hb dX_isRowChar_4 (by decide) (fun c4 => ?_) (fun c4 => ?_)
  · refine lv_iconst (v := 1) hx hb dX_isRowChar_26 (by decide) ?_
    refine lv_goto (tgt := 31) hx hb dX_isRowChar_27 (by decide) ?_
    exact x_zret hx hb hr rfl hlk hK hP hD hS dX_isRowChar_31 ⟨by have nc4 : isDg w = true := (by rw [hd, b2i_n0] at c4; exact c4); unfold isDg at nc4; rw [decide_eq_true_eq] at nc4; rw [show isRw w = true from (by unfold isRw; exact decide_eq_true (by omega))]; rfl, rfl⟩
  · refine lv_iload_n hx hb dX_isRowChar_7 rfl (lv_at hl 0 rfl) ?_
    refine x_calli (x_runS (n := 1) (As := [.int (nI w)]) (rest := []) ⟨hx, hb, hml, hown, hts⟩ (cX_isCapital l D tys A ws w hw) tw_234 tw_235 tw_3 tw_236 (by decide +kernel) rfl rfl ⟨by decide, by decide⟩ ⟨Nat.zero_le _, Nat.zero_le _⟩ hK hP hD hS hA hN rfl hl.1 rfl (lv_room (Nat.le_of_ble_eq_true rfl)) dX_isRowChar_8) hS (fun rhc ws_2 H locs hc hP hD hS => ?_)
    obtain ⟨hc, rfl⟩ := hc
    refine lv_if_ne (tgt := 26) hx hb dX_isRowChar_11 (by decide) (fun c11 => ?_) (fun c11 => ?_)
    · refine lv_iconst (v := 1) hx hb dX_isRowChar_26 (by decide) ?_
      refine lv_goto (tgt := 31) hx hb dX_isRowChar_27 (by decide) ?_
      exact x_zret hx hb hr rfl hlk hK hP hD hS dX_isRowChar_31 ⟨by have nc4 : isDg w = false := (by rw [hd, b2i_0] at c4; exact c4); unfold isDg at nc4; rw [decide_eq_false_iff_not] at nc4; have nc11 : isCp w = true := (by rw [hc, b2i_n0] at c11; exact c11); unfold isCp at nc11; rw [decide_eq_true_eq] at nc11; rw [show isRw w = true from (by unfold isRw; exact decide_eq_true (by omega))]; rfl, rfl⟩
    · refine lv_iload_n hx hb dX_isRowChar_14 rfl (lv_at hl 0 rfl) ?_
      refine lv_bipush (v := 97) hx hb dX_isRowChar_15 (by decide) ?_
      refine lv_icmp_lt (tgt := 30) hx hb dX_isRowChar_17 (by decide) (fun c17 => ?_) (fun c17 => ?_)
      · refine lv_iconst (v := 0) hx hb dX_isRowChar_30 (by decide) ?_
        exact x_zret hx hb hr rfl hlk hK hP hD hS dX_isRowChar_31 ⟨by have nc17 : w < 97 := (by have q : nI w < nI 97 := c17; rw [nI_ltI (by omega) (by omega)] at q; exact q); have nc4 : isDg w = false := (by rw [hd, b2i_0] at c4; exact c4); unfold isDg at nc4; rw [decide_eq_false_iff_not] at nc4; have nc11 : isCp w = false := (by rw [hc, b2i_0] at c11; exact c11); unfold isCp at nc11; rw [decide_eq_false_iff_not] at nc11; rw [show isRw w = false from (by unfold isRw; exact decide_eq_false (by omega))]; rfl, rfl⟩
      · refine lv_iload_n hx hb dX_isRowChar_20 rfl (lv_at hl 0 rfl) ?_
        refine lv_bipush (v := 122) hx hb dX_isRowChar_21 (by decide) ?_
        refine lv_icmp_gt (tgt := 30) hx hb dX_isRowChar_23 (by decide) (fun c23 => ?_) (fun c23 => ?_)
        · refine lv_iconst (v := 0) hx hb dX_isRowChar_30 (by decide) ?_
          exact x_zret hx hb hr rfl hlk hK hP hD hS dX_isRowChar_31 ⟨by have nc17 : ¬ w < 97 := (by have q : ¬ nI w < nI 97 := c17; rw [nI_ltI (by omega) (by omega)] at q; exact q); have nc23 : 122 < w := (by have q : nI 122 < nI w := c23; rw [nI_ltI (by omega) (by omega)] at q; exact q); have nc4 : isDg w = false := (by rw [hd, b2i_0] at c4; exact c4); unfold isDg at nc4; rw [decide_eq_false_iff_not] at nc4; have nc11 : isCp w = false := (by rw [hc, b2i_0] at c11; exact c11); unfold isCp at nc11; rw [decide_eq_false_iff_not] at nc11; rw [show isRw w = false from (by unfold isRw; exact decide_eq_false (by omega))]; rfl, rfl⟩
        · refine lv_iconst (v := 1) hx hb dX_isRowChar_26 (by decide) ?_
          refine lv_goto (tgt := 31) hx hb dX_isRowChar_27 (by decide) ?_
          exact x_zret hx hb hr rfl hlk hK hP hD hS dX_isRowChar_31 ⟨by have nc17 : ¬ w < 97 := (by have q : ¬ nI w < nI 97 := c17; rw [nI_ltI (by omega) (by omega)] at q; exact q); have nc23 : ¬ 122 < w := (by have q : ¬ nI 122 < nI w := c23; rw [nI_ltI (by omega) (by omega)] at q; exact q); have nc4 : isDg w = false := (by rw [hd, b2i_0] at c4; exact c4); unfold isDg at nc4; rw [decide_eq_false_iff_not] at nc4; have nc11 : isCp w = false := (by rw [hc, b2i_0] at c11; exact c11); unfold isCp at nc11; rw [decide_eq_false_iff_not] at nc11; rw [show isRw w = true from (by unfold isRw; exact decide_eq_true (by omega))]; rfl, rfl⟩

set_option maxHeartbeats 4000000 in
set_option maxRecDepth 100000 in
theorem cX_isSign (l : Launch) (D : va_G) (tys : List (ClassId × FieldType)) (A : Nat → Prop) (ws : va_W) (w : Nat) (hw : w < 65536) : x_Mi l yX_isSign wX_isSign (xR 1) D xCl tys A [.int (nI w)] ws (fun r ws1 => r = b2i (isSg w) ∧ ws = ws1) := by
  refine x_enter (by decide) rfl (Nat.le_of_ble_eq_true rfl) (fun p e s m args below meth c ls hx hb hr hlk hml hown hnm hts hK hP hD hS hA hN hl => ?_)
  have hl : lv_has ls 1 [(0, .int (nI w))] := hl
  refine lv_iload_n hx hb dX_isSign_0 rfl (lv_at hl 0 rfl) ?_
  refine lv_bipush (v := 40) hx hb dX_isSign_1 (by decide) ?_
  refine lv_icmp_eq (tgt := 31) hx hb dX_isSign_3 (by decide) (fun c3 => ?_) (fun c3 => ?_)
  · refine lv_iconst (v := 1) hx hb dX_isSign_31 (by decide) ?_
    refine lv_goto (tgt := 36) hx hb dX_isSign_32 (by decide) ?_
    exact x_zret hx hb hr rfl hlk hK hP hD hS dX_isSign_36 ⟨by have nc3 : w = 40 := (by have q : nI w = nI 40 := c3; rw [nI_eq (by omega) (by omega)] at q; exact q); rw [show isSg w = true from (by unfold isSg; exact decide_eq_true (by omega))]; rfl, rfl⟩
  · refine lv_iload_n hx hb dX_isSign_6 rfl (lv_at hl 0 rfl) ?_
    refine lv_bipush (v := 41) hx hb dX_isSign_7 (by decide) ?_
    refine lv_icmp_eq (tgt := 31) hx hb dX_isSign_9 (by decide) (fun c9 => ?_) (fun c9 => ?_)
    · refine lv_iconst (v := 1) hx hb dX_isSign_31 (by decide) ?_
      refine lv_goto (tgt := 36) hx hb dX_isSign_32 (by decide) ?_
      exact x_zret hx hb hr rfl hlk hK hP hD hS dX_isSign_36 ⟨by have nc3 : ¬ w = 40 := (by have q : ¬ nI w = nI 40 := c3; rw [nI_eq (by omega) (by omega)] at q; exact q); have nc9 : w = 41 := (by have q : nI w = nI 41 := c9; rw [nI_eq (by omega) (by omega)] at q; exact q); rw [show isSg w = true from (by unfold isSg; exact decide_eq_true (by omega))]; rfl, rfl⟩
    · refine lv_iload_n hx hb dX_isSign_12 rfl (lv_at hl 0 rfl) ?_
      refine lv_bipush (v := 44) hx hb dX_isSign_13 (by decide) ?_
      refine lv_icmp_eq (tgt := 31) hx hb dX_isSign_15 (by decide) (fun c15 => ?_) (fun c15 => ?_)
      · refine lv_iconst (v := 1) hx hb dX_isSign_31 (by decide) ?_
        refine lv_goto (tgt := 36) hx hb dX_isSign_32 (by decide) ?_
        exact x_zret hx hb hr rfl hlk hK hP hD hS dX_isSign_36 ⟨by have nc3 : ¬ w = 40 := (by have q : ¬ nI w = nI 40 := c3; rw [nI_eq (by omega) (by omega)] at q; exact q); have nc9 : ¬ w = 41 := (by have q : ¬ nI w = nI 41 := c9; rw [nI_eq (by omega) (by omega)] at q; exact q); have nc15 : w = 44 := (by have q : nI w = nI 44 := c15; rw [nI_eq (by omega) (by omega)] at q; exact q); rw [show isSg w = true from (by unfold isSg; exact decide_eq_true (by omega))]; rfl, rfl⟩
      · refine lv_iload_n hx hb dX_isSign_18 rfl (lv_at hl 0 rfl) ?_
        refine lv_bipush (v := 61) hx hb dX_isSign_19 (by decide) ?_
        refine lv_icmp_eq (tgt := 31) hx hb dX_isSign_21 (by decide) (fun c21 => ?_) (fun c21 => ?_)
        · refine lv_iconst (v := 1) hx hb dX_isSign_31 (by decide) ?_
          refine lv_goto (tgt := 36) hx hb dX_isSign_32 (by decide) ?_
          exact x_zret hx hb hr rfl hlk hK hP hD hS dX_isSign_36 ⟨by have nc3 : ¬ w = 40 := (by have q : ¬ nI w = nI 40 := c3; rw [nI_eq (by omega) (by omega)] at q; exact q); have nc9 : ¬ w = 41 := (by have q : ¬ nI w = nI 41 := c9; rw [nI_eq (by omega) (by omega)] at q; exact q); have nc15 : ¬ w = 44 := (by have q : ¬ nI w = nI 44 := c15; rw [nI_eq (by omega) (by omega)] at q; exact q); have nc21 : w = 61 := (by have q : nI w = nI 61 := c21; rw [nI_eq (by omega) (by omega)] at q; exact q); rw [show isSg w = true from (by unfold isSg; exact decide_eq_true (by omega))]; rfl, rfl⟩
        · refine lv_iload_n hx hb dX_isSign_24 rfl (lv_at hl 0 rfl) ?_
          refine x_calli (x_runSN (n := 1) (As := [.int (nI w)]) (rest := []) ⟨hx, hb, hml, hown, hts⟩ (cQ_isJoin l D tys A ws w hw) (xN_317 hN) tw_318 tw_1 tw_319 (by decide +kernel) rfl rfl ⟨by decide, by decide⟩ ⟨Nat.zero_le _, Nat.zero_le _⟩ hK hP hD hS hA hN rfl hl.1 rfl (lv_room (Nat.le_of_ble_eq_true rfl)) dX_isSign_25) hS (fun rhj ws_1 H locs hj hP hD hS => ?_)
          obtain ⟨hj, rfl⟩ := hj
          refine lv_if_eq (tgt := 35) hx hb dX_isSign_28 (by decide) (fun c28 => ?_) (fun c28 => ?_)
          · refine lv_iconst (v := 0) hx hb dX_isSign_35 (by decide) ?_
            exact x_zret hx hb hr rfl hlk hK hP hD hS dX_isSign_36 ⟨by have nc3 : ¬ w = 40 := (by have q : ¬ nI w = nI 40 := c3; rw [nI_eq (by omega) (by omega)] at q; exact q); have nc9 : ¬ w = 41 := (by have q : ¬ nI w = nI 41 := c9; rw [nI_eq (by omega) (by omega)] at q; exact q); have nc15 : ¬ w = 44 := (by have q : ¬ nI w = nI 44 := c15; rw [nI_eq (by omega) (by omega)] at q; exact q); have nc21 : ¬ w = 61 := (by have q : ¬ nI w = nI 61 := c21; rw [nI_eq (by omega) (by omega)] at q; exact q); have nc28 : isJn w = false := (by rw [hj, b2i_0] at c28; exact c28); unfold isJn at nc28; rw [decide_eq_false_iff_not] at nc28; rw [show isSg w = false from (by unfold isSg; exact decide_eq_false (by omega))]; rfl, rfl⟩
          · refine lv_iconst (v := 1) hx hb dX_isSign_31 (by decide) ?_
            refine lv_goto (tgt := 36) hx hb dX_isSign_32 (by decide) ?_
            exact x_zret hx hb hr rfl hlk hK hP hD hS dX_isSign_36 ⟨by have nc3 : ¬ w = 40 := (by have q : ¬ nI w = nI 40 := c3; rw [nI_eq (by omega) (by omega)] at q; exact q); have nc9 : ¬ w = 41 := (by have q : ¬ nI w = nI 41 := c9; rw [nI_eq (by omega) (by omega)] at q; exact q); have nc15 : ¬ w = 44 := (by have q : ¬ nI w = nI 44 := c15; rw [nI_eq (by omega) (by omega)] at q; exact q); have nc21 : ¬ w = 61 := (by have q : ¬ nI w = nI 61 := c21; rw [nI_eq (by omega) (by omega)] at q; exact q); have nc28 : isJn w = true := (by rw [hj, b2i_n0] at c28; exact c28); unfold isJn at nc28; rw [decide_eq_true_eq] at nc28; rw [show isSg w = true from (by unfold isSg; exact decide_eq_true (by omega))]; rfl, rfl⟩

-- ===== Text =====
/-- the cells k, k + 1 are a Text with the characters s -/
def TextAt (cC : ClassId) (ad : Nat → Nat) (ws : va_W) (k : Nat) (cs : List Nat) : Prop :=
  ∃ f : Nat → Int32, ws[k]? = some (ad k, .inr (5, [.ref (ad (k + 1)), .int (nI cs.length)])) ∧ ws[k + 1]? = some (ad (k + 1), .inl (cC, 80, .inl f)) ∧ cs.length ≤ 80 ∧ (∀ (i : Nat) (h : i < cs.length), f i = nI cs[i]) ∧ ∀ c ∈ cs, 32 ≤ c ∧ c ≤ 126
theorem TextAt.obj {cC : ClassId} {ad : Nat → Nat} {ws : va_W} {k : Nat} {cs : List Nat} (h : TextAt cC ad ws k cs) : ∃ fs, ws[k]? = some (ad k, .inr (5, fs)) := by
  obtain ⟨f, h0, -⟩ := h
  exact ⟨_, h0⟩
theorem TextAt.keep {cC : ClassId} {ad : Nat → Nat} {ws ws1 : va_W} {k a b : Nat} {cs : List Nat} (h : TextAt cC ad ws k cs) (hf : x_fr a b ws ws1) (hd : k + 2 ≤ a ∨ b ≤ k) : TextAt cC ad ws1 k cs := by
  obtain ⟨f, h0, h1, r⟩ := h
  exact ⟨f, (hf _ (by omega)).trans h0, (hf _ (by omega)).trans h1, r⟩
theorem TextAt.le {cC : ClassId} {ad : Nat → Nat} {ws : va_W} {k : Nat} {cs : List Nat} (h : TextAt cC ad ws k cs) : cs.length ≤ 80 := by
  obtain ⟨f, -, -, h1, -⟩ := h
  exact h1
def chN (cs : List Nat) (i : Nat) : Nat := cs.getD i 32
def chI (cs : List Nat) (i : Int32) : Nat := if 0 ≤ i.toInt then chN cs i.toInt.toNat else 32
theorem chI_neg {cs : List Nat} {i : Int32} (h : i < 0) : chI cs i = 32 := by
  rw [i32_lt, i32_0] at h
  exact if_neg (by omega)
theorem chI_big {cs : List Nat} {i : Int32} (hL : cs.length ≤ 80) (h : nI cs.length ≤ i) : chI cs i = 32 := by
  rw [i32_le, nI_toInt (by omega)] at h
  unfold chI chN
  rw [if_pos (by omega), List.getD_eq_getElem?_getD, List.getElem?_eq_none (by omega)]; rfl
theorem chI_nI (cs : List Nat) {i : Nat} (h : i < 2 ^ 31) : chI cs (nI i) = chN cs i := by
  unfold chI
  rw [nI_toInt h, if_pos (by omega)]; simp
theorem chN_in {cs : List Nat} {i : Nat} (h : i < cs.length) : chN cs i = cs[i] := by
  unfold chN
  simp [h]
theorem chN_lt {cs : List Nat} (h : ∀ c ∈ cs, 32 ≤ c ∧ c ≤ 126) (i : Nat) : 32 ≤ chN cs i ∧ chN cs i ≤ 126 := by
  rcases Nat.lt_or_ge i cs.length with q | q
  · rw [chN_in q]; exact h _ (List.getElem_mem q)
  · unfold chN
    rw [List.getD_eq_getElem?_getD, List.getElem?_eq_none q]; decide
theorem TextAt.ch {cC : ClassId} {ad : Nat → Nat} {ws : va_W} {k : Nat} {cs : List Nat} (h : TextAt cC ad ws k cs) (i : Int32) : 32 ≤ chI cs i ∧ chI cs i ≤ 126 := by
  obtain ⟨f, -, -, -, -, h1⟩ := h
  unfold chI
  split
  · exact chN_lt h1 _
  · decide

set_option maxHeartbeats 4000000 in
set_option maxRecDepth 100000 in
/-- Text.clear() -/
theorem cX_clear (l : Launch) (D : va_G) (tys : List (ClassId × FieldType)) (A : Nat → Prop) (ws : va_W) (cC : ClassId) (hC : tys[1]? = some (cC, .char)) (ad : Nat → Nat) (k : Nat) (cs : List Nat) (hT : TextAt cC ad ws k cs) : x_Mv l yX_clear wX_clear (xR 0) D xCl tys A [.ref (ad k)] ws (fun ws1 => x_fr k (k + 2) ws ws1 ∧ TextAt cC ad ws1 k []) := by
  have hch := hT.ch
  obtain ⟨f, h0, h1, hle, hf, hcs⟩ := hT
  refine x_enter (by decide) rfl (Nat.le_of_ble_eq_true rfl) (fun p e s m args below meth c ls hx hb hr hlk hml hown hnm hts hK hP hD hS hA hN hl => ?_)
  have hl : lv_has ls 1 [(0, .ref (ad k))] := hl
  refine lv_aload_n hx hb dX_clear_0 rfl (lv_at hl 0 rfl) ?_
  refine lv_iconst (v := 0) hx hb dX_clear_1 (by decide) ?_
  refine va_put (D := D) (cl := xCl) (ci := 5) (v := .int 0) (ty := .int) (C := rnX) (T := tbX) (N := 2) hx hb hts inX tyX toX nmX hown hK hP hD hS k h0 rfl 1 (by decide) (hts _ tw_65) (fun _ h9 => h9) rfl (by decide +kernel) rfl rfl (Nat.le_of_ble_eq_true rfl) dX_clear_2 (fun H locs hP hD hS => ?_)
  obtain ⟨ws_2, hu_1, hP, hD⟩ := x_gen h0 hP hD
  have h_3 : ws_2[k]? = some (ad k, .inr (5, [.ref (ad (k + 1)), .int 0])) := hu_1.1
  have h_4 := (hu_1.2 (k + 1) (by omega)).trans h1
  exact x_vret hx hb hr hlk hK hP hD hS dX_clear_5 ⟨(hu_1.fr (a := k) (b := k + 2) (by omega) (by omega)), f, h_3, h_4, Nat.zero_le _, fun i h => absurd h (Nat.not_lt_zero i), fun _ h => absurd h List.not_mem_nil⟩

set_option maxHeartbeats 4000000 in
set_option maxRecDepth 100000 in
/-- Text.charAt(i) -/
theorem cX_charAt (l : Launch) (D : va_G) (tys : List (ClassId × FieldType)) (A : Nat → Prop) (ws : va_W) (cC : ClassId) (hC : tys[1]? = some (cC, .char)) (ad : Nat → Nat) (k : Nat) (cs : List Nat) (i : Int32) (hT : TextAt cC ad ws k cs) : x_Mi l yX_charAt wX_charAt (xR 0) D xCl tys A [.ref (ad k), .int i] ws (fun r ws1 => r = nI (chI cs i) ∧ ws = ws1) := by
  have hch := hT.ch
  obtain ⟨f, h0, h1, hle, hf, hcs⟩ := hT
  refine x_enter (by decide) rfl (Nat.le_of_ble_eq_true rfl) (fun p e s m args below meth c ls hx hb hr hlk hml hown hnm hts hK hP hD hS hA hN hl => ?_)
  have hl : lv_has ls 2 [(0, .ref (ad k)), (1, .int i)] := hl
  refine lv_iload_n hx hb dX_charAt_0 rfl (lv_at hl 1 rfl) ?_
  refine lv_if_lt (tgt := 21) hx hb dX_charAt_1 (by decide) (fun c1 => ?_) (fun c1 => ?_)
  · refine lv_bipush (v := 32) hx hb dX_charAt_21 (by decide) ?_
    exact x_zret hx hb hr (by decide) hlk hK hP hD hS dX_charAt_23 ⟨by rw [chI_neg c1]; rfl, rfl⟩
  · refine lv_iload_n hx hb dX_charAt_4 rfl (lv_at hl 1 rfl) ?_
    refine lv_aload_n hx hb dX_charAt_5 rfl (lv_at hl 0 rfl) ?_
    refine va_get (D := D) (cl := xCl) (ci := 5) (v := .int (nI cs.length)) (C := rnX) (T := tbX) (N := 2) hx hb hts inX hown hK hP k h0 rfl 1 (by decide) (hts _ tw_65) (fun _ h9 => h9) rfl dX_charAt_6 ?_
    refine lv_icmp_ge (tgt := 21) hx hb dX_charAt_9 (by decide) (fun c9 => ?_) (fun c9 => ?_)
    · refine lv_bipush (v := 32) hx hb dX_charAt_21 (by decide) ?_
      exact x_zret hx hb hr (by decide) hlk hK hP hD hS dX_charAt_23 ⟨by rw [chI_big hle c9]; rfl, rfl⟩
    · obtain ⟨j, hj, ej⟩ := ix_of (by omega) c1 c9
      refine lv_aload_n hx hb dX_charAt_12 rfl (lv_at hl 0 rfl) ?_
      refine va_get (D := D) (cl := xCl) (ci := 5) (v := .ref (ad (k + 1))) (C := rnX) (T := tbX) (N := 2) hx hb hts inX hown hK hP k h0 rfl 0 (by decide) (hts _ tw_64) (fun _ h9 => h9) rfl dX_charAt_13 ?_
      refine lv_iload_n hx hb dX_charAt_16 rfl (lv_at hl 1 rfl) ?_
      refine va_cald hx hb hK hP (k + 1) 1 h1 hC (by rw [ej]; exact vp_in_nI (by omega) (by omega)) dX_charAt_17 ?_
      refine lv_goto (tgt := 23) hx hb dX_charAt_18 (by decide) ?_
      exact x_zret hx hb hr (by rw [ej, nI_clamp (by omega), hf j hj]; exact (pk_charN (by have := hcs _ (List.getElem_mem hj); omega)).1) hlk hK hP hD hS dX_charAt_23 ⟨by rw [ej, chI_nI cs (by omega), chN_in hj, nI_clamp (by omega)]; exact hf j hj, rfl⟩

/-- promise 5: a character more, where it may be one and there is room -/
def typC (cs : List Nat) (w : Nat) : Bool := decide (32 ≤ w ∧ w ≤ 126 ∧ cs.length < 80)
def typS (cs : List Nat) (w : Nat) : List Nat := if typC cs w = true then cs ++ [w] else cs
theorem nar_char {q : Nat} (hq : q < 65536) : vp_nar .char (nI q) = nI q := by
  unfold vp_nar
  rw [(pk_charN hq).1]
theorem TextAt.push {cC : ClassId} {ad : Nat → Nat} {ws : va_W} {k w : Nat} {cs : List Nat} {f f1 : Nat → Int32} {n1 : Int32} (q0 : ws[k]? = some (ad k, .inr (5, [.ref (ad (k + 1)), .int n1]))) (q1 : ws[k + 1]? = some (ad (k + 1), .inl (cC, 80, .inl f1))) (hw : 32 ≤ w ∧ w ≤ 126) (hlt : cs.length < 80) (en : n1 = nI cs.length + 1) (ef : f1 = upd f (nI cs.length).toNatClampNeg (vp_nar .char (nI w))) (hf : ∀ (i : Nat) (h : i < cs.length), f i = nI cs[i]) (hcs : ∀ c ∈ cs, 32 ≤ c ∧ c ≤ 126) : TextAt cC ad ws k (typS cs w) := by
  have e : typS cs w = cs ++ [w] := if_pos (decide_eq_true ⟨hw.1, hw.2, hlt⟩)
  rw [e]
  have e1 : n1 = nI (cs ++ [w]).length := by rw [en, nI_1, List.length_append]; rfl
  subst e1 ef
  refine ⟨_, q0, q1, by rw [List.length_append]; exact hlt, ?_, ?_⟩
  · intro i h
    rw [nI_clamp (by omega), nar_char (by omega)]
    unfold upd
    by_cases e : i = cs.length
    · rw [if_pos e]; subst e; simp
    · have hi2 : i < cs.length := by
        have : i < (cs ++ [w]).length := h
        rw [List.length_append] at this
        simp only [List.length_singleton] at this
        omega
      rw [if_neg e, List.getElem_append_left hi2]
      exact hf i hi2
  · intro c hc
    rcases List.mem_append.mp hc with q | q
    · exact hcs c q
    · rw [List.mem_singleton] at q; omega

set_option maxHeartbeats 4000000 in
set_option maxRecDepth 100000 in
/-- Text.append(c) -/
theorem cX_append (l : Launch) (D : va_G) (tys : List (ClassId × FieldType)) (A : Nat → Prop) (ws : va_W) (cC : ClassId) (hC : tys[1]? = some (cC, .char)) (ad : Nat → Nat) (k : Nat) (cs : List Nat) (w : Nat) (hw : w < 65536) (hT : TextAt cC ad ws k cs) : x_Mi l yX_append wX_append (xR 0) D xCl tys A [.ref (ad k), .int (nI w)] ws (fun r ws1 => x_fr k (k + 2) ws ws1 ∧ r = b2i (typC cs w) ∧ TextAt cC ad ws1 k (typS cs w)) := by
  have hch := hT.ch
  obtain ⟨f, h0, h1, hle, hf, hcs⟩ := hT
  refine x_enter (by decide) rfl (Nat.le_of_ble_eq_true rfl) (fun p e s m args below meth c ls hx hb hr hlk hml hown hnm hts hK hP hD hS hA hN hl => ?_)
  have hl : lv_has ls 2 [(0, .ref (ad k)), (1, .int (nI w))] := hl
  refine lv_iload_n hx hb dX_append_0 rfl (lv_at hl 1 rfl) ?_
  refine lv_bipush (v := 32) hx hb dX_append_1 (by decide) ?_
  refine lv_icmp_lt (tgt := 24) hx hb dX_append_3 (by decide) (fun c3 => ?_) (fun c3 => ?_)
  · refine lv_iconst (v := 0) hx hb dX_append_24 (by decide) ?_
    exact x_zret hx hb hr rfl hlk hK hP hD hS dX_append_25 ⟨x_fr.rf, (by have nc3 : w < 32 := (by have q : nI w < nI 32 := c3; rw [nI_ltI (by omega) (by omega)] at q; exact q); have e : typC cs w = false := (by unfold typC; exact decide_eq_false (by omega)); rw [e]; rfl), (by have nc3 : w < 32 := (by have q : nI w < nI 32 := c3; rw [nI_ltI (by omega) (by omega)] at q; exact q); have e : typC cs w = false := (by unfold typC; exact decide_eq_false (by omega)); unfold typS; rw [e]; exact ⟨f, h0, h1, hle, hf, hcs⟩)⟩
  · refine lv_iload_n hx hb dX_append_6 rfl (lv_at hl 1 rfl) ?_
    refine lv_bipush (v := 126) hx hb dX_append_7 (by decide) ?_
    refine lv_icmp_gt (tgt := 24) hx hb dX_append_9 (by decide) (fun c9 => ?_) (fun c9 => ?_)
    · refine lv_iconst (v := 0) hx hb dX_append_24 (by decide) ?_
      exact x_zret hx hb hr rfl hlk hK hP hD hS dX_append_25 ⟨x_fr.rf, (by have nc3 : ¬ w < 32 := (by have q : ¬ nI w < nI 32 := c3; rw [nI_ltI (by omega) (by omega)] at q; exact q); have nc9 : 126 < w := (by have q : nI 126 < nI w := c9; rw [nI_ltI (by omega) (by omega)] at q; exact q); have e : typC cs w = false := (by unfold typC; exact decide_eq_false (by omega)); rw [e]; rfl), (by have nc3 : ¬ w < 32 := (by have q : ¬ nI w < nI 32 := c3; rw [nI_ltI (by omega) (by omega)] at q; exact q); have nc9 : 126 < w := (by have q : nI 126 < nI w := c9; rw [nI_ltI (by omega) (by omega)] at q; exact q); have e : typC cs w = false := (by unfold typC; exact decide_eq_false (by omega)); unfold typS; rw [e]; exact ⟨f, h0, h1, hle, hf, hcs⟩)⟩
    · refine lv_aload_n hx hb dX_append_12 rfl (lv_at hl 0 rfl) ?_
      refine va_get (D := D) (cl := xCl) (ci := 5) (v := .int (nI cs.length)) (C := rnX) (T := tbX) (N := 2) hx hb hts inX hown hK hP k h0 rfl 1 (by decide) (hts _ tw_65) (fun _ h9 => h9) rfl dX_append_13 ?_
      refine lv_aload_n hx hb dX_append_16 rfl (lv_at hl 0 rfl) ?_
      refine va_get (D := D) (cl := xCl) (ci := 5) (v := .ref (ad (k + 1))) (C := rnX) (T := tbX) (N := 2) hx hb hts inX hown hK hP k h0 rfl 0 (by decide) (hts _ tw_64) (fun _ h9 => h9) rfl dX_append_17 ?_
      refine va_alen (v := 80) hx hb hK hP (k + 1) 1 h1 hC (by rfl) dX_append_20 ?_
      refine lv_icmp_lt (tgt := 26) hx hb dX_append_21 (by decide) (fun c21 => ?_) (fun c21 => ?_)
      · refine lv_aload_n hx hb dX_append_26 rfl (lv_at hl 0 rfl) ?_
        refine va_get (D := D) (cl := xCl) (ci := 5) (v := .ref (ad (k + 1))) (C := rnX) (T := tbX) (N := 2) hx hb hts inX hown hK hP k h0 rfl 0 (by decide) (hts _ tw_64) (fun _ h9 => h9) rfl dX_append_27 ?_
        refine lv_aload_n hx hb dX_append_30 rfl (lv_at hl 0 rfl) ?_
        refine va_get (D := D) (cl := xCl) (ci := 5) (v := .int (nI cs.length)) (C := rnX) (T := tbX) (N := 2) hx hb hts inX hown hK hP k h0 rfl 1 (by decide) (hts _ tw_65) (fun _ h9 => h9) rfl dX_append_31 ?_
        refine lv_iload_n hx hb dX_append_34 rfl (lv_at hl 1 rfl) ?_
        refine va_cast hx hb hK hP hD hS (k + 1) 1 h1 hC (by have nc3 : ¬ w < 32 := (by have q : ¬ nI w < nI 32 := c3; rw [nI_ltI (by omega) (by omega)] at q; exact q); have nc9 : ¬ 126 < w := (by have q : ¬ nI 126 < nI w := c9; rw [nI_ltI (by omega) (by omega)] at q; exact q); have nc21 : (cs.length) < 80 := (by have q : nI ((cs.length)) < nI 80 := c21; rw [nI_ltI (by omega) (by omega)] at q; exact q); exact vp_in_nI (by omega) (by omega)) dX_append_35 (fun H locs hP hD hS => ?_)
        obtain ⟨ws_2, hu_1, hP, hD⟩ := x_gen h1 hP hD
        have h_3 : ws_2[k + 1]? = some (ad (k + 1), .inl (cC, 80, .inl (upd f ((nI cs.length)).toNatClampNeg ((vp_nar .char ((nI w))))))) := hu_1.1
        have h_4 := (hu_1.2 k (by omega)).trans h0
        refine lv_aload_n hx hb dX_append_36 rfl (lv_at hl 0 rfl) ?_
        refine lv_dup hx hb dX_append_37 rfl ?_
        refine va_get (D := D) (cl := xCl) (ci := 5) (v := .int (nI cs.length)) (C := rnX) (T := tbX) (N := 2) hx hb hts inX hown hK hP k h_4 rfl 1 (by decide) (hts _ tw_65) (fun _ h9 => h9) rfl dX_append_38 ?_
        refine lv_iconst (v := 1) hx hb dX_append_41 (by decide) ?_
        refine lv_iadd hx hb dX_append_42 ?_
        refine lv_topi (fun v_5 ev_5 => ?_)
        refine va_put (D := D) (cl := xCl) (ci := 5) (v := .int v_5) (ty := .int) (C := rnX) (T := tbX) (N := 2) hx hb hts inX tyX toX nmX hown hK hP hD hS k h_4 rfl 1 (by decide) (hts _ tw_65) (fun _ h9 => h9) rfl (by decide +kernel) rfl rfl (Nat.le_of_ble_eq_true rfl) dX_append_43 (fun H locs hP hD hS => ?_)
        obtain ⟨ws_7, hu_6, hP, hD⟩ := x_gen h_4 hP hD
        have h_8 : ws_7[k]? = some (ad k, .inr (5, [.ref (ad (k + 1)), .int v_5])) := hu_6.1
        have h_9 := (hu_6.2 (k + 1) (by omega)).trans h_3
        refine lv_iconst (v := 1) hx hb dX_append_46 (by decide) ?_
        exact x_zret hx hb hr rfl hlk hK hP hD hS dX_append_47 ⟨((hu_1.fr (a := k) (b := k + 2) (by omega) (by omega)).tr (hu_6.fr (a := k) (b := k + 2) (by omega) (by omega))), (by have nc3 : ¬ w < 32 := (by have q : ¬ nI w < nI 32 := c3; rw [nI_ltI (by omega) (by omega)] at q; exact q); have nc9 : ¬ 126 < w := (by have q : ¬ nI 126 < nI w := c9; rw [nI_ltI (by omega) (by omega)] at q; exact q); have nc21 : (cs.length) < 80 := (by have q : nI ((cs.length)) < nI 80 := c21; rw [nI_ltI (by omega) (by omega)] at q; exact q); rw [show typC cs w = true from decide_eq_true (by omega)]; rfl), (by have nc3 : ¬ w < 32 := (by have q : ¬ nI w < nI 32 := c3; rw [nI_ltI (by omega) (by omega)] at q; exact q); have nc9 : ¬ 126 < w := (by have q : ¬ nI 126 < nI w := c9; rw [nI_ltI (by omega) (by omega)] at q; exact q); have nc21 : (cs.length) < 80 := (by have q : nI ((cs.length)) < nI 80 := c21; rw [nI_ltI (by omega) (by omega)] at q; exact q); exact TextAt.push h_8 h_9 (by omega) (by omega) ev_5 rfl hf hcs)⟩
      · refine lv_iconst (v := 0) hx hb dX_append_24 (by decide) ?_
        exact x_zret hx hb hr rfl hlk hK hP hD hS dX_append_25 ⟨x_fr.rf, (by have nc3 : ¬ w < 32 := (by have q : ¬ nI w < nI 32 := c3; rw [nI_ltI (by omega) (by omega)] at q; exact q); have nc9 : ¬ 126 < w := (by have q : ¬ nI 126 < nI w := c9; rw [nI_ltI (by omega) (by omega)] at q; exact q); have nc21 : ¬ (cs.length) < 80 := (by have q : ¬ nI ((cs.length)) < nI 80 := c21; rw [nI_ltI (by omega) (by omega)] at q; exact q); have e : typC cs w = false := (by unfold typC; exact decide_eq_false (by omega)); rw [e]; rfl), (by have nc3 : ¬ w < 32 := (by have q : ¬ nI w < nI 32 := c3; rw [nI_ltI (by omega) (by omega)] at q; exact q); have nc9 : ¬ 126 < w := (by have q : ¬ nI 126 < nI w := c9; rw [nI_ltI (by omega) (by omega)] at q; exact q); have nc21 : ¬ (cs.length) < 80 := (by have q : ¬ nI ((cs.length)) < nI 80 := c21; rw [nI_ltI (by omega) (by omega)] at q; exact q); have e : typC cs w = false := (by unfold typC; exact decide_eq_false (by omega)); unfold typS; rw [e]; exact ⟨f, h0, h1, hle, hf, hcs⟩)⟩
