-- ===== sets that grow, step by step =====
/-- in the set, or come by one of it, within s steps -/
def bsB (nb : Nat → List Nat) (n : Nat) (S : Nat → Bool) : Nat → Nat → Bool
  | 0, u => S u
  | s + 1, u => bsB nb n S s u || (List.range n).any (fun v => bsB nb n S s v && decide (u ∈ nb v))
theorem any_succ (n : Nat) (p : Nat → Bool) : (List.range (n + 1)).any p = ((List.range n).any p || p n) := by
  rw [List.range_succ, List.any_append]; simp
theorem any_congr {n : Nat} {p q : Nat → Bool} (h : ∀ v, v < n → p v = q v) : (List.range n).any p = (List.range n).any q := by
  induction n with
  | zero => rfl
  | succ n ih => rw [any_succ, any_succ, ih (fun v hv => h v (by omega)), h n (by omega)]

set_option maxHeartbeats 4000000 in
set_option maxRecDepth 100000 in
/-- Graph.joined(masks, wanted) -/
theorem cG_joined (l : Launch) (D : va_G) (tys : List (ClassId × FieldType)) (A : Nat → Prop) (ws : va_W) (cI : ClassId) (hI : tys[0]? = some (cI, .int)) (ad : Nat → Nat) (kg ka : Nat) (g : Gr) (w : Int32) (fA : Nat → Int32) (hG : GraphAt cI ad ws kg g) (hA0 : ws[ka]? = some (ad ka, .inl (cI, 30, .inl fA))) : x_Mi l yG_joined wG_joined (xR 1) D xCl tys A [.ref (ad kg), .ref (ad ka), .int w] ws (fun r ws1 => (∀ x, x < 32 → bt r x = (List.range g.length).any (fun v => bt w v && bt (fA v) x)) ∧ ws = ws1) := by
  obtain ⟨FF, ⟨hg0, -⟩, -⟩ := id hG
  have hle := hG.ok.1
  refine x_enter (by decide) rfl (Nat.le_of_ble_eq_true rfl) (fun p e s m args below meth c ls hx hb hr hlk hml hown hnm hts hK hP hD hS hA hN hl => ?_)
  have hl : lv_has ls 5 [(0, .ref (ad kg)), (1, .ref (ad ka)), (2, .int w)] := hl
  have loop_5 : ∀ (n : Nat) (i : Nat) (a0 : Int32) (hi : i ≤ g.length) (ws1 : va_W) (H : Heap) (locs : List Loc) (ls : Array Slot), (∀ x, x < 32 → bt a0 x = (List.range i).any (fun v => bt w v && bt (fA v) x)) → ws = ws1 → g.length - i < n → va_P D xCl ws1 H → va_D A ws1 → va_S A s.heap H locs → lv_has ls 5 [(0, .ref (ad kg)), (1, .ref (ad ka)), (2, .int w), (3, .int a0), (4, .int (nI i))] → W p l e (xR 1) s m args below meth c H locs 0 0 (MQ below (va_Qi (fun r ws1 => (∀ x, x < 32 → bt r x = (List.range g.length).any (fun v => bt w v && bt (fA v) x)) ∧ ws = ws1) (x_B D xCl tys A) A) args s 0 0 A) (F0 m 5 ls []) := by
    intro n
    induction n with
    | zero => intro i a0 hi ws1 H locs ls ha0 hws hme; exact absurd hme (Nat.not_lt_zero _)
    | succ n ih =>
      intro i a0 hi ws1 H locs ls ha0 hws hme hP hD hS hl
      subst hws
      refine lv_iload hx hb dG_joined_5 (lv_at hl 4 rfl) ?_
      refine lv_aload_n hx hb dG_joined_7 rfl (lv_at hl 0 rfl) ?_
      refine va_get (D := D) (cl := xCl) (ci := 0) (v := .int (nI g.length)) (C := rnG) (T := tbG) (N := 9) hx hb hts inG hown hK hP kg hg0 rfl 8 (by decide) (hts _ tw_37) (fun _ h9 => h9) rfl dG_joined_8 ?_
      refine lv_icmp_ge (tgt := 43) hx hb dG_joined_11 (by decide) (fun c11 => ?_) (fun c11 => ?_)
      · refine lv_iload_n hx hb dG_joined_43 rfl (lv_at hl 3 rfl) ?_
        exact x_iret hx hb hr hlk hK hP hD hS dG_joined_44 ⟨fun x hx => by rw [ha0 x hx]; have e : i = g.length := (by rw [nI_leI (by omega) (by omega)] at c11; omega); rw [e], rfl⟩
      · have hi2 : i < g.length := by rw [nI_leI (by omega) (by omega)] at c11; omega
        refine lv_iload hx hb dG_joined_14 (lv_at hl 4 rfl) ?_
        refine lv_aload_n hx hb dG_joined_16 rfl (lv_at hl 1 rfl) ?_
        refine va_alen (v := 30) hx hb hK hP ka 0 hA0 hI (by rfl) dG_joined_17 ?_
        refine lv_icmp_ge (tgt := 43) hx hb dG_joined_18 (by decide) (fun c18 => ?_) (fun c18 => ?_)
        · exact absurd ((nI_leI (a := 30) (by omega) (by omega)).mp c18) (by omega)
        · refine lv_iload_n hx hb dG_joined_21 rfl (lv_at hl 2 rfl) ?_
          refine lv_iload hx hb dG_joined_22 (lv_at hl 4 rfl) ?_
          refine x_calli (x_runSN (n := 2) (As := [.int w, .int (nI i)]) (rest := []) ⟨hx, hb, hml, hown, hts⟩ (cQ_isIn l D tys A ws w ((nI i))) (xN_189 hN) tw_190 tw_1 tw_191 (by decide +kernel) rfl rfl ⟨by decide, by decide⟩ ⟨Nat.zero_le _, Nat.zero_le _⟩ hK hP hD hS hA hN rfl hl.1 rfl (lv_room (Nat.le_of_ble_eq_true rfl)) dG_joined_24) hS (fun rhb1 ws_1 H locs hb1 hP hD hS => ?_)
          obtain ⟨hb1, rfl⟩ := hb1
          refine lv_if_eq (tgt := 37) hx hb dG_joined_27 (by decide) (fun c27 => ?_) (fun c27 => ?_)
          · refine lv_iinc (v := (nI (i + 1))) (lv' := [(4, .int (nI (i + 1))), (0, .ref (ad kg)), (1, .ref (ad ka)), (2, .int w), (3, .int a0)]) hx hb dG_joined_37 hl (k := 4) rfl (nI_1 _) (by decide) rfl (fun ls hl => ?_)
            refine lv_goto (tgt := 5) hx hb dG_joined_40 (by decide) ?_
            exact ih (i + 1) a0 (by omega) ws _ _ _ (fun x hx => by rw [hb1, isIn_nI w (by omega), b2i_0] at c27; rw [ha0 x hx, any_succ, c27]; simp) rfl (by omega) hP hD hS (lv_sub hl [1, 2, 3, 4, 0] rfl)
          · refine lv_iload_n hx hb dG_joined_30 rfl (lv_at hl 3 rfl) ?_
            refine lv_aload_n hx hb dG_joined_31 rfl (lv_at hl 1 rfl) ?_
            refine lv_iload hx hb dG_joined_32 (lv_at hl 4 rfl) ?_
            refine va_iald hx hb hK hP ka 0 hA0 hI (vp_in_nI (by omega) (by omega)) dG_joined_34 ?_
            refine lv_topi (fun v_2 ev_2 => ?_)
            refine lv_ior hx hb dG_joined_35 ?_
            refine lv_topi (fun v_3 ev_3 => ?_)
            refine lv_istore_n (lv' := [(3, .int v_3), (0, .ref (ad kg)), (1, .ref (ad ka)), (2, .int w), (4, .int (nI i))]) hx hb dG_joined_36 rfl hl (by decide) rfl (fun ls hl => ?_)
            refine lv_iinc (v := (nI (i + 1))) (lv' := [(4, .int (nI (i + 1))), (3, .int v_3), (0, .ref (ad kg)), (1, .ref (ad ka)), (2, .int w)]) hx hb dG_joined_37 hl (k := 4) rfl (nI_1 _) (by decide) rfl (fun ls hl => ?_)
            refine lv_goto (tgt := 5) hx hb dG_joined_40 (by decide) ?_
            exact ih (i + 1) v_3 (by omega) ws _ _ _ (fun x hx => by rw [hb1, isIn_nI w (by omega), b2i_n0] at c27; rw [ev_3, ev_2, nI_clamp (by omega), b_or, ha0 x hx, any_succ, c27]; simp) rfl (by omega) hP hD hS (lv_sub hl [2, 3, 4, 1, 0] rfl)
  refine lv_iconst (v := 0) hx hb dG_joined_0 (by decide) ?_
  refine lv_istore_n (lv' := [(3, .int 0), (0, .ref (ad kg)), (1, .ref (ad ka)), (2, .int w)]) hx hb dG_joined_1 rfl hl (by decide) rfl (fun ls hl => ?_)
  refine lv_iconst (v := 0) hx hb dG_joined_2 (by decide) ?_
  refine lv_istore (lv' := [(4, .int 0), (3, .int 0), (0, .ref (ad kg)), (1, .ref (ad ka)), (2, .int w)]) hx hb dG_joined_3 hl (by decide) rfl (fun ls hl => ?_)
  exact loop_5 _ 0 0 (Nat.zero_le _) ws _ _ _ (fun x _ => b_0 x) rfl (Nat.lt_succ_self _) hP hD hS (lv_sub hl [2, 3, 4, 1, 0] rfl)

/-- promise 9: how many steps from t to o -/
def farN (g : Gr) (t o : Nat) : Nat → Int32 → Int32
  | 0, r => r
  | n + 1, r => if bsB (gD g) g.length (fun u => decide (u = t)) (29 - n) o = true then nI (29 - n) else farN g t o n r
def farS (g : Gr) (t o : Int32) : Int32 := if (0 ≤ t.toInt ∧ t.toInt < g.length) ∧ (0 ≤ o.toInt ∧ o.toInt < g.length) then farN g t.toInt.toNat o.toInt.toNat 30 (-1) else -1
theorem farS_nI {g : Gr} (hg : g.length ≤ 30) {t o : Nat} (ht : t < g.length) (ho : o < g.length) : farS g (nI t) (nI o) = farN g t o 30 (-1) := by
  unfold farS
  rw [nI_toInt (by omega), nI_toInt (by omega), if_pos ⟨by omega, by omega⟩]; simp

set_option maxHeartbeats 4000000 in
set_option maxRecDepth 100000 in
/-- Graph.stepsBetween(t, other) -/
theorem cG_stepsBetween (l : Launch) (D : va_G) (tys : List (ClassId × FieldType)) (A : Nat → Prop) (ws : va_W) (cI : ClassId) (hI : tys[0]? = some (cI, .int)) (ad : Nat → Nat) (kg : Nat) (g : Gr) (tt oo : Int32) (hG : GraphAt cI ad ws kg g) : x_Mi l yG_stepsBetween wG_stepsBetween (xR 2) D xCl tys A [.ref (ad kg), .int tt, .int oo] ws (fun r ws1 => r = farS g tt oo ∧ ws = ws1) := by
  obtain ⟨FF, ⟨hg0, hg1, hg2, hg3, hg4, hg5, hg6, hg7, hg8⟩, hRR⟩ := id hG
  obtain ⟨hokk, hrr1, hrr2, hrr3, hrr4, hrr5, hrr6, hrr7⟩ := id hRR
  have hle := hG.ok.1
  refine x_enter (by decide) rfl (Nat.le_of_ble_eq_true rfl) (fun p e s m args below meth c ls hx hb hr hlk hml hown hnm hts hK hP hD hS hA hN hl => ?_)
  have hl : lv_has ls 5 [(0, .ref (ad kg)), (1, .int tt), (2, .int oo)] := hl
  have loop_31 : ∀ (n : Nat) (ta ob i : Nat) (w0 : Int32) (hta : ta < g.length) (hob : ob < g.length) (hi : i ≤ 30) (ws1 : va_W) (H : Heap) (locs : List Loc) (ls : Array Slot), (∀ x, x < 32 → bt w0 x = bsB (gD g) g.length (fun u => decide (u = ta)) i x) → farS g tt oo = farN g ta ob (30 - i) (-1) → ws = ws1 → 30 - i < n → va_P D xCl ws1 H → va_D A ws1 → va_S A s.heap H locs → lv_has ls 5 [(0, .ref (ad kg)), (2, .int (nI ob)), (3, .int w0), (4, .int (nI i))] → W p l e (xR 2) s m args below meth c H locs 0 0 (MQ below (va_Qi (fun r ws1 => r = farS g tt oo ∧ ws = ws1) (x_B D xCl tys A) A) args s 0 0 A) (F0 m 31 ls []) := by
    intro n
    induction n with
    | zero => intro ta ob i w0 hta hob hi ws1 H locs ls hw0 hfar hws hme; exact absurd hme (Nat.not_lt_zero _)
    | succ n ih =>
      intro ta ob i w0 hta hob hi ws1 H locs ls hw0 hfar hws hme hP hD hS hl
      subst hws
      refine lv_iload hx hb dG_stepsBetween_31 (lv_at hl 3 rfl) ?_
      refine lv_bipush (v := 30) hx hb dG_stepsBetween_33 (by decide) ?_
      refine lv_icmp_ge (tgt := 67) hx hb dG_stepsBetween_35 (by decide) (fun c35 => ?_) (fun c35 => ?_)
      · refine lv_iconst (v := (-1)) hx hb dG_stepsBetween_67 (by decide) ?_
        exact x_iret hx hb hr hlk hK hP hD hS dG_stepsBetween_68 ⟨by rw [hfar]; have e : 30 - i = 0 := (by have c35 : nI 30 ≤ nI i := c35; rw [nI_leI (by omega) (by omega)] at c35; omega); rw [e]; rfl, rfl⟩
      · have hi2 : i < 30 := by have c35 : ¬ nI 30 ≤ nI i := c35; rw [nI_leI (by omega) (by omega)] at c35; omega
        refine lv_iload_n hx hb dG_stepsBetween_38 rfl (lv_at hl 2 rfl) ?_
        refine lv_iload_n hx hb dG_stepsBetween_39 rfl (lv_at hl 1 rfl) ?_
        refine x_calli (x_runSN (n := 2) (As := [.int w0, .int (nI ob)]) (rest := []) ⟨hx, hb, hml, hown, hts⟩ (cQ_isIn l D tys A ws w0 ((nI ob))) (xN_189 hN) tw_190 tw_1 tw_191 (by decide +kernel) rfl rfl ⟨by decide, by decide⟩ ⟨Nat.zero_le _, Nat.zero_le _⟩ hK hP hD hS hA hN rfl hl.1 rfl (lv_room (Nat.le_of_ble_eq_true rfl)) dG_stepsBetween_40) hS (fun rhb3 ws_1 H locs hb3 hP hD hS => ?_)
        obtain ⟨hb3, rfl⟩ := hb3
        refine lv_if_eq (tgt := 49) hx hb dG_stepsBetween_43 (by decide) (fun c43 => ?_) (fun c43 => ?_)
        · refine lv_iload_n hx hb dG_stepsBetween_49 rfl (lv_at hl 2 rfl) ?_
          refine lv_aload_n hx hb dG_stepsBetween_50 rfl (lv_at hl 0 rfl) ?_
          refine lv_aload_n hx hb dG_stepsBetween_51 rfl (lv_at hl 0 rfl) ?_
          refine va_get (D := D) (cl := xCl) (ci := 0) (v := .ref (ad (kg + 6))) (C := rnG) (T := tbG) (N := 9) hx hb hts inG hown hK hP kg hg0 rfl 5 (by decide) (hts _ tw_34) (fun _ h9 => h9) rfl dG_stepsBetween_52 ?_
          refine lv_iload_n hx hb dG_stepsBetween_55 rfl (lv_at hl 2 rfl) ?_
          refine x_calli (x_runV (n := 2) (As := [.ref (ad (kg + 6)), .int w0]) (rest := [.int w0]) ⟨hx, hb, hml, hown, hts⟩ (cG_joined l D tys A ws cI hI ad kg (kg + 6) g w0 (FF 6) hG hg6) tw_543 tw_545 ts_G_joined tw_2 tw_546 (by decide +kernel) rfl rfl ⟨by decide, by decide⟩ ⟨Nat.zero_le _, Nat.zero_le _⟩ (va_recv hK hP (ci := 0) (q0 := kg) rfl hg0) hK hP hD hS hA hN rfl hl.1 rfl (lv_room (Nat.le_of_ble_eq_true rfl)) dG_stepsBetween_56) hS (fun rjo ws_2 H locs hjo hP hD hS => ?_)
          obtain ⟨hjo, rfl⟩ := hjo
          refine lv_ior hx hb dG_stepsBetween_59 ?_
          refine lv_topi (fun v_3 ev_3 => ?_)
          refine lv_istore_n (lv' := [(3, .int v_3), (0, .ref (ad kg)), (2, .int (nI ob)), (4, .int (nI i))]) hx hb dG_stepsBetween_60 rfl hl (by decide) rfl (fun ls hl => ?_)
          refine lv_iinc (v := (nI (i + 1))) (lv' := [(4, .int (nI (i + 1))), (3, .int v_3), (0, .ref (ad kg)), (2, .int (nI ob))]) hx hb dG_stepsBetween_61 hl (k := 3) rfl (nI_1 _) (by decide) rfl (fun ls hl => ?_)
          refine lv_goto (tgt := 31) hx hb dG_stepsBetween_64 (by decide) ?_
          exact ih ta ob (i + 1) v_3 hta hob (by omega) ws _ _ _ (fun x hx => by rw [ev_3, b_or, hjo x hx, hw0 x hx]; show _ = (bsB _ _ _ i x || _); congr 1; exact any_congr (fun v hv => by rw [hw0 v (by omega), hrr6 v (by omega) x hx])) (by rw [hfar, show 30 - i = (30 - (i + 1)) + 1 by omega]; show (if bsB _ _ _ (29 - (30 - (i + 1))) ob = true then _ else _) = _; rw [show 29 - (30 - (i + 1)) = i by omega]; rw [hb3, isIn_nI w0 (by omega), b2i_0, hw0 ob (by omega)] at c43; rw [if_neg (by rw [c43]; decide)]) rfl (by omega) hP hD hS (lv_sub hl [2, 3, 1, 0] rfl)
        · refine lv_iload hx hb dG_stepsBetween_46 (lv_at hl 3 rfl) ?_
          exact x_iret hx hb hr hlk hK hP hD hS dG_stepsBetween_48 ⟨by rw [hfar, show 30 - i = (29 - i) + 1 by omega]; show _ = if bsB _ _ _ (29 - (29 - i)) ob = true then _ else _; rw [show 29 - (29 - i) = i by omega]; rw [hb3, isIn_nI w0 (by omega), b2i_n0, hw0 ob (by omega)] at c43; rw [if_pos c43], rfl⟩
  refine lv_iload_n hx hb dG_stepsBetween_0 rfl (lv_at hl 1 rfl) ?_
  refine lv_aload_n hx hb dG_stepsBetween_1 rfl (lv_at hl 0 rfl) ?_
  refine va_get (D := D) (cl := xCl) (ci := 0) (v := .int (nI g.length)) (C := rnG) (T := tbG) (N := 9) hx hb hts inG hown hK hP kg hg0 rfl 8 (by decide) (hts _ tw_37) (fun _ h9 => h9) rfl dG_stepsBetween_2 ?_
  refine x_calli (x_runS (n := 2) (As := [.int tt, .int (nI g.length)]) (rest := []) ⟨hx, hb, hml, hown, hts⟩ (cG_below l D tys A ws tt ((nI g.length))) tw_178 tw_179 tw_2 tw_180 (by decide +kernel) rfl rfl ⟨by decide, by decide⟩ ⟨Nat.zero_le _, Nat.zero_le _⟩ hK hP hD hS hA hN rfl hl.1 rfl (lv_room (Nat.le_of_ble_eq_true rfl)) dG_stepsBetween_5) hS (fun rhb1 ws_4 H locs hb1 hP hD hS => ?_)
  obtain ⟨hb1, rfl⟩ := hb1
  refine lv_if_eq (tgt := 22) hx hb dG_stepsBetween_8 (by decide) (fun c8 => ?_) (fun c8 => ?_)
  · refine lv_iconst (v := (-1)) hx hb dG_stepsBetween_22 (by decide) ?_
    exact x_iret hx hb hr hlk hK hP hD hS dG_stepsBetween_23 ⟨(if_neg (fun hc => blw_no (by omega) hb1 c8 hc.1)).symm, rfl⟩
  · obtain ⟨ta, hta, rfl⟩ := blw_of (by omega) hb1 c8
    refine lv_iload_n hx hb dG_stepsBetween_11 rfl (lv_at hl 2 rfl) ?_
    refine lv_aload_n hx hb dG_stepsBetween_12 rfl (lv_at hl 0 rfl) ?_
    refine va_get (D := D) (cl := xCl) (ci := 0) (v := .int (nI g.length)) (C := rnG) (T := tbG) (N := 9) hx hb hts inG hown hK hP kg hg0 rfl 8 (by decide) (hts _ tw_37) (fun _ h9 => h9) rfl dG_stepsBetween_13 ?_
    refine x_calli (x_runS (n := 2) (As := [.int oo, .int (nI g.length)]) (rest := []) ⟨hx, hb, hml, hown, hts⟩ (cG_below l D tys A ws oo ((nI g.length))) tw_178 tw_179 tw_2 tw_180 (by decide +kernel) rfl rfl ⟨by decide, by decide⟩ ⟨Nat.zero_le _, Nat.zero_le _⟩ hK hP hD hS hA hN rfl hl.1 rfl (lv_room (Nat.le_of_ble_eq_true rfl)) dG_stepsBetween_16) hS (fun rhb2 ws_5 H locs hb2 hP hD hS => ?_)
    obtain ⟨hb2, rfl⟩ := hb2
    refine lv_if_ne (tgt := 24) hx hb dG_stepsBetween_19 (by decide) (fun c19 => ?_) (fun c19 => ?_)
    · obtain ⟨ob, hob, rfl⟩ := blw_of (by omega) hb2 c19
      refine lv_iconst (v := 1) hx hb dG_stepsBetween_24 (by decide) ?_
      refine lv_iload_n hx hb dG_stepsBetween_25 rfl (lv_at hl 1 rfl) ?_
      refine lv_ishl hx hb dG_stepsBetween_26 ?_
      refine lv_topi (fun v_6 ev_6 => ?_)
      refine lv_istore_n (lv' := [(3, .int v_6), (0, .ref (ad kg)), (1, .int (nI ta)), (2, .int (nI ob))]) hx hb dG_stepsBetween_27 rfl hl (by decide) rfl (fun ls hl => ?_)
      refine lv_iconst (v := 0) hx hb dG_stepsBetween_28 (by decide) ?_
      refine lv_istore (lv' := [(4, .int 0), (3, .int v_6), (0, .ref (ad kg)), (1, .int (nI ta)), (2, .int (nI ob))]) hx hb dG_stepsBetween_29 hl (by decide) rfl (fun ls hl => ?_)
      exact loop_31 _ ta ob 0 v_6 hta hob (Nat.zero_le _) ws _ _ _ (fun x hx => by rw [ev_6, b_sh1 (by omega) hx]; rfl) (farS_nI hle hta hob) rfl (Nat.lt_succ_self _) hP hD hS (lv_sub hl [2, 4, 1, 0] rfl)
    · refine lv_iconst (v := (-1)) hx hb dG_stepsBetween_22 (by decide) ?_
      exact x_iret hx hb hr hlk hK hP hD hS dG_stepsBetween_23 ⟨(if_neg (fun hc => blw_no (by omega) hb2 c19 hc.2)).symm, rfl⟩

theorem gU_mem {g : Gr} (hg : GrOK g) {u v : Nat} : u ∈ gU g v ↔ v ∈ gD g u := by
  unfold gU
  rw [List.mem_filter, List.mem_range, decide_eq_true_eq]
  constructor
  · exact fun h => h.2
  · intro h
    refine ⟨?_, h⟩
    rcases Nat.lt_or_ge u g.length with q | q
    · have := hg.1; omega
    · rw [gD_out q] at h; cases h
/-- the tests: those of kind 3 that need, in the end, one of the list, or are one -/
def testS (g : Gr) (L : List Nat) : List Nat := (List.range 30).filter (fun t => bsB (gU g) g.length (fun u => decide (u ∈ L)) 30 t && decide (t < g.length ∧ nI (gK g t) = 3))
theorem addL_flt (n : Nat) (p : Nat → Bool) : addL [] ((List.range n).filter p) = (List.range n).filter p := addL_nil (List.Pairwise.sublist List.filter_sublist List.nodup_range)

set_option maxHeartbeats 4000000 in
set_option maxRecDepth 100000 in
/-- Graph.findTests(list) -/
theorem cG_findTests (l : Launch) (D : va_G) (tys : List (ClassId × FieldType)) (A : Nat → Prop) (ws : va_W) (cI : ClassId) (hI : tys[0]? = some (cI, .int)) (ad : Nat → Nat) (kg k : Nat) (hd : kg + 9 ≤ k) (g : Gr) (L : List Nat) (hG : GraphAt cI ad ws kg g) (h : RowAt cI ad ws k L) : x_Mv l yG_findTests wG_findTests (xR 3) D xCl tys A [.ref (ad kg), .ref (ad k)] ws (fun ws1 => x_two k ws ws1 ∧ RowAt cI ad ws1 k (testS g L)) := by
  obtain ⟨FF, ⟨hg0, hg1, hg2, hg3, hg4, hg5, hg6, hg7, hg8⟩, hRR⟩ := id hG
  obtain ⟨hokk, hrr1, hrr2, hrr3, hrr4, hrr5, hrr6, hrr7⟩ := id hRR
  have hle := hG.ok.1
  obtain ⟨fsR, hRo⟩ := h.obj
  obtain ⟨f1, hR1⟩ := id h
  refine x_enter (by decide) rfl (Nat.le_of_ble_eq_true rfl) (fun p e s m args below meth c ls hx hb hr hlk hml hown hnm hts hK hP hD hS hA hN hl => ?_)
  have hl : lv_has ls 4 [(0, .ref (ad kg)), (1, .ref (ad k))] := hl
  have loop_7 : ∀ (n : Nat) (i : Nat) (w0 : Int32) (hi : i ≤ 30) (ws1 : va_W) (H : Heap) (locs : List Loc) (ls : Array Slot), (∀ x, x < 32 → bt w0 x = bsB (gU g) g.length (fun u => decide (u ∈ L)) i x) → ws = ws1 → 30 - i < n → va_P D xCl ws1 H → va_D A ws1 → va_S A s.heap H locs → lv_has ls 4 [(0, .ref (ad kg)), (1, .ref (ad k)), (2, .int w0), (3, .int (nI i))] → W p l e (xR 3) s m args below meth c H locs 0 0 (MQ below (va_Qv (fun ws1 => x_two k ws ws1 ∧ RowAt cI ad ws1 k (testS g L)) (x_B D xCl tys A) A) args s 0 0 A) (F0 m 7 ls []) := by
    intro n
    induction n with
    | zero => intro i w0 hi ws1 H locs ls hw0 hws hme; exact absurd hme (Nat.not_lt_zero _)
    | succ n ih =>
      intro i w0 hi ws1 H locs ls hw0 hws hme hP hD hS hl
      subst hws
      refine lv_iload_n hx hb dG_findTests_7 rfl (lv_at hl 3 rfl) ?_
      refine lv_bipush (v := 30) hx hb dG_findTests_8 (by decide) ?_
      refine lv_icmp_ge (tgt := 31) hx hb dG_findTests_10 (by decide) (fun c10 => ?_) (fun c10 => ?_)
      · refine lv_aload_n hx hb dG_findTests_31 rfl (lv_at hl 1 rfl) ?_
        refine x_callv (x_runV (n := 0) (As := []) (rest := []) ⟨hx, hb, hml, hown, hts⟩ (cR_clear l D tys A ws cI hI ad k L f1 hR1) tw_489 tw_435 tw_436 tw_7 tw_437 (by decide +kernel) rfl rfl ⟨by decide, by decide⟩ ⟨Nat.zero_le _, Nat.zero_le _⟩ (va_recv hK hP (ci := 2) (q0 := k) rfl hRo) hK hP hD hS hA hN rfl hl.1 rfl (lv_room (Nat.le_of_ble_eq_true rfl)) dG_findTests_32) hS (fun ws_1 H locs hcl hP hD hS => ?_)
        have hG3 := hG.keep hcl.1.fr (by omega)
        obtain ⟨FG, ⟨hgg0, -⟩, -⟩ := id hG3
        obtain ⟨fsR3, hRo3⟩ := RowAt.obj ⟨_, hcl.2⟩
        refine lv_aload_n hx hb dG_findTests_35 rfl (lv_at hl 1 rfl) ?_
        refine lv_iload_n hx hb dG_findTests_36 rfl (lv_at hl 2 rfl) ?_
        refine lv_aload_n hx hb dG_findTests_37 rfl (lv_at hl 0 rfl) ?_
        refine lv_iconst (v := 3) hx hb dG_findTests_38 (by decide) ?_
        refine x_calli (x_runV (n := 1) (As := [.int 3]) (rest := [.int w0, .ref (ad k)]) ⟨hx, hb, hml, hown, hts⟩ (cG_ofKind l D tys A ws_1 cI hI ad kg g 3 hG3) tw_533 tw_535 ts_G_ofKind tw_2 tw_536 (by decide +kernel) rfl rfl ⟨by decide, by decide⟩ ⟨Nat.zero_le _, Nat.zero_le _⟩ (va_recv hK hP (ci := 0) (q0 := kg) rfl hgg0) hK hP hD hS hA hN rfl hl.1 rfl (lv_room (Nat.le_of_ble_eq_true rfl)) dG_findTests_39) hS (fun rok ws_2 H locs hok hP hD hS => ?_)
        obtain ⟨hok, rfl⟩ := hok
        refine lv_iand hx hb dG_findTests_42 ?_
        refine lv_topi (fun v_3 ev_3 => ?_)
        refine x_callv (x_runV (n := 1) (As := [.int v_3]) (rest := []) ⟨hx, hb, hml, hown, hts⟩ (cR_addByNumbers l D tys A ws_1 cI hI ad k [] v_3 ⟨_, hcl.2⟩) tw_525 tw_526 tw_527 tw_7 tw_528 (by decide +kernel) rfl rfl ⟨by decide, by decide⟩ ⟨Nat.zero_le _, Nat.zero_le _⟩ (va_recv hK hP (ci := 2) (q0 := k) rfl hRo3) hK hP hD hS hA hN rfl hl.1 rfl (lv_room (Nat.le_of_ble_eq_true rfl)) dG_findTests_43) hS (fun ws_4 H locs hab hP hD hS => ?_)
        exact x_vret hx hb hr hlk hK hP hD hS dG_findTests_46 ⟨hcl.1.tr hab.1, by have q := hab.2; rw [addM_eq] at q; rw [show testS g L = addL [] ((List.range 30).filter (fun t => bt v_3 t)) from ?_]; exact q; unfold testS; rw [addL_flt]; apply List.filter_congr; intro t ht; have ht := List.mem_range.mp ht; rw [ev_3, b_and, hok t (by omega), hw0 t (by omega), show i = 30 from (by have c10 : nI 30 ≤ nI i := c10; rw [nI_leI (by omega) (by omega)] at c10; omega)]⟩
      · have hi2 : i < 30 := by have c10 : ¬ nI 30 ≤ nI i := c10; rw [nI_leI (by omega) (by omega)] at c10; omega
        refine lv_iload_n hx hb dG_findTests_13 rfl (lv_at hl 2 rfl) ?_
        refine lv_aload_n hx hb dG_findTests_14 rfl (lv_at hl 0 rfl) ?_
        refine lv_aload_n hx hb dG_findTests_15 rfl (lv_at hl 0 rfl) ?_
        refine va_get (D := D) (cl := xCl) (ci := 0) (v := .ref (ad (kg + 7))) (C := rnG) (T := tbG) (N := 9) hx hb hts inG hown hK hP kg hg0 rfl 6 (by decide) (hts _ tw_35) (fun _ h9 => h9) rfl dG_findTests_16 ?_
        refine lv_iload_n hx hb dG_findTests_19 rfl (lv_at hl 2 rfl) ?_
        refine x_calli (x_runV (n := 2) (As := [.ref (ad (kg + 7)), .int w0]) (rest := [.int w0]) ⟨hx, hb, hml, hown, hts⟩ (cG_joined l D tys A ws cI hI ad kg (kg + 7) g w0 (FF 7) hG hg7) tw_543 tw_545 ts_G_joined tw_2 tw_546 (by decide +kernel) rfl rfl ⟨by decide, by decide⟩ ⟨Nat.zero_le _, Nat.zero_le _⟩ (va_recv hK hP (ci := 0) (q0 := kg) rfl hg0) hK hP hD hS hA hN rfl hl.1 rfl (lv_room (Nat.le_of_ble_eq_true rfl)) dG_findTests_20) hS (fun rjo ws_5 H locs hjo hP hD hS => ?_)
        obtain ⟨hjo, rfl⟩ := hjo
        refine lv_ior hx hb dG_findTests_23 ?_
        refine lv_topi (fun v_6 ev_6 => ?_)
        refine lv_istore_n (lv' := [(2, .int v_6), (0, .ref (ad kg)), (1, .ref (ad k)), (3, .int (nI i))]) hx hb dG_findTests_24 rfl hl (by decide) rfl (fun ls hl => ?_)
        refine lv_iinc (v := (nI (i + 1))) (lv' := [(3, .int (nI (i + 1))), (2, .int v_6), (0, .ref (ad kg)), (1, .ref (ad k))]) hx hb dG_findTests_25 hl (k := 3) rfl (nI_1 _) (by decide) rfl (fun ls hl => ?_)
        refine lv_goto (tgt := 7) hx hb dG_findTests_28 (by decide) ?_
        exact ih (i + 1) v_6 (by omega) ws _ _ _ (fun x hx => by rw [ev_6, b_or, hjo x hx, hw0 x hx]; show _ = (bsB _ _ _ i x || _); congr 1; exact any_congr (fun v hv => by rw [hw0 v (by omega), hrr7 v (by omega) x hx]; congr 1; exact decide_eq_decide.mpr (gU_mem hokk).symm)) rfl (by omega) hP hD hS (lv_sub hl [2, 3, 1, 0] rfl)
  refine lv_aload_n hx hb dG_findTests_0 rfl (lv_at hl 1 rfl) ?_
  refine x_calli (x_runV (n := 0) (As := []) (rest := []) ⟨hx, hb, hml, hown, hts⟩ (cR_mask l D tys A ws cI hI ad k L h) tw_542 tw_466 tw_467 tw_7 tw_468 (by decide +kernel) rfl rfl ⟨by decide, by decide⟩ ⟨Nat.zero_le _, Nat.zero_le _⟩ (va_recv hK hP (ci := 2) (q0 := k) rfl hRo) hK hP hD hS hA hN rfl hl.1 rfl (lv_room (Nat.le_of_ble_eq_true rfl)) dG_findTests_1) hS (fun rmk ws_7 H locs hmk hP hD hS => ?_)
  obtain ⟨hmk, rfl⟩ := hmk
  refine lv_istore_n (lv' := [(2, .int rmk), (0, .ref (ad kg)), (1, .ref (ad k))]) hx hb dG_findTests_4 rfl hl (by decide) rfl (fun ls hl => ?_)
  refine lv_iconst (v := 0) hx hb dG_findTests_5 (by decide) ?_
  refine lv_istore_n (lv' := [(3, .int 0), (2, .int rmk), (0, .ref (ad kg)), (1, .ref (ad k))]) hx hb dG_findTests_6 rfl hl (by decide) rfl (fun ls hl => ?_)
  exact loop_7 _ 0 rmk (Nat.zero_le _) ws _ _ _ (fun x hx => hmk x hx) rfl (Nat.lt_succ_self _) hP hD hS (lv_sub hl [2, 3, 1, 0] rfl)
