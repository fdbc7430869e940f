theorem nodup_take {L : List Nat} (h : L.Nodup) {i : Nat} (hi : i < L.length) : L[i] ∉ L.take i := by
  intro hm
  have e : L = L.take i ++ (L[i] :: L.drop (i + 1)) := by rw [← List.drop_eq_getElem_cons hi, List.take_append_drop]
  rw [e] at h
  have := (List.nodup_append.mp h).2.2 L[i] hm L[i] List.mem_cons_self
  exact this rfl
def fm (w : Int32) (L : List Nat) : List Nat := L.filter (fun t => bt w t)
theorem fm_f {w : Int32} {L : List Nat} {i : Nat} (hi : i < L.length) (h : bt w L[i] = false) : fm w (L.take (i + 1)) = fm w (L.take i) := by
  unfold fm
  rw [List.take_succ_eq_append_getElem hi, List.filter_append, List.filter_cons, h]; simp
theorem fm_t {w : Int32} {L : List Nat} {i : Nat} (hi : i < L.length) (hn : L.Nodup) (h : bt w L[i] = true) (h30 : L[i] < 30) : fm w (L.take (i + 1)) = addI (fm w (L.take i)) (nI L[i]) := by
  rw [addI_nI _ h30, if_neg (show L[i] ∉ fm w (L.take i) from fun hm => nodup_take hn hi (List.mem_filter.mp hm).1)]
  unfold fm
  rw [List.take_succ_eq_append_getElem hi, List.filter_append, List.filter_cons, h]; simp
theorem fm_len (w : Int32) (L : List Nat) (i : Nat) : (fm w (L.take i)).length ≤ i := by
  unfold fm
  exact Nat.le_trans (List.length_filter_le _ _) (by rw [List.length_take]; omega)

set_option maxHeartbeats 4000000 in
set_option maxRecDepth 100000 in
/-- Row.keep(mask) -/
theorem cR_keep (l : Launch) (D : va_G) (tys : List (ClassId × FieldType)) (A : Nat → Prop) (ws : va_W) (cI : ClassId) (hI : tys[0]? = some (cI, .int)) (ad : Nat → Nat) (k : Nat) (L : List Nat) (w : Int32) (h : RowAt cI ad ws k L) : x_Mv l yR_keep wR_keep (xR 2) D xCl tys A [.ref (ad k), .int w] ws (fun ws1 => x_two k ws ws1 ∧ RowAt cI ad ws1 k (fm w L)) := by
  have hle := h.le
  obtain ⟨f, hR⟩ := h
  obtain ⟨mk, h0, h1, hf, hm, hn, hlt⟩ := id hR
  refine x_enter (by decide) rfl (Nat.le_of_ble_eq_true rfl) (fun p e s m args below meth c ls hx hb hr hlk hml hown hnm hts hK hP hD hS hA hN hl => ?_)
  have hl : lv_has ls 4 [(0, .ref (ad k)), (1, .int w)] := hl
  have loop_11 : ∀ (n : Nat) (i : Nat) (hi : i ≤ L.length) (gg : Nat → Int32) (ws1 : va_W) (H : Heap) (locs : List Loc) (ls : Array Slot), x_two k ws ws1 → RowF cI ad ws1 k (fm w (L.take i)) gg → (∀ (x : Nat), i ≤ x → ∀ (h : x < L.length), gg x = nI L[x]) → L.length - i < n → va_P D xCl ws1 H → va_D A ws1 → va_S A s.heap H locs → lv_has ls 4 [(0, .ref (ad k)), (1, .int w), (2, .int (nI L.length)), (3, .int (nI i))] → W p l e (xR 2) s m args below meth c H locs 0 0 (MQ below (va_Qv (fun ws1 => x_two k ws ws1 ∧ RowAt cI ad ws1 k (fm w L)) (x_B D xCl tys A) A) args s 0 0 A) (F0 m 11 ls []) := by
    intro n
    induction n with
    | zero => intro i hi gg ws1 H locs ls hT hR hg hme; exact absurd hme (Nat.not_lt_zero _)
    | succ n ih =>
      intro i hi gg ws1 H locs ls hT hR hg hme hP hD hS hl
      refine lv_iload_n hx hb dR_keep_11 rfl (lv_at hl 3 rfl) ?_
      refine lv_iload_n hx hb dR_keep_12 rfl (lv_at hl 2 rfl) ?_
      refine lv_icmp_ge (tgt := 54) hx hb dR_keep_13 (by decide) (fun c13 => ?_) (fun c13 => ?_)
      · exact x_vret hx hb hr hlk hK hP hD hS dR_keep_54 ⟨hT, by have e : i = L.length := (by rw [nI_leI (by omega) (by omega)] at c13; omega); rw [e, List.take_length] at hR; exact ⟨_, hR⟩⟩
      · have hi2 : i < L.length := by rw [nI_leI (by omega) (by omega)] at c13; omega
        have h30 : L[i] < 30 := hlt _ (List.getElem_mem hi2)
        obtain ⟨mk1, hq0, hq1, hq2⟩ := id hR
        refine lv_iload_n hx hb dR_keep_16 rfl (lv_at hl 3 rfl) ?_
        refine lv_aload_n hx hb dR_keep_17 rfl (lv_at hl 0 rfl) ?_
        refine va_get (D := D) (cl := xCl) (ci := 2) (v := .ref (ad (k + 1))) (C := rnR) (T := tbR) (N := 3) hx hb hts inR hown hK hP k hq0 rfl 0 (by decide) (hts _ tw_126) (fun _ h9 => h9) rfl dR_keep_18 ?_
        refine va_alen (v := 30) hx hb hK hP (k + 1) 0 hq1 hI (by rfl) dR_keep_21 ?_
        refine lv_icmp_ge (tgt := 54) hx hb dR_keep_22 (by decide) (fun c22 => ?_) (fun c22 => ?_)
        · exact absurd ((nI_leI (a := 30) (by omega) (by omega)).mp c22) (by omega)
        · refine lv_iload_n hx hb dR_keep_25 rfl (lv_at hl 1 rfl) ?_
          refine lv_aload_n hx hb dR_keep_26 rfl (lv_at hl 0 rfl) ?_
          refine va_get (D := D) (cl := xCl) (ci := 2) (v := .ref (ad (k + 1))) (C := rnR) (T := tbR) (N := 3) hx hb hts inR hown hK hP k hq0 rfl 0 (by decide) (hts _ tw_126) (fun _ h9 => h9) rfl dR_keep_27 ?_
          refine lv_iload_n hx hb dR_keep_30 rfl (lv_at hl 3 rfl) ?_
          refine va_iald hx hb hK hP (k + 1) 0 hq1 hI (vp_in_nI (by omega) (by omega)) dR_keep_31 ?_
          refine lv_topi (fun v_1 ev_1 => ?_)
          have hv_1 : v_1 = nI L[i] := by rw [ev_1, nI_clamp (by omega)]; exact hg i (Nat.le_refl i) hi2
          refine x_calli (x_runSN (n := 2) (As := [.int w, .int v_1]) (rest := []) ⟨hx, hb, hml, hown, hts⟩ (cQ_isIn l D tys A ws1 w v_1) (xN_454 hN) tw_190 tw_1 tw_191 (by decide +kernel) rfl rfl ⟨by decide, by decide⟩ ⟨Nat.zero_le _, Nat.zero_le _⟩ hK hP hD hS hA hN rfl hl.1 rfl (lv_room (Nat.le_of_ble_eq_true rfl)) dR_keep_32) hS (fun rb ws_2 H locs hb1 hP hD hS => ?_)
          obtain ⟨hb1, rfl⟩ := hb1
          refine lv_if_eq (tgt := 48) hx hb dR_keep_35 (by decide) (fun c35 => ?_) (fun c35 => ?_)
          · refine lv_iinc (v := (nI (i + 1))) (lv' := [(3, .int (nI (i + 1))), (0, .ref (ad k)), (1, .int w), (2, .int (nI L.length))]) hx hb dR_keep_48 hl (k := 3) rfl (nI_1 _) (by decide) rfl (fun ls hl => ?_)
            refine lv_goto (tgt := 11) hx hb dR_keep_51 (by decide) ?_
            exact ih (i + 1) (by omega) gg ws1 _ _ _ hT (by rw [hb1, hv_1, isIn_nI w h30, b2i_0] at c35; rw [fm_f hi2 c35]; exact hR) (fun x hx hx2 => hg x (by omega) hx2) (by omega) hP hD hS (lv_sub hl [1, 2, 3, 0] rfl)
          · refine lv_aload_n hx hb dR_keep_38 rfl (lv_at hl 0 rfl) ?_
            refine lv_aload_n hx hb dR_keep_39 rfl (lv_at hl 0 rfl) ?_
            refine va_get (D := D) (cl := xCl) (ci := 2) (v := .ref (ad (k + 1))) (C := rnR) (T := tbR) (N := 3) hx hb hts inR hown hK hP k hq0 rfl 0 (by decide) (hts _ tw_126) (fun _ h9 => h9) rfl dR_keep_40 ?_
            refine lv_iload_n hx hb dR_keep_43 rfl (lv_at hl 3 rfl) ?_
            refine va_iald hx hb hK hP (k + 1) 0 hq1 hI (vp_in_nI (by omega) (by omega)) dR_keep_44 ?_
            refine lv_topi (fun v_3 ev_3 => ?_)
            have hv_3 : v_3 = nI L[i] := by rw [ev_3, nI_clamp (by omega)]; exact hg i (Nat.le_refl i) hi2
            refine x_callv (x_runV (n := 1) (As := [.int v_3]) (rest := []) ⟨hx, hb, hml, hown, hts⟩ (cR_add l D tys A ws1 cI hI ad k _ v_3 gg hR) tw_450 tw_451 tw_452 tw_7 tw_453 (by decide +kernel) rfl rfl ⟨by decide, by decide⟩ ⟨Nat.zero_le _, Nat.zero_le _⟩ (va_recv hK hP (ci := 2) (q0 := k) rfl hq0) hK hP hD hS hA hN rfl hl.1 rfl (lv_room (Nat.le_of_ble_eq_true rfl)) dR_keep_45) hS (fun ws_4 H locs hadd hP hD hS => ?_)
            obtain ⟨ht2, f9, hr2, hf9⟩ := hadd
            refine lv_iinc (v := (nI (i + 1))) (lv' := [(3, .int (nI (i + 1))), (0, .ref (ad k)), (1, .int w), (2, .int (nI L.length))]) hx hb dR_keep_48 hl (k := 3) rfl (nI_1 _) (by decide) rfl (fun ls hl => ?_)
            refine lv_goto (tgt := 11) hx hb dR_keep_51 (by decide) ?_
            exact ih (i + 1) (by omega) f9 ws_4 _ _ _ (hT.tr ht2) (by rw [hb1, hv_1, isIn_nI w h30, b2i_n0] at c35; rw [fm_t hi2 hn c35 h30, ← hv_3]; exact hr2) (fun x hx hx2 => by have := fm_len w L i; rw [hf9 x (by omega)]; exact hg x (by omega) hx2) (by omega) hP hD hS (lv_sub hl [1, 2, 3, 0] rfl)
  refine lv_aload_n hx hb dR_keep_0 rfl (lv_at hl 0 rfl) ?_
  refine va_get (D := D) (cl := xCl) (ci := 2) (v := .int (nI L.length)) (C := rnR) (T := tbR) (N := 3) hx hb hts inR hown hK hP k h0 rfl 1 (by decide) (hts _ tw_127) (fun _ h9 => h9) rfl dR_keep_1 ?_
  refine lv_istore_n (lv' := [(2, .int (nI L.length)), (0, .ref (ad k)), (1, .int w)]) hx hb dR_keep_4 rfl hl (by decide) rfl (fun ls hl => ?_)
  refine lv_aload_n hx hb dR_keep_5 rfl (lv_at hl 1 rfl) ?_
  refine x_callv (x_runV (n := 0) (As := []) (rest := []) ⟨hx, hb, hml, hown, hts⟩ (cR_clear l D tys A ws cI hI ad k L f hR) tw_434 tw_435 tw_436 tw_7 tw_437 (by decide +kernel) rfl rfl ⟨by decide, by decide⟩ ⟨Nat.zero_le _, Nat.zero_le _⟩ (va_recv hK hP (ci := 2) (q0 := k) rfl h0) hK hP hD hS hA hN rfl hl.1 rfl (lv_room (Nat.le_of_ble_eq_true rfl)) dR_keep_6) hS (fun ws_5 H locs hcl hP hD hS => ?_)
  obtain ⟨ht1, hr1⟩ := hcl
  refine lv_iconst (v := 0) hx hb dR_keep_9 (by decide) ?_
  refine lv_istore_n (lv' := [(3, .int 0), (2, .int (nI L.length)), (0, .ref (ad k)), (1, .int w)]) hx hb dR_keep_10 rfl hl (by decide) rfl (fun ls hl => ?_)
  exact loop_11 _ 0 (Nat.zero_le _) f ws_5 _ _ _ ht1 (by rw [List.take_zero]; exact hr1) (fun x _ hx => hf x hx) (Nat.lt_succ_self _) hP hD hS (lv_sub hl [2, 3, 1, 0] rfl)

theorem nodup_rev {L : List Nat} (h : L.Nodup) : L.reverse.Nodup := by
  unfold List.Nodup at *
  rw [List.pairwise_reverse]
  exact h.imp (fun h => Ne.symm h)
/-- an array half turned round: i places at each end -/
def revH (L : List Nat) (i : Nat) (g : Nat → Int32) : Prop := ∀ (x : Nat) (h : x < L.length), g x = if x < i ∨ L.length ≤ x + i then nI (L[L.length - 1 - x]) else nI L[x]
theorem revH_0 {L : List Nat} {f : Nat → Int32} (h : ∀ (i : Nat) (h : i < L.length), f i = nI L[i]) : revH L 0 f := by
  intro x hx
  rw [if_neg (by omega)]
  exact h x hx
theorem revH_s {L : List Nat} {i : Nat} {g : Nat → Int32} (h : revH L i g) (hi : 2 * i + 1 < L.length) {a b : Int32} (ea : a = g i) (eb : b = g (L.length - 1 - i)) : revH L (i + 1) (upd (upd g i b) (L.length - 1 - i) a) := by
  intro x hx
  unfold upd
  by_cases e1 : x = L.length - 1 - i
  · rw [if_pos e1, ea, h i (by omega), if_neg (by omega), if_pos (by omega)]
    congr 1
    congr 1
    omega
  · rw [if_neg e1]
    by_cases e2 : x = i
    · rw [if_pos e2, eb, h (L.length - 1 - i) (by omega), if_neg (by omega), if_pos (by omega)]
      subst e2
      rfl
    · rw [if_neg e2, h x hx]
      by_cases e3 : x < i ∨ L.length ≤ x + i
      · rw [if_pos e3, if_pos (by omega)]
      · rw [if_neg e3, if_neg (by omega)]
theorem revH_e {L : List Nat} {i : Nat} {g : Nat → Int32} (h : revH L i g) (hi : L.length ≤ 2 * i + 1) : ∀ (x : Nat) (hx : x < L.reverse.length), g x = nI L.reverse[x] := by
  intro x hx
  have hx2 : x < L.length := by rw [List.length_reverse] at hx; exact hx
  rw [h x hx2, List.getElem_reverse]
  by_cases e3 : x < i ∨ L.length ≤ x + i
  · rw [if_pos e3]
  · rw [if_neg e3]
    congr 1
    congr 1
    omega

theorem i32_eq_sub1 {x : Int32} (h : -1000 < x.toInt) (h2 : x.toInt < 1000) : (x + (-1)).toInt = x.toInt - 1 := by
  rw [Int32.toInt_add, show (-1 : Int32).toInt = -1 from rfl]
  exact Int.bmod_eq_of_le (by omega) (by omega)

set_option maxHeartbeats 4000000 in
set_option maxRecDepth 100000 in
/-- Row.reverse() -/
theorem cR_reverse (l : Launch) (D : va_G) (tys : List (ClassId × FieldType)) (A : Nat → Prop) (ws : va_W) (cI : ClassId) (hI : tys[0]? = some (cI, .int)) (ad : Nat → Nat) (k : Nat) (L : List Nat) (h : RowAt cI ad ws k L) : x_Mv l yR_reverse wR_reverse (xR 0) D xCl tys A [.ref (ad k)] ws (fun ws1 => x_two k ws ws1 ∧ RowAt cI ad ws1 k L.reverse) := by
  have hle := h.le
  obtain ⟨f, mk, h0, h1, hf, hm, hn, hlt⟩ := h
  refine x_enter (by decide) rfl (Nat.le_of_ble_eq_true rfl) (fun p e s m args below meth c ls hx hb hr hlk hml hown hnm hts hK hP hD hS hA hN hl => ?_)
  have hl : lv_has ls 4 [(0, .ref (ad k))] := hl
  have loop_9 : ∀ (n : Nat) (i : Nat) (hi : Int32) (gg : Nat → Int32) (ws1 : va_W) (H : Heap) (locs : List Loc) (ls : Array Slot), hi.toInt = (L.length : Int) - 1 - i → x_two k ws ws1 → ws1[k]? = some (ad k, .inr (2, [.ref (ad (k + 1)), .int (nI L.length), .int mk])) → ws1[k + 1]? = some (ad (k + 1), .inl (cI, 30, .inl gg)) → revH L i gg → 2 * i ≤ L.length + 1 → L.length - i < n → va_P D xCl ws1 H → va_D A ws1 → va_S A s.heap H locs → lv_has ls 4 [(0, .ref (ad k)), (1, .int (nI i)), (2, .int hi)] → W p l e (xR 0) s m args below meth c H locs 0 0 (MQ below (va_Qv (fun ws1 => x_two k ws ws1 ∧ RowAt cI ad ws1 k L.reverse) (x_B D xCl tys A) A) args s 0 0 A) (F0 m 9 ls []) := by
    intro n
    induction n with
    | zero => intro i hi gg ws1 H locs ls ehi hT hq0 hq1 hrev hi1 hme; exact absurd hme (Nat.not_lt_zero _)
    | succ n ih =>
      intro i hi gg ws1 H locs ls ehi hT hq0 hq1 hrev hi1 hme hP hD hS hl
      refine lv_iload_n hx hb dR_reverse_9 rfl (lv_at hl 1 rfl) ?_
      refine lv_if_lt (tgt := 62) hx hb dR_reverse_10 (by decide) (fun c10 => ?_) (fun c10 => ?_)
      · exact absurd c10 (nI_pos (by omega))
      · refine lv_iload_n hx hb dR_reverse_13 rfl (lv_at hl 1 rfl) ?_
        refine lv_iload_n hx hb dR_reverse_14 rfl (lv_at hl 2 rfl) ?_
        refine lv_icmp_ge (tgt := 62) hx hb dR_reverse_15 (by decide) (fun c15 => ?_) (fun c15 => ?_)
        · exact x_vret hx hb hr hlk hK hP hD hS dR_reverse_62 ⟨hT, gg, mk, (by rw [List.length_reverse]; exact hq0), hq1, revH_e hrev (by rw [i32_le, nI_toInt (by omega), ehi] at c15; omega), (fun x hx => by rw [hm x hx]; exact decide_eq_decide.mpr List.mem_reverse.symm), (nodup_rev hn), (fun t ht => hlt t (List.mem_reverse.mp ht))⟩
        · have hi2 : 2 * i + 1 < L.length := by rw [i32_le, nI_toInt (by omega), ehi] at c15; omega
          have ehi2 : hi = nI (L.length - 1 - i) := by rw [i32_eq, nI_toInt (by omega), ehi]; omega
          refine lv_iload_n hx hb dR_reverse_18 rfl (lv_at hl 2 rfl) ?_
          refine lv_aload_n hx hb dR_reverse_19 rfl (lv_at hl 0 rfl) ?_
          refine va_get (D := D) (cl := xCl) (ci := 2) (v := .ref (ad (k + 1))) (C := rnR) (T := tbR) (N := 3) hx hb hts inR hown hK hP k hq0 rfl 0 (by decide) (hts _ tw_126) (fun _ h9 => h9) rfl dR_reverse_20 ?_
          refine va_alen (v := 30) hx hb hK hP (k + 1) 0 hq1 hI (by rfl) dR_reverse_23 ?_
          refine lv_icmp_ge (tgt := 62) hx hb dR_reverse_24 (by decide) (fun c24 => ?_) (fun c24 => ?_)
          · exact absurd c24 (by rw [i32_le, ehi, i32_30]; omega)
          · refine lv_aload_n hx hb dR_reverse_27 rfl (lv_at hl 0 rfl) ?_
            refine va_get (D := D) (cl := xCl) (ci := 2) (v := .ref (ad (k + 1))) (C := rnR) (T := tbR) (N := 3) hx hb hts inR hown hK hP k hq0 rfl 0 (by decide) (hts _ tw_126) (fun _ h9 => h9) rfl dR_reverse_28 ?_
            refine lv_iload_n hx hb dR_reverse_31 rfl (lv_at hl 1 rfl) ?_
            refine va_iald hx hb hK hP (k + 1) 0 hq1 hI (vp_in_nI (by omega) (by omega)) dR_reverse_32 ?_
            refine lv_topi (fun v_1 ev_1 => ?_)
            refine lv_istore_n (lv' := [(3, .int v_1), (0, .ref (ad k)), (1, .int (nI i)), (2, .int hi)]) hx hb dR_reverse_33 rfl hl (by decide) rfl (fun ls hl => ?_)
            refine lv_aload_n hx hb dR_reverse_34 rfl (lv_at hl 1 rfl) ?_
            refine va_get (D := D) (cl := xCl) (ci := 2) (v := .ref (ad (k + 1))) (C := rnR) (T := tbR) (N := 3) hx hb hts inR hown hK hP k hq0 rfl 0 (by decide) (hts _ tw_126) (fun _ h9 => h9) rfl dR_reverse_35 ?_
            refine lv_iload_n hx hb dR_reverse_38 rfl (lv_at hl 2 rfl) ?_
            refine lv_aload_n hx hb dR_reverse_39 rfl (lv_at hl 1 rfl) ?_
            refine va_get (D := D) (cl := xCl) (ci := 2) (v := .ref (ad (k + 1))) (C := rnR) (T := tbR) (N := 3) hx hb hts inR hown hK hP k hq0 rfl 0 (by decide) (hts _ tw_126) (fun _ h9 => h9) rfl dR_reverse_40 ?_
            refine lv_iload_n hx hb dR_reverse_43 rfl (lv_at hl 3 rfl) ?_
            refine va_iald hx hb hK hP (k + 1) 0 hq1 hI (by rw [ehi2]; exact vp_in_nI (by omega) (by omega)) dR_reverse_44 ?_
            refine lv_topi (fun v_2 ev_2 => ?_)
            refine va_iast hx hb hK hP hD hS (k + 1) 0 hq1 hI (vp_in_nI (by omega) (by omega)) dR_reverse_45 (fun H locs hP hD hS => ?_)
            obtain ⟨ws_4, hu_3, hP, hD⟩ := x_gen hq1 hP hD
            have h_5 : ws_4[k + 1]? = some (ad (k + 1), .inl (cI, 30, .inl (upd gg ((nI i)).toNatClampNeg v_2))) := hu_3.1
            have h_6 := (hu_3.2 k (by omega)).trans hq0
            refine lv_aload_n hx hb dR_reverse_46 rfl (lv_at hl 1 rfl) ?_
            refine va_get (D := D) (cl := xCl) (ci := 2) (v := .ref (ad (k + 1))) (C := rnR) (T := tbR) (N := 3) hx hb hts inR hown hK hP k h_6 rfl 0 (by decide) (hts _ tw_126) (fun _ h9 => h9) rfl dR_reverse_47 ?_
            refine lv_iload_n hx hb dR_reverse_50 rfl (lv_at hl 3 rfl) ?_
            refine lv_iload_n hx hb dR_reverse_51 rfl (lv_at hl 0 rfl) ?_
            refine va_iast hx hb hK hP hD hS (k + 1) 0 h_5 hI (by rw [ehi2]; exact vp_in_nI (by omega) (by omega)) dR_reverse_52 (fun H locs hP hD hS => ?_)
            obtain ⟨ws_8, hu_7, hP, hD⟩ := x_gen h_5 hP hD
            have h_9 : ws_8[k + 1]? = some (ad (k + 1), .inl (cI, 30, .inl (upd (upd gg ((nI i)).toNatClampNeg v_2) (hi).toNatClampNeg v_1))) := hu_7.1
            have h_10 := (hu_7.2 k (by omega)).trans h_6
            refine lv_iinc (v := (nI (i + 1))) (lv' := [(1, .int (nI (i + 1))), (3, .int v_1), (0, .ref (ad k)), (2, .int hi)]) hx hb dR_reverse_53 hl (k := 2) rfl (nI_1 _) (by decide) rfl (fun ls hl => ?_)
            obtain ⟨v_11, ev_11⟩ : ∃ y : Int32, y = hi + (-1) := ⟨_, rfl⟩
            refine lv_iinc (v := v_11) (lv' := [(2, .int v_11), (1, .int (nI (i + 1))), (3, .int v_1), (0, .ref (ad k))]) hx hb dR_reverse_56 hl (k := 3) rfl (by rw [ev_11]; rfl) (by decide) rfl (fun ls hl => ?_)
            refine lv_goto (tgt := 9) hx hb dR_reverse_59 (by decide) ?_
            exact ih (i + 1) v_11 _ ws_8 _ _ _ (by rw [ev_11, i32_eq_sub1 (by rw [ehi]; omega) (by rw [ehi]; omega), ehi]; omega) (hT.tr (fun j a1 a2 => ((hu_7.2 j a2).trans (hu_3.2 j a2)))) h_10 (by have q := h_9; rw [ehi2, nI_clamp (by omega), nI_clamp (by omega)] at q; exact q) (revH_s hrev hi2 (by rw [ev_1, nI_clamp (by omega)]) (by rw [ev_2, ehi2, nI_clamp (by omega)])) (by omega) (by omega) hP hD hS (lv_sub hl [3, 1, 0] rfl)
  refine lv_iconst (v := 0) hx hb dR_reverse_0 (by decide) ?_
  refine lv_istore_n (lv' := [(1, .int 0), (0, .ref (ad k))]) hx hb dR_reverse_1 rfl hl (by decide) rfl (fun ls hl => ?_)
  refine lv_aload_n hx hb dR_reverse_2 rfl (lv_at hl 1 rfl) ?_
  refine va_get (D := D) (cl := xCl) (ci := 2) (v := .int (nI L.length)) (C := rnR) (T := tbR) (N := 3) hx hb hts inR hown hK hP k h0 rfl 1 (by decide) (hts _ tw_127) (fun _ h9 => h9) rfl dR_reverse_3 ?_
  refine lv_iconst (v := 1) hx hb dR_reverse_6 (by decide) ?_
  refine lv_isub hx hb dR_reverse_7 ?_
  refine lv_topi (fun v_12 ev_12 => ?_)
  refine lv_istore_n (lv' := [(2, .int v_12), (1, .int 0), (0, .ref (ad k))]) hx hb dR_reverse_8 rfl hl (by decide) rfl (fun ls hl => ?_)
  exact loop_9 _ 0 v_12 f ws _ _ _ (by rw [ev_12, show (1 : Int32) = nI 1 from rfl, pk_sub_toInt (by omega) (by omega)]; omega) x_two.rf h0 h1 (revH_0 hf) (by omega) (Nat.lt_succ_self _) hP hD hS (lv_sub hl [2, 1, 0] rfl)
