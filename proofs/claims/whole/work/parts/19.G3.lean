theorem msk_keep {i x : Nat} {P : Nat → Prop} [DecidablePred P] (h : ¬ P i) : decide (x < i ∧ P x) = decide (x < i + 1 ∧ P x) :=
  decide_eq_decide.mpr ⟨fun q => ⟨by omega, q.2⟩, fun q => ⟨Nat.lt_of_le_of_ne (Nat.le_of_lt_succ q.1) (fun e => h (e ▸ q.2)), q.2⟩⟩
theorem msk_add {i x : Nat} {P : Nat → Prop} [DecidablePred P] (h : P i) : (decide (x < i ∧ P x) || decide (x = i)) = decide (x < i + 1 ∧ P x) := by
  by_cases e : x = i
  · subst e
    rw [decide_eq_true (p := x = x) rfl, decide_eq_true (p := x < x + 1 ∧ P x) ⟨by omega, h⟩, Bool.or_true]
  · rw [decide_eq_false e, Bool.or_false]
    exact decide_eq_decide.mpr ⟨fun q => ⟨by omega, q.2⟩, fun q => ⟨by omega, q.2⟩⟩

-- ===== a need more =====
def gNd (g : Gr) (t o : Nat) : Gr := g.set t (gN g t, gK g t, gD g t ++ [o])
theorem gNd_len (g : Gr) (t o : Nat) : (gNd g t o).length = g.length := List.length_set
theorem gNd_get (g : Gr) {t o : Nat} (ht : t < g.length) (u : Nat) : (gNd g t o).getD u (0, 0, []) = if u = t then (gN g t, gK g t, gD g t ++ [o]) else g.getD u (0, 0, []) := by
  unfold gNd
  rw [List.getD_eq_getElem?_getD, List.getD_eq_getElem?_getD]
  by_cases e : u = t
  · rw [if_pos e, e, List.getElem?_set_self ht]; rfl
  · rw [if_neg e, List.getElem?_set_ne (fun h => e h.symm)]
theorem gNd_N (g : Gr) {t o : Nat} (ht : t < g.length) (u : Nat) : gN (gNd g t o) u = gN g u := by
  show ((gNd g t o).getD u (0, 0, [])).1 = _
  rw [gNd_get g ht]
  split
  · next e => rw [e]
  · rfl
theorem gNd_K (g : Gr) {t o : Nat} (ht : t < g.length) (u : Nat) : gK (gNd g t o) u = gK g u := by
  show ((gNd g t o).getD u (0, 0, [])).2.1 = _
  rw [gNd_get g ht]
  split
  · next e => rw [e]
  · rfl
theorem gNd_D (g : Gr) {t o : Nat} (ht : t < g.length) (u : Nat) : gD (gNd g t o) u = if u = t then gD g t ++ [o] else gD g u := by
  show ((gNd g t o).getD u (0, 0, [])).2.2 = _
  rw [gNd_get g ht]
  split <;> rfl
theorem GrOK.nd {g : Gr} (h : GrOK g) {t o : Nat} (ht : t < g.length) (ho : o < g.length) (hm : o ∉ gD g t) (h8 : (gD g t).length < 8) : GrOK (gNd g t o) := by
  obtain ⟨h1, h2, h3, h4⟩ := h
  refine ⟨by rw [gNd_len]; exact h1, ?_, ?_, ?_⟩
  · intro u hu
    rw [gNd_len] at hu
    rw [gNd_N g ht, gNd_K g ht]; exact h2 u hu
  · intro u v hu hv
    rw [gNd_len] at hu hv
    rw [gNd_N g ht, gNd_N g ht]; exact h3 u v hu hv
  · intro u
    rw [gNd_D g ht, gNd_len]
    by_cases e : u = t
    · rw [if_pos e]
      refine ⟨?_, by rw [List.length_append]; exact h8, ?_⟩
      · rw [List.nodup_append]
        exact ⟨(h4 t).1, by simp, fun a ha b hb e => hm (by rw [List.mem_singleton] at hb; rw [← hb, ← e]; exact ha)⟩
      · intro x hx
        rcases List.mem_append.mp hx with q | q
        · exact (h4 t).2.2 x q
        · rw [List.mem_singleton] at q; omega
    · rw [if_neg e]; exact h4 u
theorem GrRel.nd {g : Gr} {F F1 : Nat → Nat → Int32} (h : GrRel g F) {t o : Nat} (ht : t < g.length) (ho : o < g.length) (hm : o ∉ gD g t) (h8 : (gD g t).length < 8) (e1 : F1 1 = F 1) (e2 : F1 2 = F 2) (e3 : F1 3 = F 3) (e4 : F1 4 = upd (F 4) (t * 8 + (gD g t).length) (nI o)) (e5 : F1 5 = upd (F 5) t (nI ((gD g t).length + 1))) (e6 : F1 6 = upd (F 6) t (F 6 t ||| ((1 : Int32) <<< (nI o &&& 31)))) (e7 : F1 7 = upd (F 7) o (F 7 o ||| ((1 : Int32) <<< (nI t &&& 31)))) : GrRel (gNd g t o) F1 := by
  obtain ⟨h0, h1, h2, h3, h4, h5, h6, h7⟩ := h
  have hle := h0.1
  refine ⟨h0.nd ht ho hm h8, ?_, ?_, ?_, ?_, ?_, ?_, ?_⟩
  · intro u hu
    rw [gNd_len] at hu
    rw [e1, gNd_N g ht]; exact h1 u hu
  · intro u hu
    rw [gNd_len] at hu
    rw [e2, gNd_K g ht]; exact h2 u hu
  · intro x hx
    rw [e3, h3 x hx]
    unfold gNo gNum
    rw [gNd_len, gNumN_congr (g := gNd g t o) (g2 := g) (fun u _ => gNd_N g ht u)]
  · intro u i hu hi
    rw [gNd_D g ht] at hi ⊢
    rw [e4]
    unfold upd
    by_cases e : u = t
    · rw [if_pos e] at hi ⊢
      rw [List.length_append] at hi
      simp only [List.length_singleton] at hi
      subst e
      by_cases e9 : i = (gD g u).length
      · rw [if_pos (by omega), e9]; simp
      · rw [if_neg (by omega), h4 u i hu (by omega)]
        congr 1
        rw [List.getD_eq_getElem?_getD, List.getD_eq_getElem?_getD, List.getElem?_append_left (by omega)]
    · rw [if_neg e] at hi ⊢
      have := (h0.2.2.2 u).2.1
      rw [if_neg (by omega)]; exact h4 u i hu hi
  · intro u hu
    rw [e5, gNd_D g ht]
    unfold upd
    by_cases e : u = t
    · rw [if_pos e, if_pos e, List.length_append]; rfl
    · rw [if_neg e, if_neg e]; exact h5 u hu
  · intro u hu i hi
    rw [e6, gNd_D g ht]
    unfold upd
    by_cases e : u = t
    · rw [if_pos e, if_pos e, b_or, h6 t (by omega) i hi, b_sh1 (by omega) hi]
      simp only [List.mem_append, List.mem_singleton]
      by_cases a : i ∈ gD g t <;> by_cases b : i = o <;> simp [a, b]
    · rw [if_neg e, if_neg e]; exact h6 u hu i hi
  · intro u hu i hi
    rw [e7, gNd_D g ht]
    unfold upd
    by_cases e : u = o
    · rw [if_pos e, b_or, h7 o (by omega) i hi, b_sh1 (by omega) hi, e]
      by_cases b : i = t
      · rw [if_pos b]; simp [b]
      · rw [if_neg b]; simp [b]
    · rw [if_neg e, h7 u hu i hi]
      by_cases b : i = t
      · rw [if_pos b, b]; simp [e]
      · rw [if_neg b]
def ndC (g : Gr) (t o : Int32) : Prop := (0 ≤ t.toInt ∧ t.toInt < g.length) ∧ (0 ≤ o.toInt ∧ o.toInt < g.length) ∧ o.toInt.toNat ∉ gD g t.toInt.toNat ∧ (gD g t.toInt.toNat).length < 8
/-- promise 3: the answer, and the targets behind it -/
noncomputable def ndS (g : Gr) (t o : Int32) : Int32 × Gr := by
  classical
  exact if ndC g t o then (1, gNd g t.toInt.toNat o.toInt.toNat) else (0, g)
theorem ndS_no {g : Gr} {t o : Int32} (h : ¬ ndC g t o) : ndS g t o = (0, g) := if_neg h
theorem ndS_yes {g : Gr} {t o : Nat} (hg : g.length ≤ 30) (h1 : t < g.length) (h2 : o < g.length) (h3 : o ∉ gD g t) (h4 : (gD g t).length < 8) : ndS g (nI t) (nI o) = (1, gNd g t o) := by
  have c : ndC g (nI t) (nI o) := by
    unfold ndC
    rw [nI_toInt (by omega), nI_toInt (by omega)]
    exact ⟨by omega, by omega, by simpa using h3, by simpa using h4⟩
  unfold ndS
  rw [if_pos c, nI_toInt (by omega), nI_toInt (by omega)]
  simp

set_option maxHeartbeats 4000000 in
set_option maxRecDepth 100000 in
/-- Graph.addNeed(t, other) -/
theorem cG_addNeed (l : Launch) (D : va_G) (tys : List (ClassId × FieldType)) (A : Nat → Prop) (ws : va_W) (cI : ClassId) (hI : tys[0]? = some (cI, .int)) (ad : Nat → Nat) (k : Nat) (g : Gr) (tt oo : Int32) (hG : GraphAt cI ad ws k g) : x_Mi l yG_addNeed wG_addNeed (xR 1) D xCl tys A [.ref (ad k), .int tt, .int oo] ws (fun r ws1 => x_fr k (k + 9) ws ws1 ∧ r = (ndS g tt oo).1 ∧ GraphAt cI ad ws1 k (ndS g tt oo).2) := by
  obtain ⟨F, ⟨h0, h1, h2, h3, h4, h5, h6, h7, h8⟩, hR⟩ := id hG
  obtain ⟨⟨hle, hok1, hok2, hok3⟩, hr1, hr2, hr3, hr4, hr5, hr6, hr7⟩ := id hR
  refine x_enter (by decide) rfl (Nat.le_of_ble_eq_true rfl) (fun p e s m args below meth c ls hx hb hr hlk hml hown hnm hts hK hP hD hS hA hN hl => ?_)
  have hl : lv_has ls 3 [(0, .ref (ad k)), (1, .int tt), (2, .int oo)] := hl
  refine lv_iload_n hx hb dG_addNeed_0 rfl (lv_at hl 1 rfl) ?_
  refine lv_aload_n hx hb dG_addNeed_1 rfl (lv_at hl 0 rfl) ?_
  refine va_get (D := D) (cl := xCl) (ci := 0) (v := .int (nI g.length)) (C := rnG) (T := tbG) (N := 9) hx hb hts inG hown hK hP k h0 rfl 8 (by decide) (hts _ tw_37) (fun _ h9 => h9) rfl dG_addNeed_2 ?_
  refine x_calli (x_runS (n := 2) (As := [.int tt, .int (nI g.length)]) (rest := []) ⟨hx, hb, hml, hown, hts⟩ (cG_below l D tys A ws tt ((nI g.length))) tw_178 tw_179 tw_2 tw_180 (by decide +kernel) rfl rfl ⟨by decide, by decide⟩ ⟨Nat.zero_le _, Nat.zero_le _⟩ hK hP hD hS hA hN rfl hl.1 rfl (lv_room (Nat.le_of_ble_eq_true rfl)) dG_addNeed_5) hS (fun rhb1 ws_1 H locs hb1 hP hD hS => ?_)
  obtain ⟨hb1, rfl⟩ := hb1
  refine lv_if_eq (tgt := 49) hx hb dG_addNeed_8 (by decide) (fun c8 => ?_) (fun c8 => ?_)
  · refine lv_iconst (v := 0) hx hb dG_addNeed_49 (by decide) ?_
    exact x_zret hx hb hr rfl hlk hK hP hD hS dG_addNeed_50 ⟨x_fr.rf, by rw [ndS_no (fun hc => blw_no (by omega) hb1 c8 hc.1)], by rw [ndS_no (fun hc => blw_no (by omega) hb1 c8 hc.1)]; exact hG⟩
  · obtain ⟨ta, hta, rfl⟩ := blw_of (by omega) hb1 c8
    refine lv_iload_n hx hb dG_addNeed_11 rfl (lv_at hl 2 rfl) ?_
    refine lv_aload_n hx hb dG_addNeed_12 rfl (lv_at hl 0 rfl) ?_
    refine va_get (D := D) (cl := xCl) (ci := 0) (v := .int (nI g.length)) (C := rnG) (T := tbG) (N := 9) hx hb hts inG hown hK hP k h0 rfl 8 (by decide) (hts _ tw_37) (fun _ h9 => h9) rfl dG_addNeed_13 ?_
    refine x_calli (x_runS (n := 2) (As := [.int oo, .int (nI g.length)]) (rest := []) ⟨hx, hb, hml, hown, hts⟩ (cG_below l D tys A ws oo ((nI g.length))) tw_178 tw_179 tw_2 tw_180 (by decide +kernel) rfl rfl ⟨by decide, by decide⟩ ⟨Nat.zero_le _, Nat.zero_le _⟩ hK hP hD hS hA hN rfl hl.1 rfl (lv_room (Nat.le_of_ble_eq_true rfl)) dG_addNeed_16) hS (fun rhb2 ws_2 H locs hb2 hP hD hS => ?_)
    obtain ⟨hb2, rfl⟩ := hb2
    refine lv_if_eq (tgt := 49) hx hb dG_addNeed_19 (by decide) (fun c19 => ?_) (fun c19 => ?_)
    · refine lv_iconst (v := 0) hx hb dG_addNeed_49 (by decide) ?_
      exact x_zret hx hb hr rfl hlk hK hP hD hS dG_addNeed_50 ⟨x_fr.rf, by rw [ndS_no (fun hc => blw_no (by omega) hb2 c19 hc.2.1)], by rw [ndS_no (fun hc => blw_no (by omega) hb2 c19 hc.2.1)]; exact hG⟩
    · obtain ⟨ob, hob, rfl⟩ := blw_of (by omega) hb2 c19
      refine lv_aload_n hx hb dG_addNeed_22 rfl (lv_at hl 0 rfl) ?_
      refine va_get (D := D) (cl := xCl) (ci := 0) (v := .ref (ad (k + 6))) (C := rnG) (T := tbG) (N := 9) hx hb hts inG hown hK hP k h0 rfl 5 (by decide) (hts _ tw_34) (fun _ h9 => h9) rfl dG_addNeed_23 ?_
      refine lv_iload_n hx hb dG_addNeed_26 rfl (lv_at hl 1 rfl) ?_
      refine va_iald hx hb hK hP (k + 6) 0 h6 hI (vp_in_nI (by omega) (by omega)) dG_addNeed_27 ?_
      refine lv_topi (fun v_3 ev_3 => ?_)
      refine lv_iload_n hx hb dG_addNeed_28 rfl (lv_at hl 2 rfl) ?_
      refine x_calli (x_runSN (n := 2) (As := [.int v_3, .int (nI ob)]) (rest := []) ⟨hx, hb, hml, hown, hts⟩ (cQ_isIn l D tys A ws v_3 ((nI ob))) (xN_189 hN) tw_190 tw_1 tw_191 (by decide +kernel) rfl rfl ⟨by decide, by decide⟩ ⟨Nat.zero_le _, Nat.zero_le _⟩ hK hP hD hS hA hN rfl hl.1 rfl (lv_room (Nat.le_of_ble_eq_true rfl)) dG_addNeed_29) hS (fun rhb3 ws_4 H locs hb3 hP hD hS => ?_)
      obtain ⟨hb3, rfl⟩ := hb3
      refine lv_if_ne (tgt := 49) hx hb dG_addNeed_32 (by decide) (fun c32 => ?_) (fun c32 => ?_)
      · refine lv_iconst (v := 0) hx hb dG_addNeed_49 (by decide) ?_
        exact x_zret hx hb hr rfl hlk hK hP hD hS dG_addNeed_50 ⟨x_fr.rf, by rw [ndS_no (fun hc => by rw [hb3, isIn_nI _ (by omega), b2i_n0, ev_3, nI_clamp (by omega), hr6 ta (by omega) ob (by omega), decide_eq_true_eq] at c32; have q := hc.2.2.1; rw [nI_toInt (by omega), nI_toInt (by omega)] at q; exact q (by simpa using c32))], by rw [ndS_no (fun hc => by rw [hb3, isIn_nI _ (by omega), b2i_n0, ev_3, nI_clamp (by omega), hr6 ta (by omega) ob (by omega), decide_eq_true_eq] at c32; have q := hc.2.2.1; rw [nI_toInt (by omega), nI_toInt (by omega)] at q; exact q (by simpa using c32))]; exact hG⟩
      · refine lv_aload_n hx hb dG_addNeed_35 rfl (lv_at hl 0 rfl) ?_
        refine va_get (D := D) (cl := xCl) (ci := 0) (v := .ref (ad (k + 5))) (C := rnG) (T := tbG) (N := 9) hx hb hts inG hown hK hP k h0 rfl 4 (by decide) (hts _ tw_33) (fun _ h9 => h9) rfl dG_addNeed_36 ?_
        refine lv_iload_n hx hb dG_addNeed_39 rfl (lv_at hl 1 rfl) ?_
        refine va_iald hx hb hK hP (k + 5) 0 h5 hI (vp_in_nI (by omega) (by omega)) dG_addNeed_40 ?_
        refine lv_topi (fun v_5 ev_5 => ?_)
        refine lv_bipush (v := 8) hx hb dG_addNeed_41 (by decide) ?_
        refine x_calli (x_runS (n := 2) (As := [.int v_5, .int 8]) (rest := []) ⟨hx, hb, hml, hown, hts⟩ (cG_below l D tys A ws v_5 8) tw_178 tw_179 tw_2 tw_180 (by decide +kernel) rfl rfl ⟨by decide, by decide⟩ ⟨Nat.zero_le _, Nat.zero_le _⟩ hK hP hD hS hA hN rfl hl.1 rfl (lv_room (Nat.le_of_ble_eq_true rfl)) dG_addNeed_43) hS (fun rhb4 ws_6 H locs hb4 hP hD hS => ?_)
        obtain ⟨hb4, rfl⟩ := hb4
        refine lv_if_ne (tgt := 51) hx hb dG_addNeed_46 (by decide) (fun c46 => ?_) (fun c46 => ?_)
        · have hnm9 : ob ∉ gD g ta := by rw [hb3, isIn_nI _ (by omega), b2i_0, ev_3, nI_clamp (by omega), hr6 ta (by omega) ob (by omega), decide_eq_false_iff_not] at c32; exact c32
          have h89 : (gD g ta).length < 8 := by have q9 := (hok3 ta).2.1; obtain ⟨j, hj, ej⟩ := blw_of (n := 8) (by omega) hb4 c46; rw [ev_5, nI_clamp (by omega), hr5 ta (by omega), nI_eq (by omega) (by omega)] at ej; omega
          refine lv_aload_n hx hb dG_addNeed_51 rfl (lv_at hl 0 rfl) ?_
          refine va_get (D := D) (cl := xCl) (ci := 0) (v := .ref (ad (k + 4))) (C := rnG) (T := tbG) (N := 9) hx hb hts inG hown hK hP k h0 rfl 3 (by decide) (hts _ tw_32) (fun _ h9 => h9) rfl dG_addNeed_52 ?_
          refine lv_iload_n hx hb dG_addNeed_55 rfl (lv_at hl 1 rfl) ?_
          refine lv_bipush (v := 8) hx hb dG_addNeed_56 (by decide) ?_
          refine lv_imul hx hb dG_addNeed_58 ?_
          refine lv_topi (fun v_7 ev_7 => ?_)
          refine lv_aload_n hx hb dG_addNeed_59 rfl (lv_at hl 0 rfl) ?_
          refine va_get (D := D) (cl := xCl) (ci := 0) (v := .ref (ad (k + 5))) (C := rnG) (T := tbG) (N := 9) hx hb hts inG hown hK hP k h0 rfl 4 (by decide) (hts _ tw_33) (fun _ h9 => h9) rfl dG_addNeed_60 ?_
          refine lv_iload_n hx hb dG_addNeed_63 rfl (lv_at hl 1 rfl) ?_
          refine va_iald hx hb hK hP (k + 5) 0 h5 hI (vp_in_nI (by omega) (by omega)) dG_addNeed_64 ?_
          refine lv_topi (fun v_8 ev_8 => ?_)
          refine lv_iadd hx hb dG_addNeed_65 ?_
          refine lv_topi (fun v_9 ev_9 => ?_)
          obtain rfl : v_9 = nI (ta * 8 + (gD g ta).length) := by rw [ev_9, ev_7, ev_8, nI_clamp (by omega), hr5 ta (by omega), show (8 : Int32) = nI 8 from rfl, pk_mul, nI_add]
          refine lv_iload_n hx hb dG_addNeed_66 rfl (lv_at hl 2 rfl) ?_
          refine va_iast hx hb hK hP hD hS (k + 4) 0 h4 hI (vp_in_nI (by omega) (by omega)) dG_addNeed_67 (fun H locs hP hD hS => ?_)
          obtain ⟨ws_11, hu_10, hP, hD⟩ := x_gen h4 hP hD
          have h_12 : ws_11[k + 4]? = some (ad (k + 4), .inl (cI, 240, .inl (upd (F 4) ((nI (ta * 8 + (gD g ta).length))).toNatClampNeg ((nI ob))))) := hu_10.1
          have h_13 := (hu_10.2 k (by omega)).trans h0
          have h_14 := (hu_10.2 (k + 1) (by omega)).trans h1
          have h_15 := (hu_10.2 (k + 2) (by omega)).trans h2
          have h_16 := (hu_10.2 (k + 3) (by omega)).trans h3
          have h_17 := (hu_10.2 (k + 5) (by omega)).trans h5
          have h_18 := (hu_10.2 (k + 6) (by omega)).trans h6
          have h_19 := (hu_10.2 (k + 7) (by omega)).trans h7
          have h_20 := (hu_10.2 (k + 8) (by omega)).trans h8
          refine lv_aload_n hx hb dG_addNeed_68 rfl (lv_at hl 0 rfl) ?_
          refine va_get (D := D) (cl := xCl) (ci := 0) (v := .ref (ad (k + 5))) (C := rnG) (T := tbG) (N := 9) hx hb hts inG hown hK hP k h_13 rfl 4 (by decide) (hts _ tw_33) (fun _ h9 => h9) rfl dG_addNeed_69 ?_
          refine lv_iload_n hx hb dG_addNeed_72 rfl (lv_at hl 1 rfl) ?_
          refine lv_dup2_11 hx hb dG_addNeed_73 rfl rfl ?_
          refine va_iald hx hb hK hP (k + 5) 0 h_17 hI (vp_in_nI (by omega) (by omega)) dG_addNeed_74 ?_
          refine lv_topi (fun v_21 ev_21 => ?_)
          refine lv_iconst (v := 1) hx hb dG_addNeed_75 (by decide) ?_
          refine lv_iadd hx hb dG_addNeed_76 ?_
          refine lv_topi (fun v_22 ev_22 => ?_)
          obtain rfl : v_22 = nI ((gD g ta).length + 1) := by rw [ev_22, ev_21, nI_clamp (by omega), hr5 ta (by omega), nI_1]
          refine va_iast hx hb hK hP hD hS (k + 5) 0 h_17 hI (vp_in_nI (by omega) (by omega)) dG_addNeed_77 (fun H locs hP hD hS => ?_)
          obtain ⟨ws_24, hu_23, hP, hD⟩ := x_gen h_17 hP hD
          have h_25 : ws_24[k + 5]? = some (ad (k + 5), .inl (cI, 30, .inl (upd (F 5) ((nI ta)).toNatClampNeg ((nI ((gD g ta).length + 1)))))) := hu_23.1
          have h_26 := (hu_23.2 k (by omega)).trans h_13
          have h_27 := (hu_23.2 (k + 1) (by omega)).trans h_14
          have h_28 := (hu_23.2 (k + 2) (by omega)).trans h_15
          have h_29 := (hu_23.2 (k + 3) (by omega)).trans h_16
          have h_30 := (hu_23.2 (k + 4) (by omega)).trans h_12
          have h_31 := (hu_23.2 (k + 6) (by omega)).trans h_18
          have h_32 := (hu_23.2 (k + 7) (by omega)).trans h_19
          have h_33 := (hu_23.2 (k + 8) (by omega)).trans h_20
          refine lv_aload_n hx hb dG_addNeed_78 rfl (lv_at hl 0 rfl) ?_
          refine va_get (D := D) (cl := xCl) (ci := 0) (v := .ref (ad (k + 6))) (C := rnG) (T := tbG) (N := 9) hx hb hts inG hown hK hP k h_26 rfl 5 (by decide) (hts _ tw_34) (fun _ h9 => h9) rfl dG_addNeed_79 ?_
          refine lv_iload_n hx hb dG_addNeed_82 rfl (lv_at hl 1 rfl) ?_
          refine lv_dup2_11 hx hb dG_addNeed_83 rfl rfl ?_
          refine va_iald hx hb hK hP (k + 6) 0 h_31 hI (vp_in_nI (by omega) (by omega)) dG_addNeed_84 ?_
          refine lv_topi (fun v_34 ev_34 => ?_)
          refine lv_iconst (v := 1) hx hb dG_addNeed_85 (by decide) ?_
          refine lv_iload_n hx hb dG_addNeed_86 rfl (lv_at hl 2 rfl) ?_
          refine lv_ishl hx hb dG_addNeed_87 ?_
          refine lv_topi (fun v_35 ev_35 => ?_)
          refine lv_ior hx hb dG_addNeed_88 ?_
          refine lv_topi (fun v_36 ev_36 => ?_)
          obtain rfl : v_36 = (F 6 ta ||| ((1 : Int32) <<< (nI ob &&& 31))) := by rw [ev_36, ev_34, ev_35, nI_clamp (by omega)]
          refine va_iast hx hb hK hP hD hS (k + 6) 0 h_31 hI (vp_in_nI (by omega) (by omega)) dG_addNeed_89 (fun H locs hP hD hS => ?_)
          obtain ⟨ws_38, hu_37, hP, hD⟩ := x_gen h_31 hP hD
          have h_39 : ws_38[k + 6]? = some (ad (k + 6), .inl (cI, 30, .inl (upd (F 6) ((nI ta)).toNatClampNeg ((F 6 ta ||| ((1 : Int32) <<< (nI ob &&& 31))))))) := hu_37.1
          have h_40 := (hu_37.2 k (by omega)).trans h_26
          have h_41 := (hu_37.2 (k + 1) (by omega)).trans h_27
          have h_42 := (hu_37.2 (k + 2) (by omega)).trans h_28
          have h_43 := (hu_37.2 (k + 3) (by omega)).trans h_29
          have h_44 := (hu_37.2 (k + 4) (by omega)).trans h_30
          have h_45 := (hu_37.2 (k + 5) (by omega)).trans h_25
          have h_46 := (hu_37.2 (k + 7) (by omega)).trans h_32
          have h_47 := (hu_37.2 (k + 8) (by omega)).trans h_33
          refine lv_aload_n hx hb dG_addNeed_90 rfl (lv_at hl 0 rfl) ?_
          refine va_get (D := D) (cl := xCl) (ci := 0) (v := .ref (ad (k + 7))) (C := rnG) (T := tbG) (N := 9) hx hb hts inG hown hK hP k h_40 rfl 6 (by decide) (hts _ tw_35) (fun _ h9 => h9) rfl dG_addNeed_91 ?_
          refine lv_iload_n hx hb dG_addNeed_94 rfl (lv_at hl 2 rfl) ?_
          refine lv_dup2_11 hx hb dG_addNeed_95 rfl rfl ?_
          refine va_iald hx hb hK hP (k + 7) 0 h_46 hI (vp_in_nI (by omega) (by omega)) dG_addNeed_96 ?_
          refine lv_topi (fun v_48 ev_48 => ?_)
          refine lv_iconst (v := 1) hx hb dG_addNeed_97 (by decide) ?_
          refine lv_iload_n hx hb dG_addNeed_98 rfl (lv_at hl 1 rfl) ?_
          refine lv_ishl hx hb dG_addNeed_99 ?_
          refine lv_topi (fun v_49 ev_49 => ?_)
          refine lv_ior hx hb dG_addNeed_100 ?_
          refine lv_topi (fun v_50 ev_50 => ?_)
          obtain rfl : v_50 = (F 7 ob ||| ((1 : Int32) <<< (nI ta &&& 31))) := by rw [ev_50, ev_48, ev_49, nI_clamp (by omega)]
          refine va_iast hx hb hK hP hD hS (k + 7) 0 h_46 hI (vp_in_nI (by omega) (by omega)) dG_addNeed_101 (fun H locs hP hD hS => ?_)
          obtain ⟨ws_52, hu_51, hP, hD⟩ := x_gen h_46 hP hD
          have h_53 : ws_52[k + 7]? = some (ad (k + 7), .inl (cI, 30, .inl (upd (F 7) ((nI ob)).toNatClampNeg ((F 7 ob ||| ((1 : Int32) <<< (nI ta &&& 31))))))) := hu_51.1
          have h_54 := (hu_51.2 k (by omega)).trans h_40
          have h_55 := (hu_51.2 (k + 1) (by omega)).trans h_41
          have h_56 := (hu_51.2 (k + 2) (by omega)).trans h_42
          have h_57 := (hu_51.2 (k + 3) (by omega)).trans h_43
          have h_58 := (hu_51.2 (k + 4) (by omega)).trans h_44
          have h_59 := (hu_51.2 (k + 5) (by omega)).trans h_45
          have h_60 := (hu_51.2 (k + 6) (by omega)).trans h_39
          have h_61 := (hu_51.2 (k + 8) (by omega)).trans h_47
          refine lv_iconst (v := 1) hx hb dG_addNeed_102 (by decide) ?_
          exact x_zret hx hb hr rfl hlk hK hP hD hS dG_addNeed_103 ⟨((((hu_10.fr (a := k) (b := k + 9) (by omega) (by omega)).tr (hu_23.fr (a := k) (b := k + 9) (by omega) (by omega))).tr (hu_37.fr (a := k) (b := k + 9) (by omega) (by omega))).tr (hu_51.fr (a := k) (b := k + 9) (by omega) (by omega))), by rw [ndS_yes hle hta hob hnm9 h89], by rw [ndS_yes hle hta hob hnm9 h89]; exact ⟨setF (setF (setF (setF F 4 (upd (F 4) ((nI (ta * 8 + (gD g ta).length))).toNatClampNeg ((nI ob)))) 5 (upd (F 5) ((nI ta)).toNatClampNeg ((nI ((gD g ta).length + 1))))) 6 (upd (F 6) ((nI ta)).toNatClampNeg ((F 6 ta ||| ((1 : Int32) <<< (nI ob &&& 31)))))) 7 (upd (F 7) ((nI ob)).toNatClampNeg ((F 7 ob ||| ((1 : Int32) <<< (nI ta &&& 31))))), ⟨by rw [gNd_len]; exact h_54, h_55, h_56, h_57, h_58, h_59, h_60, h_53, h_61⟩, GrRel.nd hR hta hob hnm9 h89 rfl rfl rfl (by show upd _ _ _ = _; rw [nI_clamp (by omega)]) (by show upd _ _ _ = _; rw [nI_clamp (by omega)]) (by show upd _ _ _ = _; rw [nI_clamp (by omega)]) (by show upd _ _ _ = _; rw [nI_clamp (by omega)])⟩⟩
        · refine lv_iconst (v := 0) hx hb dG_addNeed_49 (by decide) ?_
          exact x_zret hx hb hr rfl hlk hK hP hD hS dG_addNeed_50 ⟨x_fr.rf, by rw [ndS_no (fun hc => by have q9 := (hok3 ta).2.1; have q := blw_no (n := 8) (by omega) hb4 c46; rw [ev_5, nI_clamp (by omega), hr5 ta (by omega), nI_toInt (by omega)] at q; have q2 := hc.2.2.2; rw [nI_toInt (by omega)] at q2; simp at q2; omega)], by rw [ndS_no (fun hc => by have q9 := (hok3 ta).2.1; have q := blw_no (n := 8) (by omega) hb4 c46; rw [ev_5, nI_clamp (by omega), hr5 ta (by omega), nI_toInt (by omega)] at q; have q2 := hc.2.2.2; rw [nI_toInt (by omega)] at q2; simp at q2; omega)]; exact hG⟩

set_option maxHeartbeats 4000000 in
set_option maxRecDepth 100000 in
/-- Graph.ofKind(kind) -/
theorem cG_ofKind (l : Launch) (D : va_G) (tys : List (ClassId × FieldType)) (A : Nat → Prop) (ws : va_W) (cI : ClassId) (hI : tys[0]? = some (cI, .int)) (ad : Nat → Nat) (k : Nat) (g : Gr) (kk : Int32) (hG : GraphAt cI ad ws k g) : x_Mi l yG_ofKind wG_ofKind (xR 0) D xCl tys A [.ref (ad k), .int kk] ws (fun r ws1 => (∀ i, i < 32 → bt r i = decide (i < g.length ∧ nI (gK g i) = kk)) ∧ ws = ws1) := by
  obtain ⟨F, ⟨h0, h1, h2, h3, h4, h5, h6, h7, h8⟩, hR⟩ := id hG
  obtain ⟨⟨hle, hok1, hok2, hok3⟩, hr1, hr2, hr3, hr4, hr5, hr6, hr7⟩ := id hR
  refine x_enter (by decide) rfl (Nat.le_of_ble_eq_true rfl) (fun p e s m args below meth c ls hx hb hr hlk hml hown hnm hts hK hP hD hS hA hN hl => ?_)
  have hl : lv_has ls 4 [(0, .ref (ad k)), (1, .int kk)] := hl
  have loop_4 : ∀ (n : Nat) (i : Nat) (w0 : Int32) (hi : i ≤ g.length) (ws1 : va_W) (H : Heap) (locs : List Loc) (ls : Array Slot), (∀ x, x < 32 → bt w0 x = decide (x < i ∧ nI (gK g x) = kk)) → ws = ws1 → g.length - i < n → va_P D xCl ws1 H → va_D A ws1 → va_S A s.heap H locs → lv_has ls 4 [(0, .ref (ad k)), (1, .int kk), (2, .int w0), (3, .int (nI i))] → W p l e (xR 0) s m args below meth c H locs 0 0 (MQ below (va_Qi (fun r ws1 => (∀ i, i < 32 → bt r i = decide (i < g.length ∧ nI (gK g i) = kk)) ∧ ws = ws1) (x_B D xCl tys A) A) args s 0 0 A) (F0 m 4 ls []) := by
    intro n
    induction n with
    | zero => intro i w0 hi ws1 H locs ls hw0 hws hme; exact absurd hme (Nat.not_lt_zero _)
    | succ n ih =>
      intro i w0 hi ws1 H locs ls hw0 hws hme hP hD hS hl
      subst hws
      refine lv_iload_n hx hb dG_ofKind_4 rfl (lv_at hl 3 rfl) ?_
      refine lv_aload_n hx hb dG_ofKind_5 rfl (lv_at hl 0 rfl) ?_
      refine va_get (D := D) (cl := xCl) (ci := 0) (v := .int (nI g.length)) (C := rnG) (T := tbG) (N := 9) hx hb hts inG hown hK hP k h0 rfl 8 (by decide) (hts _ tw_37) (fun _ h9 => h9) rfl dG_ofKind_6 ?_
      refine lv_icmp_ge (tgt := 43) hx hb dG_ofKind_9 (by decide) (fun c9 => ?_) (fun c9 => ?_)
      · refine lv_iload_n hx hb dG_ofKind_43 rfl (lv_at hl 2 rfl) ?_
        exact x_iret hx hb hr hlk hK hP hD hS dG_ofKind_44 ⟨fun x hx => by rw [hw0 x hx]; have e : i = g.length := (by rw [nI_leI (by omega) (by omega)] at c9; omega); rw [e], rfl⟩
      · have hi2 : i < g.length := by rw [nI_leI (by omega) (by omega)] at c9; omega
        refine lv_iload_n hx hb dG_ofKind_12 rfl (lv_at hl 3 rfl) ?_
        refine lv_aload_n hx hb dG_ofKind_13 rfl (lv_at hl 0 rfl) ?_
        refine va_get (D := D) (cl := xCl) (ci := 0) (v := .ref (ad (k + 2))) (C := rnG) (T := tbG) (N := 9) hx hb hts inG hown hK hP k h0 rfl 1 (by decide) (hts _ tw_30) (fun _ h9 => h9) rfl dG_ofKind_14 ?_
        refine va_alen (v := 30) hx hb hK hP (k + 2) 0 h2 hI (by rfl) dG_ofKind_17 ?_
        refine lv_icmp_ge (tgt := 43) hx hb dG_ofKind_18 (by decide) (fun c18 => ?_) (fun c18 => ?_)
        · exact absurd ((nI_leI (a := 30) (by omega) (by omega)).mp c18) (by omega)
        · refine lv_aload_n hx hb dG_ofKind_21 rfl (lv_at hl 0 rfl) ?_
          refine va_get (D := D) (cl := xCl) (ci := 0) (v := .ref (ad (k + 2))) (C := rnG) (T := tbG) (N := 9) hx hb hts inG hown hK hP k h0 rfl 1 (by decide) (hts _ tw_30) (fun _ h9 => h9) rfl dG_ofKind_22 ?_
          refine lv_iload_n hx hb dG_ofKind_25 rfl (lv_at hl 3 rfl) ?_
          refine va_iald hx hb hK hP (k + 2) 0 h2 hI (vp_in_nI (by omega) (by omega)) dG_ofKind_26 ?_
          refine lv_topi (fun v_1 ev_1 => ?_)
          refine lv_iload_n hx hb dG_ofKind_27 rfl (lv_at hl 1 rfl) ?_
          refine lv_icmp_ne (tgt := 37) hx hb dG_ofKind_28 (by decide) (fun c28 => ?_) (fun c28 => ?_)
          · refine lv_iinc (v := (nI (i + 1))) (lv' := [(3, .int (nI (i + 1))), (0, .ref (ad k)), (1, .int kk), (2, .int w0)]) hx hb dG_ofKind_37 hl (k := 3) rfl (nI_1 _) (by decide) rfl (fun ls hl => ?_)
            refine lv_goto (tgt := 4) hx hb dG_ofKind_40 (by decide) ?_
            exact ih (i + 1) w0 (by omega) ws _ _ _ (fun x hx => by rw [ev_1, nI_clamp (by omega), hr2 i hi2] at c28; rw [hw0 x hx]; exact msk_keep (P := fun x => nI (gK g x) = kk) c28) rfl (by omega) hP hD hS (lv_sub hl [1, 2, 3, 0] rfl)
          · refine lv_iload_n hx hb dG_ofKind_31 rfl (lv_at hl 2 rfl) ?_
            refine lv_iconst (v := 1) hx hb dG_ofKind_32 (by decide) ?_
            refine lv_iload_n hx hb dG_ofKind_33 rfl (lv_at hl 3 rfl) ?_
            refine lv_ishl hx hb dG_ofKind_34 ?_
            refine lv_topi (fun v_2 ev_2 => ?_)
            refine lv_ior hx hb dG_ofKind_35 ?_
            refine lv_topi (fun v_3 ev_3 => ?_)
            refine lv_istore_n (lv' := [(2, .int v_3), (0, .ref (ad k)), (1, .int kk), (3, .int (nI i))]) hx hb dG_ofKind_36 rfl hl (by decide) rfl (fun ls hl => ?_)
            refine lv_iinc (v := (nI (i + 1))) (lv' := [(3, .int (nI (i + 1))), (2, .int v_3), (0, .ref (ad k)), (1, .int kk)]) hx hb dG_ofKind_37 hl (k := 3) rfl (nI_1 _) (by decide) rfl (fun ls hl => ?_)
            refine lv_goto (tgt := 4) hx hb dG_ofKind_40 (by decide) ?_
            exact ih (i + 1) v_3 (by omega) ws _ _ _ (fun x hx => by rw [ev_1, nI_clamp (by omega), hr2 i hi2] at c28; rw [ev_3, ev_2, b_or, hw0 x hx, b_sh1 (by omega) hx]; exact msk_add (P := fun x => nI (gK g x) = kk) c28) rfl (by omega) hP hD hS (lv_sub hl [2, 3, 1, 0] rfl)
  refine lv_iconst (v := 0) hx hb dG_ofKind_0 (by decide) ?_
  refine lv_istore_n (lv' := [(2, .int 0), (0, .ref (ad k)), (1, .int kk)]) hx hb dG_ofKind_1 rfl hl (by decide) rfl (fun ls hl => ?_)
  refine lv_iconst (v := 0) hx hb dG_ofKind_2 (by decide) ?_
  refine lv_istore_n (lv' := [(3, .int 0), (2, .int 0), (0, .ref (ad k)), (1, .int kk)]) hx hb dG_ofKind_3 rfl hl (by decide) rfl (fun ls hl => ?_)
  exact loop_4 _ 0 0 (Nat.zero_le _) ws _ _ _ (fun i hi => by rw [b_0, decide_eq_false]; omega) rfl (Nat.lt_succ_self _) hP hD hS (lv_sub hl [2, 3, 1, 0] rfl)
