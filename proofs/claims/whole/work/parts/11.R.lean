theorem ts_nf9 {x : Bool} (h : ¬ x = false) : x = true := by cases x <;> simp_all

set_option maxHeartbeats 4000000 in
set_option maxRecDepth 100000 in
/-- isIn(mask, t) -/
theorem cQ_isIn (l : Launch) (D : va_G) (tys : List (ClassId × FieldType)) (A : Nat → Prop) (ws : va_W) (mk t : Int32) : x_Mi l yQ_isIn wQ_isIn (xR 0) D xCl tys A [.int mk, .int t] ws (fun r ws1 => r = b2i (isInB mk t) ∧ ws = ws1) := by
  refine x_enter (by decide) rfl (Nat.le_of_ble_eq_true rfl) (fun p e s m args below meth c ls hx hb hr hlk hml hown hnm hts hK hP hD hS hA hN hl => ?_)
  have hl : lv_has ls 2 [(0, .int mk), (1, .int t)] := hl
  refine lv_iload_n hx hb dQ_isIn_0 rfl (lv_at hl 1 rfl) ?_
  refine lv_if_lt (tgt := 22) hx hb dQ_isIn_1 (by decide) (fun c1 => ?_) (fun c1 => ?_)
  · refine lv_iconst (v := 0) hx hb dQ_isIn_22 (by decide) ?_
    exact x_zret hx hb hr rfl hlk hK hP hD hS dQ_isIn_23 ⟨by rw [isIn_neg c1]; rfl, rfl⟩
  · refine lv_iload_n hx hb dQ_isIn_4 rfl (lv_at hl 1 rfl) ?_
    refine lv_bipush (v := 30) hx hb dQ_isIn_5 (by decide) ?_
    refine lv_icmp_ge (tgt := 22) hx hb dQ_isIn_7 (by decide) (fun c7 => ?_) (fun c7 => ?_)
    · refine lv_iconst (v := 0) hx hb dQ_isIn_22 (by decide) ?_
      exact x_zret hx hb hr rfl hlk hK hP hD hS dQ_isIn_23 ⟨by rw [isIn_big c7]; rfl, rfl⟩
    · refine lv_iload_n hx hb dQ_isIn_10 rfl (lv_at hl 0 rfl) ?_
      refine lv_iload_n hx hb dQ_isIn_11 rfl (lv_at hl 1 rfl) ?_
      refine lv_iushr (v := ((mk).toUInt32 >>> ((t).toUInt32 &&& Int32.toUInt32 31)).toInt32) hx hb dQ_isIn_12 rfl ?_
      refine lv_iconst (v := 1) hx hb dQ_isIn_13 (by decide) ?_
      refine lv_iand hx hb dQ_isIn_14 ?_
      refine lv_if_eq (tgt := 22) hx hb dQ_isIn_15 (by decide) (fun c15 => ?_) (fun c15 => ?_)
      · refine lv_iconst (v := 0) hx hb dQ_isIn_22 (by decide) ?_
        exact x_zret hx hb hr rfl hlk hK hP hD hS dQ_isIn_23 ⟨by rw [(isIn_bit c1 c7).mp c15]; rfl, rfl⟩
      · refine lv_iconst (v := 1) hx hb dQ_isIn_18 (by decide) ?_
        refine lv_goto (tgt := 23) hx hb dQ_isIn_19 (by decide) ?_
        exact x_zret hx hb hr rfl hlk hK hP hD hS dQ_isIn_23 ⟨by rw [ts_nf9 (fun h => c15 ((isIn_bit c1 c7).mpr h))]; rfl, rfl⟩

set_option maxHeartbeats 4000000 in
set_option maxRecDepth 100000 in
/-- Row.clear() -/
theorem cR_clear (l : Launch) (D : va_G) (tys : List (ClassId × FieldType)) (A : Nat → Prop) (ws : va_W) (cI : ClassId) (hI : tys[0]? = some (cI, .int)) (ad : Nat → Nat) (k : Nat) (L : List Nat) (f : Nat → Int32) (h : RowF cI ad ws k L f) : x_Mv l yR_clear wR_clear (xR 0) D xCl tys A [.ref (ad k)] ws (fun ws1 => x_two k ws ws1 ∧ RowF cI ad ws1 k [] f) := by
  obtain ⟨mk, h0, h1, hf, hm, hn, hlt⟩ := h
  refine x_enter (by decide) rfl (Nat.le_of_ble_eq_true rfl) (fun p e s m args below meth c ls hx hb hr hlk hml hown hnm hts hK hP hD hS hA hN hl => ?_)
  have hl : lv_has ls 1 [(0, .ref (ad k))] := hl
  refine lv_aload_n hx hb dR_clear_0 rfl (lv_at hl 0 rfl) ?_
  refine lv_iconst (v := 0) hx hb dR_clear_1 (by decide) ?_
  refine va_put (D := D) (cl := xCl) (ci := 2) (v := .int 0) (ty := .int) (C := rnR) (T := tbR) (N := 3) hx hb hts inR tyR toR nmR hown hK hP hD hS k h0 rfl 1 (by decide) (hts _ tw_127) (fun _ h9 => h9) rfl (by decide +kernel) rfl rfl (Nat.le_of_ble_eq_true rfl) dR_clear_2 (fun H locs hP hD hS => ?_)
  obtain ⟨ws_2, hu_1, hP, hD⟩ := x_gen h0 hP hD
  have h_3 : ws_2[k]? = some (ad k, .inr (2, [.ref (ad (k + 1)), .int 0, .int mk])) := hu_1.1
  have h_4 := (hu_1.2 (k + 1) (by omega)).trans h1
  refine lv_aload_n hx hb dR_clear_5 rfl (lv_at hl 0 rfl) ?_
  refine lv_iconst (v := 0) hx hb dR_clear_6 (by decide) ?_
  refine va_put (D := D) (cl := xCl) (ci := 2) (v := .int 0) (ty := .int) (C := rnR) (T := tbR) (N := 3) hx hb hts inR tyR toR nmR hown hK hP hD hS k h_3 rfl 2 (by decide) (hts _ tw_128) (fun _ h9 => h9) rfl (by decide +kernel) rfl rfl (Nat.le_of_ble_eq_true rfl) dR_clear_7 (fun H locs hP hD hS => ?_)
  obtain ⟨ws_6, hu_5, hP, hD⟩ := x_gen h_3 hP hD
  have h_7 : ws_6[k]? = some (ad k, .inr (2, [.ref (ad (k + 1)), .int 0, .int 0])) := hu_5.1
  have h_8 := (hu_5.2 (k + 1) (by omega)).trans h_4
  exact x_vret hx hb hr hlk hK hP hD hS dR_clear_10 ⟨(fun j a1 a2 => ((hu_5.2 j a1).trans (hu_1.2 j a1))), _, h_7, h_8, fun i h => absurd h (Nat.not_lt_zero i), fun i _ => b_0 i, List.nodup_nil, fun _ h => absurd h List.not_mem_nil⟩

set_option maxHeartbeats 4000000 in
set_option maxRecDepth 100000 in
/-- Row.size() -/
theorem cR_size (l : Launch) (D : va_G) (tys : List (ClassId × FieldType)) (A : Nat → Prop) (ws : va_W) (cI : ClassId) (hI : tys[0]? = some (cI, .int)) (ad : Nat → Nat) (k : Nat) (L : List Nat) (h : RowAt cI ad ws k L) : x_Mi l yR_size wR_size (xR 0) D xCl tys A [.ref (ad k)] ws (fun r ws1 => r = nI L.length ∧ ws = ws1) := by
  obtain ⟨f, mk, h0, h1, hf, hm, hn, hlt⟩ := h
  refine x_enter (by decide) rfl (Nat.le_of_ble_eq_true rfl) (fun p e s m args below meth c ls hx hb hr hlk hml hown hnm hts hK hP hD hS hA hN hl => ?_)
  have hl : lv_has ls 1 [(0, .ref (ad k))] := hl
  refine lv_aload_n hx hb dR_size_0 rfl (lv_at hl 0 rfl) ?_
  refine va_get (D := D) (cl := xCl) (ci := 2) (v := .int (nI L.length)) (C := rnR) (T := tbR) (N := 3) hx hb hts inR hown hK hP k h0 rfl 1 (by decide) (hts _ tw_127) (fun _ h9 => h9) rfl dR_size_1 ?_
  exact x_iret hx hb hr hlk hK hP hD hS dR_size_4 ⟨rfl, rfl⟩

set_option maxHeartbeats 4000000 in
set_option maxRecDepth 100000 in
/-- Row.mask() -/
theorem cR_mask (l : Launch) (D : va_G) (tys : List (ClassId × FieldType)) (A : Nat → Prop) (ws : va_W) (cI : ClassId) (hI : tys[0]? = some (cI, .int)) (ad : Nat → Nat) (k : Nat) (L : List Nat) (h : RowAt cI ad ws k L) : x_Mi l yR_mask wR_mask (xR 0) D xCl tys A [.ref (ad k)] ws (fun r ws1 => (∀ i, i < 32 → bt r i = decide (i ∈ L)) ∧ ws = ws1) := by
  obtain ⟨f, mk, h0, h1, hf, hm, hn, hlt⟩ := h
  refine x_enter (by decide) rfl (Nat.le_of_ble_eq_true rfl) (fun p e s m args below meth c ls hx hb hr hlk hml hown hnm hts hK hP hD hS hA hN hl => ?_)
  have hl : lv_has ls 1 [(0, .ref (ad k))] := hl
  refine lv_aload_n hx hb dR_mask_0 rfl (lv_at hl 0 rfl) ?_
  refine va_get (D := D) (cl := xCl) (ci := 2) (v := .int mk) (C := rnR) (T := tbR) (N := 3) hx hb hts inR hown hK hP k h0 rfl 2 (by decide) (hts _ tw_128) (fun _ h9 => h9) rfl dR_mask_1 ?_
  exact x_iret hx hb hr hlk hK hP hD hS dR_mask_4 ⟨hm, rfl⟩

/-- the i-th of a list, -1 where there is none -/
def atI (L : List Nat) (i : Int32) : Int32 := if 0 ≤ i.toInt ∧ i.toInt < L.length then nI (L.getD i.toInt.toNat 0) else -1
theorem atI_neg {L : List Nat} {i : Int32} (h : i < 0) : atI L i = -1 := by
  rw [i32_lt, i32_0] at h
  unfold atI
  rw [if_neg (by omega)]
theorem atI_big {L : List Nat} {i : Int32} (hL : L.length < 2 ^ 31) (h : nI L.length ≤ i) : atI L i = -1 := by
  rw [i32_le, nI_toInt hL] at h
  unfold atI
  rw [if_neg (by omega)]
theorem atI_nI {L : List Nat} {i : Nat} (h : i < L.length) (hL : L.length < 2 ^ 31) : atI L (nI i) = nI L[i] := by
  unfold atI
  rw [nI_toInt (by omega), if_pos ⟨by omega, by omega⟩]
  simp [h]
theorem ix_of {i : Int32} {n : Nat} (hn : n < 2 ^ 31) (h1 : ¬ i < 0) (h2 : ¬ nI n ≤ i) : ∃ j : Nat, j < n ∧ i = nI j := by
  obtain ⟨j, hj, rfl⟩ := nI_of h1
  refine ⟨j, ?_, rfl⟩
  rw [i32_le, nI_toInt hn, nI_toInt hj] at h2
  omega

set_option maxHeartbeats 4000000 in
set_option maxRecDepth 100000 in
/-- Row.at(i) -/
theorem cR_at (l : Launch) (D : va_G) (tys : List (ClassId × FieldType)) (A : Nat → Prop) (ws : va_W) (cI : ClassId) (hI : tys[0]? = some (cI, .int)) (ad : Nat → Nat) (k : Nat) (L : List Nat) (i : Int32) (h : RowAt cI ad ws k L) : x_Mi l yR_at wR_at (xR 0) D xCl tys A [.ref (ad k), .int i] ws (fun r ws1 => r = atI L i ∧ ws = ws1) := by
  have hle := h.le
  obtain ⟨f, mk, h0, h1, hf, hm, hn, hlt⟩ := h
  refine x_enter (by decide) rfl (Nat.le_of_ble_eq_true rfl) (fun p e s m args below meth c ls hx hb hr hlk hml hown hnm hts hK hP hD hS hA hN hl => ?_)
  have hl : lv_has ls 2 [(0, .ref (ad k)), (1, .int i)] := hl
  refine lv_iload_n hx hb dR_at_0 rfl (lv_at hl 1 rfl) ?_
  refine lv_if_lt (tgt := 21) hx hb dR_at_1 (by decide) (fun c1 => ?_) (fun c1 => ?_)
  · refine lv_iconst (v := (-1)) hx hb dR_at_21 (by decide) ?_
    exact x_iret hx hb hr hlk hK hP hD hS dR_at_22 ⟨(atI_neg c1).symm, rfl⟩
  · refine lv_iload_n hx hb dR_at_4 rfl (lv_at hl 1 rfl) ?_
    refine lv_aload_n hx hb dR_at_5 rfl (lv_at hl 0 rfl) ?_
    refine va_get (D := D) (cl := xCl) (ci := 2) (v := .int (nI L.length)) (C := rnR) (T := tbR) (N := 3) hx hb hts inR hown hK hP k h0 rfl 1 (by decide) (hts _ tw_127) (fun _ h9 => h9) rfl dR_at_6 ?_
    refine lv_icmp_ge (tgt := 21) hx hb dR_at_9 (by decide) (fun c9 => ?_) (fun c9 => ?_)
    · refine lv_iconst (v := (-1)) hx hb dR_at_21 (by decide) ?_
      exact x_iret hx hb hr hlk hK hP hD hS dR_at_22 ⟨(atI_big (by have := hle; omega) c9).symm, rfl⟩
    · obtain ⟨j, hj, ej⟩ := ix_of (by omega) c1 c9
      refine lv_aload_n hx hb dR_at_12 rfl (lv_at hl 0 rfl) ?_
      refine va_get (D := D) (cl := xCl) (ci := 2) (v := .ref (ad (k + 1))) (C := rnR) (T := tbR) (N := 3) hx hb hts inR hown hK hP k h0 rfl 0 (by decide) (hts _ tw_126) (fun _ h9 => h9) rfl dR_at_13 ?_
      refine lv_iload_n hx hb dR_at_16 rfl (lv_at hl 1 rfl) ?_
      refine va_iald hx hb hK hP (k + 1) 0 h1 hI (by rw [ej]; exact vp_in_nI (by omega) (by omega)) dR_at_17 ?_
      refine lv_goto (tgt := 22) hx hb dR_at_18 (by decide) ?_
      exact x_iret hx hb hr hlk hK hP hD hS dR_at_22 ⟨by rw [ej, atI_nI hj (by omega), nI_clamp (by omega)]; exact hf j hj, rfl⟩

theorem isIn_mem {mk : Int32} {L : List Nat} (hm : ∀ i, i < 32 → bt mk i = decide (i ∈ L)) {t : Nat} (ht : t < 30) : isInB mk (nI t) = decide (t ∈ L) := by
  rw [isIn_nI mk ht, hm t (by omega)]
/-- is t one of the list -/
def hasI (L : List Nat) (t : Int32) : Bool := decide (0 ≤ t.toInt) && decide (t.toInt < 30) && decide (t.toInt.toNat ∈ L)
theorem hasI_mk {mk : Int32} {L : List Nat} (hm : ∀ i, i < 32 → bt mk i = decide (i ∈ L)) (t : Int32) : isInB mk t = hasI L t := by
  unfold isInB hasI
  by_cases h : 0 ≤ t.toInt ∧ t.toInt < 30
  · rw [hm _ (by omega)]
  · by_cases h0 : 0 ≤ t.toInt
    · rw [decide_eq_false (p := t.toInt < 30) (by omega)]; cases decide (0 ≤ t.toInt) <;> rfl
    · rw [decide_eq_false h0]; rfl
theorem hasI_nI (L : List Nat) {t : Nat} (ht : t < 30) : hasI L (nI t) = decide (t ∈ L) := by
  unfold hasI
  rw [nI_toInt (by omega), decide_eq_true (by omega), decide_eq_true (by omega)]
  simp

set_option maxHeartbeats 4000000 in
set_option maxRecDepth 100000 in
/-- Row.has(t) -/
theorem cR_has (l : Launch) (D : va_G) (tys : List (ClassId × FieldType)) (A : Nat → Prop) (ws : va_W) (cI : ClassId) (hI : tys[0]? = some (cI, .int)) (ad : Nat → Nat) (k : Nat) (L : List Nat) (t : Int32) (h : RowAt cI ad ws k L) : x_Mi l yR_has wR_has (xR 1) D xCl tys A [.ref (ad k), .int t] ws (fun r ws1 => r = b2i (hasI L t) ∧ ws = ws1) := by
  obtain ⟨f, mk, h0, h1, hf, hm, hn, hlt⟩ := h
  refine x_enter (by decide) rfl (Nat.le_of_ble_eq_true rfl) (fun p e s m args below meth c ls hx hb hr hlk hml hown hnm hts hK hP hD hS hA hN hl => ?_)
  have hl : lv_has ls 2 [(0, .ref (ad k)), (1, .int t)] := hl
  refine lv_aload_n hx hb dR_has_0 rfl (lv_at hl 0 rfl) ?_
  refine va_get (D := D) (cl := xCl) (ci := 2) (v := .int mk) (C := rnR) (T := tbR) (N := 3) hx hb hts inR hown hK hP k h0 rfl 2 (by decide) (hts _ tw_128) (fun _ h9 => h9) rfl dR_has_1 ?_
  refine lv_iload_n hx hb dR_has_4 rfl (lv_at hl 1 rfl) ?_
  refine x_calli (x_runSN (n := 2) (As := [.int mk, .int t]) (rest := []) ⟨hx, hb, hml, hown, hts⟩ (cQ_isIn l D tys A ws mk t) (xN_454 hN) tw_190 tw_1 tw_191 (by decide +kernel) rfl rfl ⟨by decide, by decide⟩ ⟨Nat.zero_le _, Nat.zero_le _⟩ hK hP hD hS hA hN rfl hl.1 rfl (lv_room (Nat.le_of_ble_eq_true rfl)) dR_has_5) hS (fun r_2 ws_1 H locs hr1 hP hD hS => ?_)
  obtain ⟨hr1, rfl⟩ := hr1
  exact x_zret hx hb hr (by rw [hr1]; exact b2i_nar _) hlk hK hP hD hS dR_has_8 ⟨by rw [hr1, hasI_mk hm], rfl⟩

theorem RowAt.push {cI : ClassId} {ad : Nat → Nat} {ws : va_W} {k : Nat} {L : List Nat} {f f1 : Nat → Int32} {n1 mk mk1 t : Int32} {j : Nat} (h0 : ws[k]? = some (ad k, .inr (2, [.ref (ad (k + 1)), .int n1, .int mk1]))) (h1 : ws[k + 1]? = some (ad (k + 1), .inl (cI, 30, .inl f1)))
    (en : n1 = nI L.length + 1) (ef : f1 = upd f (nI L.length).toNatClampNeg t) (em : mk1 = mk ||| ((1 : Int32) <<< (t &&& 31))) (et : t = nI j) (hj : j < 30) (hjL : j ∉ L) (hf : ∀ (i : Nat) (h : i < L.length), f i = nI L[i]) (hm : ∀ i, i < 32 → bt mk i = decide (i ∈ L)) (hn : L.Nodup) (hlt : ∀ t ∈ L, t < 30) : ∃ f9, RowF cI ad ws k (addI L t) f9 ∧ ∀ i, i ≠ L.length → f9 i = f i := by
  have hle := nodup_len 30 L hn hlt
  subst et
  rw [addI_nI L hj, if_neg hjL]
  have e1 : n1 = nI (L ++ [j]).length := by rw [en, nI_1, List.length_append]; rfl
  subst e1 ef em
  refine ⟨_, ⟨_, h0, h1, ?_, ?_, ?_, ?_⟩, fun i hi => by rw [nI_clamp (by omega)]; exact if_neg hi⟩
  · intro i h
    rw [nI_clamp (by omega)]
    unfold upd
    by_cases e : i = L.length
    · rw [if_pos e]; subst e; simp
    · rw [if_neg e]
      have hi : i < L.length := by
        have : i < (L ++ [j]).length := h
        rw [List.length_append] at this
        simp only [List.length_singleton] at this
        omega
      rw [List.getElem_append_left hi]
      exact hf i hi
  · intro i hi
    rw [b_or, hm i hi, b_sh1 (by omega) hi]
    simp only [List.mem_append, List.mem_singleton]
    by_cases a : i ∈ L <;> by_cases b : i = j <;> simp [a, b]
  · rw [List.nodup_append]
    exact ⟨hn, by simp, fun a ha b hb => by
      rw [List.mem_singleton] at hb
      subst hb
      intro e
      subst e
      exact hjL ha⟩
  · intro t ht
    rcases List.mem_append.mp ht with h | h
    · exact hlt t h
    · rw [List.mem_singleton] at h
      omega

set_option maxHeartbeats 4000000 in
set_option maxRecDepth 100000 in
/-- Row.add(t) -/
theorem cR_add (l : Launch) (D : va_G) (tys : List (ClassId × FieldType)) (A : Nat → Prop) (ws : va_W) (cI : ClassId) (hI : tys[0]? = some (cI, .int)) (ad : Nat → Nat) (k : Nat) (L : List Nat) (t : Int32) (f : Nat → Int32) (h : RowF cI ad ws k L f) : x_Mv l yR_add wR_add (xR 1) D xCl tys A [.ref (ad k), .int t] ws (fun ws1 => x_two k ws ws1 ∧ ∃ f9, RowF cI ad ws1 k (addI L t) f9 ∧ ∀ i, i ≠ L.length → f9 i = f i) := by
  obtain ⟨mk, h0, h1, hf, hm, hn, hlt⟩ := h
  refine x_enter (by decide) rfl (Nat.le_of_ble_eq_true rfl) (fun p e s m args below meth c ls hx hb hr hlk hml hown hnm hts hK hP hD hS hA hN hl => ?_)
  have hl : lv_has ls 2 [(0, .ref (ad k)), (1, .int t)] := hl
  refine lv_iload_n hx hb dR_add_0 rfl (lv_at hl 1 rfl) ?_
  refine lv_if_lt (tgt := 33) hx hb dR_add_1 (by decide) (fun c1 => ?_) (fun c1 => ?_)
  · exact x_vret hx hb hr hlk hK hP hD hS dR_add_33 ⟨x_two.rf, by rw [addI_neg c1]; exact ⟨f, ⟨mk, h0, h1, hf, hm, hn, hlt⟩, fun _ _ => rfl⟩⟩
  · refine lv_iload_n hx hb dR_add_4 rfl (lv_at hl 1 rfl) ?_
    refine lv_bipush (v := 30) hx hb dR_add_5 (by decide) ?_
    refine lv_icmp_ge (tgt := 33) hx hb dR_add_7 (by decide) (fun c7 => ?_) (fun c7 => ?_)
    · exact x_vret hx hb hr hlk hK hP hD hS dR_add_33 ⟨x_two.rf, by rw [addI_big c7]; exact ⟨f, ⟨mk, h0, h1, hf, hm, hn, hlt⟩, fun _ _ => rfl⟩⟩
    · refine lv_aload_n hx hb dR_add_10 rfl (lv_at hl 0 rfl) ?_
      refine va_get (D := D) (cl := xCl) (ci := 2) (v := .int mk) (C := rnR) (T := tbR) (N := 3) hx hb hts inR hown hK hP k h0 rfl 2 (by decide) (hts _ tw_128) (fun _ h9 => h9) rfl dR_add_11 ?_
      refine lv_iload_n hx hb dR_add_14 rfl (lv_at hl 1 rfl) ?_
      refine x_calli (x_runSN (n := 2) (As := [.int mk, .int t]) (rest := []) ⟨hx, hb, hml, hown, hts⟩ (cQ_isIn l D tys A ws mk t) (xN_454 hN) tw_190 tw_1 tw_191 (by decide +kernel) rfl rfl ⟨by decide, by decide⟩ ⟨Nat.zero_le _, Nat.zero_le _⟩ hK hP hD hS hA hN rfl hl.1 rfl (lv_room (Nat.le_of_ble_eq_true rfl)) dR_add_15) hS (fun r_2 ws_1 H locs hr1 hP hD hS => ?_)
      obtain ⟨hr1, rfl⟩ := hr1
      refine lv_if_ne (tgt := 33) hx hb dR_add_18 (by decide) (fun c18 => ?_) (fun c18 => ?_)
      · exact x_vret hx hb hr hlk hK hP hD hS dR_add_33 ⟨x_two.rf, by obtain ⟨j, hj, et⟩ := i30_of c1 c7; rw [hr1, et, isIn_nI mk hj, hm j (by omega), b2i_n0, decide_eq_true_eq] at c18; rw [et, addI_nI L hj, if_pos c18]; exact ⟨f, ⟨mk, h0, h1, hf, hm, hn, hlt⟩, fun _ _ => rfl⟩⟩
      · obtain ⟨j, hj, et⟩ := i30_of c1 c7
        have hjL : j ∉ L := fun hh => by rw [hr1, et, isIn_nI mk hj, hm j (by omega), decide_eq_true hh] at c18; exact absurd c18 (by decide)
        have hll : L.length < 30 := by have := nodup_len 30 (L ++ [j]) (List.nodup_append.mpr ⟨hn, by simp, fun a ha b hb e => hjL (by rw [List.mem_singleton] at hb; rw [← hb, ← e]; exact ha)⟩) (fun t ht => by rcases List.mem_append.mp ht with h | h; exact hlt t h; rw [List.mem_singleton] at h; omega); rw [List.length_append] at this; simp only [List.length_singleton] at this; omega
        refine lv_aload_n hx hb dR_add_21 rfl (lv_at hl 0 rfl) ?_
        refine va_get (D := D) (cl := xCl) (ci := 2) (v := .int (nI L.length)) (C := rnR) (T := tbR) (N := 3) hx hb hts inR hown hK hP k h0 rfl 1 (by decide) (hts _ tw_127) (fun _ h9 => h9) rfl dR_add_22 ?_
        refine lv_aload_n hx hb dR_add_25 rfl (lv_at hl 0 rfl) ?_
        refine va_get (D := D) (cl := xCl) (ci := 2) (v := .ref (ad (k + 1))) (C := rnR) (T := tbR) (N := 3) hx hb hts inR hown hK hP k h0 rfl 0 (by decide) (hts _ tw_126) (fun _ h9 => h9) rfl dR_add_26 ?_
        refine va_alen (v := 30) hx hb hK hP (k + 1) 0 h1 hI (by rfl) dR_add_29 ?_
        refine lv_icmp_lt (tgt := 34) hx hb dR_add_30 (by decide) (fun c30 => ?_) (fun c30 => ?_)
        · refine lv_aload_n hx hb dR_add_34 rfl (lv_at hl 0 rfl) ?_
          refine va_get (D := D) (cl := xCl) (ci := 2) (v := .ref (ad (k + 1))) (C := rnR) (T := tbR) (N := 3) hx hb hts inR hown hK hP k h0 rfl 0 (by decide) (hts _ tw_126) (fun _ h9 => h9) rfl dR_add_35 ?_
          refine lv_aload_n hx hb dR_add_38 rfl (lv_at hl 0 rfl) ?_
          refine va_get (D := D) (cl := xCl) (ci := 2) (v := .int (nI L.length)) (C := rnR) (T := tbR) (N := 3) hx hb hts inR hown hK hP k h0 rfl 1 (by decide) (hts _ tw_127) (fun _ h9 => h9) rfl dR_add_39 ?_
          refine lv_iload_n hx hb dR_add_42 rfl (lv_at hl 1 rfl) ?_
          refine va_iast hx hb hK hP hD hS (k + 1) 0 h1 hI (vp_in_nI hll (by omega)) dR_add_43 (fun H locs hP hD hS => ?_)
          obtain ⟨ws_4, hu_3, hP, hD⟩ := x_gen h1 hP hD
          have h_5 : ws_4[k + 1]? = some (ad (k + 1), .inl (cI, 30, .inl (upd f ((nI L.length)).toNatClampNeg t))) := hu_3.1
          have h_6 := (hu_3.2 k (by omega)).trans h0
          refine lv_aload_n hx hb dR_add_44 rfl (lv_at hl 0 rfl) ?_
          refine lv_dup hx hb dR_add_45 rfl ?_
          refine va_get (D := D) (cl := xCl) (ci := 2) (v := .int (nI L.length)) (C := rnR) (T := tbR) (N := 3) hx hb hts inR hown hK hP k h_6 rfl 1 (by decide) (hts _ tw_127) (fun _ h9 => h9) rfl dR_add_46 ?_
          refine lv_iconst (v := 1) hx hb dR_add_49 (by decide) ?_
          refine lv_iadd hx hb dR_add_50 ?_
          refine lv_topi (fun v_7 ev_7 => ?_)
          refine va_put (D := D) (cl := xCl) (ci := 2) (v := .int v_7) (ty := .int) (C := rnR) (T := tbR) (N := 3) hx hb hts inR tyR toR nmR hown hK hP hD hS k h_6 rfl 1 (by decide) (hts _ tw_127) (fun _ h9 => h9) rfl (by decide +kernel) rfl rfl (Nat.le_of_ble_eq_true rfl) dR_add_51 (fun H locs hP hD hS => ?_)
          obtain ⟨ws_9, hu_8, hP, hD⟩ := x_gen h_6 hP hD
          have h_10 : ws_9[k]? = some (ad k, .inr (2, [.ref (ad (k + 1)), .int v_7, .int mk])) := hu_8.1
          have h_11 := (hu_8.2 (k + 1) (by omega)).trans h_5
          refine lv_aload_n hx hb dR_add_54 rfl (lv_at hl 0 rfl) ?_
          refine lv_dup hx hb dR_add_55 rfl ?_
          refine va_get (D := D) (cl := xCl) (ci := 2) (v := .int mk) (C := rnR) (T := tbR) (N := 3) hx hb hts inR hown hK hP k h_10 rfl 2 (by decide) (hts _ tw_128) (fun _ h9 => h9) rfl dR_add_56 ?_
          refine lv_iconst (v := 1) hx hb dR_add_59 (by decide) ?_
          refine lv_iload_n hx hb dR_add_60 rfl (lv_at hl 1 rfl) ?_
          refine lv_ishl hx hb dR_add_61 ?_
          refine lv_topi (fun v_12 ev_12 => ?_)
          refine lv_ior hx hb dR_add_62 ?_
          refine lv_topi (fun v_13 ev_13 => ?_)
          refine va_put (D := D) (cl := xCl) (ci := 2) (v := .int v_13) (ty := .int) (C := rnR) (T := tbR) (N := 3) hx hb hts inR tyR toR nmR hown hK hP hD hS k h_10 rfl 2 (by decide) (hts _ tw_128) (fun _ h9 => h9) rfl (by decide +kernel) rfl rfl (Nat.le_of_ble_eq_true rfl) dR_add_63 (fun H locs hP hD hS => ?_)
          obtain ⟨ws_15, hu_14, hP, hD⟩ := x_gen h_10 hP hD
          have h_16 : ws_15[k]? = some (ad k, .inr (2, [.ref (ad (k + 1)), .int v_7, .int v_13])) := hu_14.1
          have h_17 := (hu_14.2 (k + 1) (by omega)).trans h_11
          exact x_vret hx hb hr hlk hK hP hD hS dR_add_66 ⟨(fun j a1 a2 => ((hu_14.2 j a1).trans ((hu_8.2 j a1).trans (hu_3.2 j a2)))), RowAt.push h_16 h_17 ev_7 rfl (by rw [ev_13, ev_12]) et hj hjL hf hm hn hlt⟩
        · exact absurd (nI_lt hll (by omega)) c30
