-- ===== Tape =====
/-- nothing changed but the cells from a up to b -/
def x_fr (a b : Nat) (ws ws1 : va_W) : Prop := ∀ j, (j < a ∨ b ≤ j) → ws1[j]? = ws[j]?
theorem x_fr.rf {a b : Nat} {ws : va_W} : x_fr a b ws ws := fun _ _ => rfl
theorem x_fr.tr {a b : Nat} {u v w : va_W} (h1 : x_fr a b u v) (h2 : x_fr a b v w) : x_fr a b u w := fun j h => (h2 j h).trans (h1 j h)
theorem x_fr.wd {a b c d : Nat} {u v : va_W} (h : x_fr a b u v) (h1 : c ≤ a) (h2 : b ≤ d) : x_fr c d u v := fun j hj => h j (by omega)
theorem x_two.fr {k : Nat} {u v : va_W} (h : x_two k u v) : x_fr k (k + 2) u v := fun j hj => h j (by omega) (by omega)
theorem x_fr.two {k : Nat} {u v : va_W} (h : x_fr k (k + 2) u v) : x_two k u v := fun j h1 h2 => h j (by omega)
theorem x_upd.fr {u v : va_W} {k a b : Nat} {q : Nat × va_E} (h : x_upd u k q v) (h1 : a ≤ k) (h2 : k < b) : x_fr a b u v := fun j hj => h.2 j (by omega)
abbrev Tok : Type := Int32 × Int32 × Int32
/-- the cells k .. k + 3 are a Tape with the rows P -/
def TapeAt (cI : ClassId) (ad : Nat → Nat) (ws : va_W) (k : Nat) (P : List Tok) : Prop :=
  ∃ (f g h : Nat → Int32), ws[k]? = some (ad k, .inr (4, [.ref (ad (k + 1)), .ref (ad (k + 2)), .ref (ad (k + 3)), .int (nI P.length)])) ∧ ws[k + 1]? = some (ad (k + 1), .inl (cI, 81, .inl f)) ∧ ws[k + 2]? = some (ad (k + 2), .inl (cI, 81, .inl g)) ∧ ws[k + 3]? = some (ad (k + 3), .inl (cI, 81, .inl h)) ∧
    P.length ≤ 81 ∧ ∀ (i : Nat) (hi : i < P.length), f i = P[i].1 ∧ g i = P[i].2.1 ∧ h i = P[i].2.2
theorem TapeAt.le {cI : ClassId} {ad : Nat → Nat} {ws : va_W} {k : Nat} {P : List Tok} (h : TapeAt cI ad ws k P) : P.length ≤ 81 := by
  obtain ⟨f, g, h, -, -, -, -, h1, -⟩ := h
  exact h1
theorem TapeAt.obj {cI : ClassId} {ad : Nat → Nat} {ws : va_W} {k : Nat} {P : List Tok} (h : TapeAt cI ad ws k P) : ∃ fs, ws[k]? = some (ad k, .inr (4, fs)) := by
  obtain ⟨f, g, h, h0, -⟩ := h
  exact ⟨_, h0⟩
theorem TapeAt.keep {cI : ClassId} {ad : Nat → Nat} {ws ws1 : va_W} {k a b : Nat} {P : List Tok} (h : TapeAt cI ad ws k P) (hf : x_fr a b ws ws1) (hd : k + 4 ≤ a ∨ b ≤ k) : TapeAt cI ad ws1 k P := by
  obtain ⟨f, g, h, h0, h1, h2, h3, r⟩ := h
  exact ⟨f, g, h, (hf _ (by omega)).trans h0, (hf _ (by omega)).trans h1, (hf _ (by omega)).trans h2, (hf _ (by omega)).trans h3, r⟩
theorem RowAt.keepF {cI : ClassId} {ad : Nat → Nat} {ws ws1 : va_W} {k a b : Nat} {L : List Nat} (h : RowAt cI ad ws k L) (hf : x_fr a b ws ws1) (hd : k + 2 ≤ a ∨ b ≤ k) : RowAt cI ad ws1 k L := by
  obtain ⟨f, mk, h0, h1, r⟩ := h
  exact ⟨f, mk, (hf _ (by omega)).trans h0, (hf _ (by omega)).trans h1, r⟩
/-- the i-th row of a tape, zeros where there is none -/
def tpE (P : List Tok) (i : Int32) : Tok := if 0 ≤ i.toInt then P.getD i.toInt.toNat (0, 0, 0) else (0, 0, 0)
theorem tpE_neg {P : List Tok} {i : Int32} (h : i < 0) : tpE P i = (0, 0, 0) := by
  rw [i32_lt, i32_0] at h
  exact if_neg (by omega)
theorem tpE_big {P : List Tok} {i : Int32} (hP : P.length ≤ 81) (h : nI P.length ≤ i) : tpE P i = (0, 0, 0) := by
  rw [i32_le, nI_toInt (by omega)] at h
  unfold tpE
  rw [if_pos (by omega), List.getD_eq_getElem?_getD, List.getElem?_eq_none (by omega)]; rfl
theorem tpE_nI {P : List Tok} {i : Nat} (hP : P.length ≤ 81) (h : i < P.length) : tpE P (nI i) = P[i] := by
  unfold tpE
  rw [nI_toInt (by omega), if_pos (by omega)]
  simp [h]
theorem tpE_n (P : List Tok) {i : Nat} (hi : i < 2 ^ 31) : tpE P (nI i) = P.getD i (0, 0, 0) := by
  unfold tpE
  rw [nI_toInt hi, if_pos (by omega)]; simp
/-- a row more, where there is room -/
def tpA (P : List Tok) (q : Tok) : List Tok := if P.length < 81 then P ++ [q] else P

set_option maxHeartbeats 4000000 in
set_option maxRecDepth 100000 in
/-- Tape.clear() -/
theorem cT_clear (l : Launch) (D : va_G) (tys : List (ClassId × FieldType)) (A : Nat → Prop) (ws : va_W) (cI : ClassId) (hI : tys[0]? = some (cI, .int)) (ad : Nat → Nat) (k : Nat) (P : List Tok) (hT : TapeAt cI ad ws k P) : x_Mv l yT_clear wT_clear (xR 0) D xCl tys A [.ref (ad k)] ws (fun ws1 => x_fr k (k + 4) ws ws1 ∧ TapeAt cI ad ws1 k []) := by
  obtain ⟨f, g, h, h0, h1, h2, h3, hle, hf⟩ := hT
  refine x_enter (by decide) rfl (Nat.le_of_ble_eq_true rfl) (fun p e s m args below meth c ls hx hb hr hlk hml hown hnm hts hK hP hD hS hA hN hl => ?_)
  have hl : lv_has ls 1 [(0, .ref (ad k))] := hl
  refine lv_aload_n hx hb dT_clear_0 rfl (lv_at hl 0 rfl) ?_
  refine lv_iconst (v := 0) hx hb dT_clear_1 (by decide) ?_
  refine va_put (D := D) (cl := xCl) (ci := 4) (v := .int 0) (ty := .int) (C := rnT) (T := tbT) (N := 4) hx hb hts inT tyT toT nmT hown hK hP hD hS k h0 rfl 3 (by decide) (hts _ tw_87) (fun _ h9 => h9) rfl (by decide +kernel) rfl rfl (Nat.le_of_ble_eq_true rfl) dT_clear_2 (fun H locs hP hD hS => ?_)
  obtain ⟨ws_2, hu_1, hP, hD⟩ := x_gen h0 hP hD
  have h_3 : ws_2[k]? = some (ad k, .inr (4, [.ref (ad (k + 1)), .ref (ad (k + 2)), .ref (ad (k + 3)), .int 0])) := hu_1.1
  have h_4 := (hu_1.2 (k + 1) (by omega)).trans h1
  have h_5 := (hu_1.2 (k + 2) (by omega)).trans h2
  have h_6 := (hu_1.2 (k + 3) (by omega)).trans h3
  exact x_vret hx hb hr hlk hK hP hD hS dT_clear_5 ⟨(hu_1.fr (a := k) (b := k + 4) (by omega) (by omega)), f, g, h, h_3, h_4, h_5, h_6, Nat.zero_le _, fun i hi => absurd hi (Nat.not_lt_zero i)⟩

set_option maxHeartbeats 4000000 in
set_option maxRecDepth 100000 in
/-- Tape.size() -/
theorem cT_size (l : Launch) (D : va_G) (tys : List (ClassId × FieldType)) (A : Nat → Prop) (ws : va_W) (cI : ClassId) (hI : tys[0]? = some (cI, .int)) (ad : Nat → Nat) (k : Nat) (P : List Tok) (hT : TapeAt cI ad ws k P) : x_Mi l yT_size wT_size (xR 0) D xCl tys A [.ref (ad k)] ws (fun r ws1 => r = nI P.length ∧ ws = ws1) := by
  obtain ⟨f, g, h, h0, h1, h2, h3, hle, hf⟩ := hT
  refine x_enter (by decide) rfl (Nat.le_of_ble_eq_true rfl) (fun p e s m args below meth c ls hx hb hr hlk hml hown hnm hts hK hP hD hS hA hN hl => ?_)
  have hl : lv_has ls 1 [(0, .ref (ad k))] := hl
  refine lv_aload_n hx hb dT_size_0 rfl (lv_at hl 0 rfl) ?_
  refine va_get (D := D) (cl := xCl) (ci := 4) (v := .int (nI P.length)) (C := rnT) (T := tbT) (N := 4) hx hb hts inT hown hK hP k h0 rfl 3 (by decide) (hts _ tw_87) (fun _ h9 => h9) rfl dT_size_1 ?_
  exact x_iret hx hb hr hlk hK hP hD hS dT_size_4 ⟨rfl, rfl⟩

set_option maxHeartbeats 4000000 in
set_option maxRecDepth 100000 in
/-- Tape.kindAt(i) -/
theorem cT_kindAt (l : Launch) (D : va_G) (tys : List (ClassId × FieldType)) (A : Nat → Prop) (ws : va_W) (cI : ClassId) (hI : tys[0]? = some (cI, .int)) (ad : Nat → Nat) (k : Nat) (P : List Tok) (i : Int32) (hT : TapeAt cI ad ws k P) : x_Mi l yT_kindAt wT_kindAt (xR 0) D xCl tys A [.ref (ad k), .int i] ws (fun r ws1 => r = (tpE P i).1 ∧ ws = ws1) := by
  obtain ⟨f, g, h, h0, h1, h2, h3, hle, hf⟩ := hT
  refine x_enter (by decide) rfl (Nat.le_of_ble_eq_true rfl) (fun p e s m args below meth c ls hx hb hr hlk hml hown hnm hts hK hP hD hS hA hN hl => ?_)
  have hl : lv_has ls 2 [(0, .ref (ad k)), (1, .int i)] := hl
  refine lv_iload_n hx hb dT_kindAt_0 rfl (lv_at hl 1 rfl) ?_
  refine lv_if_lt (tgt := 21) hx hb dT_kindAt_1 (by decide) (fun c1 => ?_) (fun c1 => ?_)
  · refine lv_iconst (v := 0) hx hb dT_kindAt_21 (by decide) ?_
    exact x_iret hx hb hr hlk hK hP hD hS dT_kindAt_22 ⟨by rw [tpE_neg c1], rfl⟩
  · refine lv_iload_n hx hb dT_kindAt_4 rfl (lv_at hl 1 rfl) ?_
    refine lv_aload_n hx hb dT_kindAt_5 rfl (lv_at hl 0 rfl) ?_
    refine va_get (D := D) (cl := xCl) (ci := 4) (v := .int (nI P.length)) (C := rnT) (T := tbT) (N := 4) hx hb hts inT hown hK hP k h0 rfl 3 (by decide) (hts _ tw_87) (fun _ h9 => h9) rfl dT_kindAt_6 ?_
    refine lv_icmp_ge (tgt := 21) hx hb dT_kindAt_9 (by decide) (fun c9 => ?_) (fun c9 => ?_)
    · refine lv_iconst (v := 0) hx hb dT_kindAt_21 (by decide) ?_
      exact x_iret hx hb hr hlk hK hP hD hS dT_kindAt_22 ⟨by rw [tpE_big hle c9], rfl⟩
    · obtain ⟨j, hj, ej⟩ := ix_of (by omega) c1 c9
      refine lv_aload_n hx hb dT_kindAt_12 rfl (lv_at hl 0 rfl) ?_
      refine va_get (D := D) (cl := xCl) (ci := 4) (v := .ref (ad (k + 1))) (C := rnT) (T := tbT) (N := 4) hx hb hts inT hown hK hP k h0 rfl 0 (by decide) (hts _ tw_84) (fun _ h9 => h9) rfl dT_kindAt_13 ?_
      refine lv_iload_n hx hb dT_kindAt_16 rfl (lv_at hl 1 rfl) ?_
      refine va_iald hx hb hK hP (k + 1) 0 h1 hI (by rw [ej]; exact vp_in_nI (by omega) (by omega)) dT_kindAt_17 ?_
      refine lv_goto (tgt := 22) hx hb dT_kindAt_18 (by decide) ?_
      exact x_iret hx hb hr hlk hK hP hD hS dT_kindAt_22 ⟨by rw [ej, tpE_nI hle hj, nI_clamp (by omega)]; exact (hf j hj).1, rfl⟩

set_option maxHeartbeats 4000000 in
set_option maxRecDepth 100000 in
/-- Tape.valueAt(i) -/
theorem cT_valueAt (l : Launch) (D : va_G) (tys : List (ClassId × FieldType)) (A : Nat → Prop) (ws : va_W) (cI : ClassId) (hI : tys[0]? = some (cI, .int)) (ad : Nat → Nat) (k : Nat) (P : List Tok) (i : Int32) (hT : TapeAt cI ad ws k P) : x_Mi l yT_valueAt wT_valueAt (xR 0) D xCl tys A [.ref (ad k), .int i] ws (fun r ws1 => r = (tpE P i).2.1 ∧ ws = ws1) := by
  obtain ⟨f, g, h, h0, h1, h2, h3, hle, hf⟩ := hT
  refine x_enter (by decide) rfl (Nat.le_of_ble_eq_true rfl) (fun p e s m args below meth c ls hx hb hr hlk hml hown hnm hts hK hP hD hS hA hN hl => ?_)
  have hl : lv_has ls 2 [(0, .ref (ad k)), (1, .int i)] := hl
  refine lv_iload_n hx hb dT_valueAt_0 rfl (lv_at hl 1 rfl) ?_
  refine lv_if_lt (tgt := 21) hx hb dT_valueAt_1 (by decide) (fun c1 => ?_) (fun c1 => ?_)
  · refine lv_iconst (v := 0) hx hb dT_valueAt_21 (by decide) ?_
    exact x_iret hx hb hr hlk hK hP hD hS dT_valueAt_22 ⟨by rw [tpE_neg c1], rfl⟩
  · refine lv_iload_n hx hb dT_valueAt_4 rfl (lv_at hl 1 rfl) ?_
    refine lv_aload_n hx hb dT_valueAt_5 rfl (lv_at hl 0 rfl) ?_
    refine va_get (D := D) (cl := xCl) (ci := 4) (v := .int (nI P.length)) (C := rnT) (T := tbT) (N := 4) hx hb hts inT hown hK hP k h0 rfl 3 (by decide) (hts _ tw_87) (fun _ h9 => h9) rfl dT_valueAt_6 ?_
    refine lv_icmp_ge (tgt := 21) hx hb dT_valueAt_9 (by decide) (fun c9 => ?_) (fun c9 => ?_)
    · refine lv_iconst (v := 0) hx hb dT_valueAt_21 (by decide) ?_
      exact x_iret hx hb hr hlk hK hP hD hS dT_valueAt_22 ⟨by rw [tpE_big hle c9], rfl⟩
    · obtain ⟨j, hj, ej⟩ := ix_of (by omega) c1 c9
      refine lv_aload_n hx hb dT_valueAt_12 rfl (lv_at hl 0 rfl) ?_
      refine va_get (D := D) (cl := xCl) (ci := 4) (v := .ref (ad (k + 2))) (C := rnT) (T := tbT) (N := 4) hx hb hts inT hown hK hP k h0 rfl 1 (by decide) (hts _ tw_85) (fun _ h9 => h9) rfl dT_valueAt_13 ?_
      refine lv_iload_n hx hb dT_valueAt_16 rfl (lv_at hl 1 rfl) ?_
      refine va_iald hx hb hK hP (k + 2) 0 h2 hI (by rw [ej]; exact vp_in_nI (by omega) (by omega)) dT_valueAt_17 ?_
      refine lv_goto (tgt := 22) hx hb dT_valueAt_18 (by decide) ?_
      exact x_iret hx hb hr hlk hK hP hD hS dT_valueAt_22 ⟨by rw [ej, tpE_nI hle hj, nI_clamp (by omega)]; exact (hf j hj).2.1, rfl⟩

set_option maxHeartbeats 4000000 in
set_option maxRecDepth 100000 in
/-- Tape.placeAt(i) -/
theorem cT_placeAt (l : Launch) (D : va_G) (tys : List (ClassId × FieldType)) (A : Nat → Prop) (ws : va_W) (cI : ClassId) (hI : tys[0]? = some (cI, .int)) (ad : Nat → Nat) (k : Nat) (P : List Tok) (i : Int32) (hT : TapeAt cI ad ws k P) : x_Mi l yT_placeAt wT_placeAt (xR 0) D xCl tys A [.ref (ad k), .int i] ws (fun r ws1 => r = (tpE P i).2.2 ∧ ws = ws1) := by
  obtain ⟨f, g, h, h0, h1, h2, h3, hle, hf⟩ := hT
  refine x_enter (by decide) rfl (Nat.le_of_ble_eq_true rfl) (fun p e s m args below meth c ls hx hb hr hlk hml hown hnm hts hK hP hD hS hA hN hl => ?_)
  have hl : lv_has ls 2 [(0, .ref (ad k)), (1, .int i)] := hl
  refine lv_iload_n hx hb dT_placeAt_0 rfl (lv_at hl 1 rfl) ?_
  refine lv_if_lt (tgt := 21) hx hb dT_placeAt_1 (by decide) (fun c1 => ?_) (fun c1 => ?_)
  · refine lv_iconst (v := 0) hx hb dT_placeAt_21 (by decide) ?_
    exact x_iret hx hb hr hlk hK hP hD hS dT_placeAt_22 ⟨by rw [tpE_neg c1], rfl⟩
  · refine lv_iload_n hx hb dT_placeAt_4 rfl (lv_at hl 1 rfl) ?_
    refine lv_aload_n hx hb dT_placeAt_5 rfl (lv_at hl 0 rfl) ?_
    refine va_get (D := D) (cl := xCl) (ci := 4) (v := .int (nI P.length)) (C := rnT) (T := tbT) (N := 4) hx hb hts inT hown hK hP k h0 rfl 3 (by decide) (hts _ tw_87) (fun _ h9 => h9) rfl dT_placeAt_6 ?_
    refine lv_icmp_ge (tgt := 21) hx hb dT_placeAt_9 (by decide) (fun c9 => ?_) (fun c9 => ?_)
    · refine lv_iconst (v := 0) hx hb dT_placeAt_21 (by decide) ?_
      exact x_iret hx hb hr hlk hK hP hD hS dT_placeAt_22 ⟨by rw [tpE_big hle c9], rfl⟩
    · obtain ⟨j, hj, ej⟩ := ix_of (by omega) c1 c9
      refine lv_aload_n hx hb dT_placeAt_12 rfl (lv_at hl 0 rfl) ?_
      refine va_get (D := D) (cl := xCl) (ci := 4) (v := .ref (ad (k + 3))) (C := rnT) (T := tbT) (N := 4) hx hb hts inT hown hK hP k h0 rfl 2 (by decide) (hts _ tw_86) (fun _ h9 => h9) rfl dT_placeAt_13 ?_
      refine lv_iload_n hx hb dT_placeAt_16 rfl (lv_at hl 1 rfl) ?_
      refine va_iald hx hb hK hP (k + 3) 0 h3 hI (by rw [ej]; exact vp_in_nI (by omega) (by omega)) dT_placeAt_17 ?_
      refine lv_goto (tgt := 22) hx hb dT_placeAt_18 (by decide) ?_
      exact x_iret hx hb hr hlk hK hP hD hS dT_placeAt_22 ⟨by rw [ej, tpE_nI hle hj, nI_clamp (by omega)]; exact (hf j hj).2.2, rfl⟩

theorem TapeAt.push {cI : ClassId} {ad : Nat → Nat} {ws : va_W} {k : Nat} {P : List Tok} {f g h f1 g1 h1 : Nat → Int32} {n1 a b c : Int32} (q0 : ws[k]? = some (ad k, .inr (4, [.ref (ad (k + 1)), .ref (ad (k + 2)), .ref (ad (k + 3)), .int n1]))) (q1 : ws[k + 1]? = some (ad (k + 1), .inl (cI, 81, .inl f1))) (q2 : ws[k + 2]? = some (ad (k + 2), .inl (cI, 81, .inl g1))) (q3 : ws[k + 3]? = some (ad (k + 3), .inl (cI, 81, .inl h1)))
    (hlt : P.length < 81) (en : n1 = nI P.length + 1) (ef : f1 = upd f (nI P.length).toNatClampNeg a) (eg : g1 = upd g (nI P.length).toNatClampNeg b) (eh : h1 = upd h (nI P.length).toNatClampNeg c) (hf : ∀ (i : Nat) (hi : i < P.length), f i = P[i].1 ∧ g i = P[i].2.1 ∧ h i = P[i].2.2) : TapeAt cI ad ws k (tpA P (a, b, c)) := by
  unfold tpA
  rw [if_pos hlt]
  have e1 : n1 = nI (P ++ [(a, b, c)]).length := by rw [en, nI_1, List.length_append]; rfl
  subst e1 ef eg eh
  refine ⟨_, _, _, q0, q1, q2, q3, by rw [List.length_append]; exact hlt, ?_⟩
  intro i hi
  rw [nI_clamp (by omega)]
  unfold upd
  by_cases e : i = P.length
  · rw [if_pos e, if_pos e, if_pos e]; subst e; simp
  · have hi2 : i < P.length := by
      have : i < (P ++ [(a, b, c)]).length := hi
      rw [List.length_append] at this
      simp only [List.length_singleton] at this
      omega
    rw [if_neg e, if_neg e, if_neg e, List.getElem_append_left hi2]
    exact hf i hi2

set_option maxHeartbeats 4000000 in
set_option maxRecDepth 100000 in
/-- Tape.add(kind, value, place) -/
theorem cT_add (l : Launch) (D : va_G) (tys : List (ClassId × FieldType)) (A : Nat → Prop) (ws : va_W) (cI : ClassId) (hI : tys[0]? = some (cI, .int)) (ad : Nat → Nat) (k : Nat) (P : List Tok) (a b c1 : Int32) (hT : TapeAt cI ad ws k P) : x_Mv l yT_add wT_add (xR 0) D xCl tys A [.ref (ad k), .int a, .int b, .int c1] ws (fun ws1 => x_fr k (k + 4) ws ws1 ∧ TapeAt cI ad ws1 k (tpA P (a, b, c1))) := by
  obtain ⟨f, g, h, h0, h1, h2, h3, hle, hf⟩ := hT
  refine x_enter (by decide) rfl (Nat.le_of_ble_eq_true rfl) (fun p e s m args below meth c ls hx hb hr hlk hml hown hnm hts hK hP hD hS hA hN hl => ?_)
  have hl : lv_has ls 4 [(0, .ref (ad k)), (1, .int a), (2, .int b), (3, .int c1)] := hl
  refine lv_aload_n hx hb dT_add_0 rfl (lv_at hl 0 rfl) ?_
  refine va_get (D := D) (cl := xCl) (ci := 4) (v := .int (nI P.length)) (C := rnT) (T := tbT) (N := 4) hx hb hts inT hown hK hP k h0 rfl 3 (by decide) (hts _ tw_87) (fun _ h9 => h9) rfl dT_add_1 ?_
  refine lv_aload_n hx hb dT_add_4 rfl (lv_at hl 0 rfl) ?_
  refine va_get (D := D) (cl := xCl) (ci := 4) (v := .ref (ad (k + 1))) (C := rnT) (T := tbT) (N := 4) hx hb hts inT hown hK hP k h0 rfl 0 (by decide) (hts _ tw_84) (fun _ h9 => h9) rfl dT_add_5 ?_
  refine va_alen (v := 81) hx hb hK hP (k + 1) 0 h1 hI (by rfl) dT_add_8 ?_
  refine lv_icmp_lt (tgt := 13) hx hb dT_add_9 (by decide) (fun c9 => ?_) (fun c9 => ?_)
  · have hlt : P.length < 81 := by rw [show (81 : Int32) = nI 81 from rfl, nI_ltI (by omega) (by omega)] at c9; omega
    refine lv_aload_n hx hb dT_add_13 rfl (lv_at hl 0 rfl) ?_
    refine va_get (D := D) (cl := xCl) (ci := 4) (v := .ref (ad (k + 1))) (C := rnT) (T := tbT) (N := 4) hx hb hts inT hown hK hP k h0 rfl 0 (by decide) (hts _ tw_84) (fun _ h9 => h9) rfl dT_add_14 ?_
    refine lv_aload_n hx hb dT_add_17 rfl (lv_at hl 0 rfl) ?_
    refine va_get (D := D) (cl := xCl) (ci := 4) (v := .int (nI P.length)) (C := rnT) (T := tbT) (N := 4) hx hb hts inT hown hK hP k h0 rfl 3 (by decide) (hts _ tw_87) (fun _ h9 => h9) rfl dT_add_18 ?_
    refine lv_iload_n hx hb dT_add_21 rfl (lv_at hl 1 rfl) ?_
    refine va_iast hx hb hK hP hD hS (k + 1) 0 h1 hI (vp_in_nI hlt (by omega)) dT_add_22 (fun H locs hP hD hS => ?_)
    obtain ⟨ws_2, hu_1, hP, hD⟩ := x_gen h1 hP hD
    have h_3 : ws_2[k + 1]? = some (ad (k + 1), .inl (cI, 81, .inl (upd f ((nI P.length)).toNatClampNeg a))) := hu_1.1
    have h_4 := (hu_1.2 k (by omega)).trans h0
    have h_5 := (hu_1.2 (k + 2) (by omega)).trans h2
    have h_6 := (hu_1.2 (k + 3) (by omega)).trans h3
    refine lv_aload_n hx hb dT_add_23 rfl (lv_at hl 0 rfl) ?_
    refine va_get (D := D) (cl := xCl) (ci := 4) (v := .ref (ad (k + 2))) (C := rnT) (T := tbT) (N := 4) hx hb hts inT hown hK hP k h_4 rfl 1 (by decide) (hts _ tw_85) (fun _ h9 => h9) rfl dT_add_24 ?_
    refine lv_aload_n hx hb dT_add_27 rfl (lv_at hl 0 rfl) ?_
    refine va_get (D := D) (cl := xCl) (ci := 4) (v := .int (nI P.length)) (C := rnT) (T := tbT) (N := 4) hx hb hts inT hown hK hP k h_4 rfl 3 (by decide) (hts _ tw_87) (fun _ h9 => h9) rfl dT_add_28 ?_
    refine lv_iload_n hx hb dT_add_31 rfl (lv_at hl 2 rfl) ?_
    refine va_iast hx hb hK hP hD hS (k + 2) 0 h_5 hI (vp_in_nI hlt (by omega)) dT_add_32 (fun H locs hP hD hS => ?_)
    obtain ⟨ws_8, hu_7, hP, hD⟩ := x_gen h_5 hP hD
    have h_9 : ws_8[k + 2]? = some (ad (k + 2), .inl (cI, 81, .inl (upd g ((nI P.length)).toNatClampNeg b))) := hu_7.1
    have h_10 := (hu_7.2 k (by omega)).trans h_4
    have h_11 := (hu_7.2 (k + 1) (by omega)).trans h_3
    have h_12 := (hu_7.2 (k + 3) (by omega)).trans h_6
    refine lv_aload_n hx hb dT_add_33 rfl (lv_at hl 0 rfl) ?_
    refine va_get (D := D) (cl := xCl) (ci := 4) (v := .ref (ad (k + 3))) (C := rnT) (T := tbT) (N := 4) hx hb hts inT hown hK hP k h_10 rfl 2 (by decide) (hts _ tw_86) (fun _ h9 => h9) rfl dT_add_34 ?_
    refine lv_aload_n hx hb dT_add_37 rfl (lv_at hl 0 rfl) ?_
    refine va_get (D := D) (cl := xCl) (ci := 4) (v := .int (nI P.length)) (C := rnT) (T := tbT) (N := 4) hx hb hts inT hown hK hP k h_10 rfl 3 (by decide) (hts _ tw_87) (fun _ h9 => h9) rfl dT_add_38 ?_
    refine lv_iload_n hx hb dT_add_41 rfl (lv_at hl 3 rfl) ?_
    refine va_iast hx hb hK hP hD hS (k + 3) 0 h_12 hI (vp_in_nI hlt (by omega)) dT_add_42 (fun H locs hP hD hS => ?_)
    obtain ⟨ws_14, hu_13, hP, hD⟩ := x_gen h_12 hP hD
    have h_15 : ws_14[k + 3]? = some (ad (k + 3), .inl (cI, 81, .inl (upd h ((nI P.length)).toNatClampNeg c1))) := hu_13.1
    have h_16 := (hu_13.2 k (by omega)).trans h_10
    have h_17 := (hu_13.2 (k + 1) (by omega)).trans h_11
    have h_18 := (hu_13.2 (k + 2) (by omega)).trans h_9
    refine lv_aload_n hx hb dT_add_43 rfl (lv_at hl 0 rfl) ?_
    refine lv_dup hx hb dT_add_44 rfl ?_
    refine va_get (D := D) (cl := xCl) (ci := 4) (v := .int (nI P.length)) (C := rnT) (T := tbT) (N := 4) hx hb hts inT hown hK hP k h_16 rfl 3 (by decide) (hts _ tw_87) (fun _ h9 => h9) rfl dT_add_45 ?_
    refine lv_iconst (v := 1) hx hb dT_add_48 (by decide) ?_
    refine lv_iadd hx hb dT_add_49 ?_
    refine lv_topi (fun v_19 ev_19 => ?_)
    refine va_put (D := D) (cl := xCl) (ci := 4) (v := .int v_19) (ty := .int) (C := rnT) (T := tbT) (N := 4) hx hb hts inT tyT toT nmT hown hK hP hD hS k h_16 rfl 3 (by decide) (hts _ tw_87) (fun _ h9 => h9) rfl (by decide +kernel) rfl rfl (Nat.le_of_ble_eq_true rfl) dT_add_50 (fun H locs hP hD hS => ?_)
    obtain ⟨ws_21, hu_20, hP, hD⟩ := x_gen h_16 hP hD
    have h_22 : ws_21[k]? = some (ad k, .inr (4, [.ref (ad (k + 1)), .ref (ad (k + 2)), .ref (ad (k + 3)), .int v_19])) := hu_20.1
    have h_23 := (hu_20.2 (k + 1) (by omega)).trans h_17
    have h_24 := (hu_20.2 (k + 2) (by omega)).trans h_18
    have h_25 := (hu_20.2 (k + 3) (by omega)).trans h_15
    exact x_vret hx hb hr hlk hK hP hD hS dT_add_53 ⟨((((hu_1.fr (a := k) (b := k + 4) (by omega) (by omega)).tr (hu_7.fr (a := k) (b := k + 4) (by omega) (by omega))).tr (hu_13.fr (a := k) (b := k + 4) (by omega) (by omega))).tr (hu_20.fr (a := k) (b := k + 4) (by omega) (by omega))), TapeAt.push h_22 h_23 h_24 h_25 hlt ev_19 rfl rfl rfl hf⟩
  · exact x_vret hx hb hr hlk hK hP hD hS dT_add_12 ⟨x_fr.rf, by have e : tpA P (a, b, c1) = P := if_neg (by rw [show (81 : Int32) = nI 81 from rfl, nI_ltI (by omega) (by omega)] at c9; omega); rw [e]; exact ⟨f, g, h, h0, h1, h2, h3, hle, hf⟩⟩
