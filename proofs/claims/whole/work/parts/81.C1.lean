-- ===== making objects =====
theorem x_app {D : va_G} {cl : List vw_C} {A : Nat → Prop} {ws : va_W} {H : Heap} {q : Nat × va_E} (hP : va_P D cl (ws ++ [q]) H) (hD : va_D A (ws ++ [q])) : ∃ ws1 : va_W, ws1.length = ws.length + 1 ∧ (∀ j, j < ws.length → ws1[j]? = ws[j]?) ∧ ws1[ws.length]? = some q ∧ va_P D cl ws1 H ∧ va_D A ws1 :=
  ⟨ws ++ [q], by rw [List.length_append]; rfl, fun j hj => List.getElem?_append_left hj, by rw [List.getElem?_append_right (Nat.le_refl _), Nat.sub_self]; rfl, hP, hD⟩
theorem x_ci {D : va_G} {cl : List vw_C} {tys : List (ClassId × FieldType)} {s : State} {cI cA : ClassId} (hI : tys[0]? = some (cI, .int)) (hK : va_K D cl tys s) (hK2 : va_K D cl (tys ++ [(cA, .int)]) s) : cA = cI := by
  have a : s.vm.findClass ("[" ++ FieldType.int.toString) = some cI := (hK.2 0 _ hI).2
  have b : s.vm.findClass ("[" ++ FieldType.int.toString) = some cA := (hK2.2 tys.length (cA, .int) (by rw [List.getElem?_append_right (Nat.le_refl _), Nat.sub_self]; rfl)).2
  exact Option.some.inj (b.symm.trans a)
theorem x_cc {D : va_G} {cl : List vw_C} {tys : List (ClassId × FieldType)} {s : State} {cC cA : ClassId} (hC : tys[1]? = some (cC, .char)) (hK : va_K D cl tys s) (hK2 : va_K D cl (tys ++ [(cA, .char)]) s) : cA = cC := by
  have a : s.vm.findClass ("[" ++ FieldType.char.toString) = some cC := (hK.2 1 _ hC).2
  have b : s.vm.findClass ("[" ++ FieldType.char.toString) = some cA := (hK2.2 tys.length (cA, .char) (by rw [List.getElem?_append_right (Nat.le_refl _), Nat.sub_self]; rfl)).2
  exact Option.some.inj (b.symm.trans a)
theorem x_cr {D : va_G} {cl : List vw_C} {tys : List (ClassId × FieldType)} {s : State} {C : String} {cR cA : ClassId} (hR : tys[2]? = some (cR, .object C)) (hK : va_K D cl tys s) (hK2 : va_K D cl (tys ++ [(cA, .object C)]) s) : cA = cR := by
  obtain ⟨-, -, -, -, -, a⟩ := (hK.2 2 _ hR).2
  obtain ⟨-, -, -, -, -, b⟩ := (hK2.2 tys.length (cA, .object C) (by rw [List.getElem?_append_right (Nat.le_refl _), Nat.sub_self]; rfl)).2
  exact Option.some.inj (b.symm.trans a)
theorem kn_lt {k i j : Nat} (h : i < j) : k + i < k + j := Nat.add_lt_add_left h k
theorem kn_ne {k i j : Nat} (h : i ≠ j) : k + i ≠ k + j := fun e => h (Nat.add_left_cancel e)
def x_ad (ad : Nat → Nat) (ws : va_W) : Prop := ∀ (j : Nat) (q : Nat × va_E), ws[j]? = some q → q.1 = ad j
theorem x_ad.app {ad : Nat → Nat} {ws ws1 : va_W} (ho : ∀ j, j < ws.length → ws1[j]? = ws[j]?) (h : x_ad ad ws1) : x_ad ad ws := fun j q hq => h j q ((ho j (x_lt hq)).trans hq)
theorem x_ad.upd {ad : Nat → Nat} {ws ws1 : va_W} {k a : Nat} {e e1 : va_E} (h0 : ws[k]? = some (a, e)) (u : x_upd ws k (a, e1) ws1) (h : x_ad ad ws1) : x_ad ad ws := by
  intro j q hq
  by_cases z : j = k
  · subst z
    rw [h0] at hq
    injection hq with hq
    rw [← hq]
    show a = ad j
    exact h j (a, e1) u.1
  · exact h j q ((u.2 j z).trans hq)
theorem x_upd.len {ws ws1 : va_W} {k : Nat} {q0 q : Nat × va_E} (h : ws[k]? = some q0) (u : x_upd ws k q ws1) : ws1.length = ws.length := by
  apply Nat.le_antisymm
  · apply Nat.le_of_not_lt
    intro z
    have h1 : ws1[ws.length]? = some ws1[ws.length] := List.getElem?_eq_getElem z
    rw [u.2 ws.length (by have := x_lt h; omega), List.getElem?_eq_none (Nat.le_refl _)] at h1
    cases h1
  · apply Nat.le_of_not_lt
    intro z
    have h1 : ws[ws1.length]? = some ws[ws1.length] := List.getElem?_eq_getElem z
    rw [← u.2 ws1.length (fun e => by have := x_lt u.1; omega), List.getElem?_eq_none (Nat.le_refl _)] at h1
    cases h1
/-- the object at k, a, the last of ws, was made: m cells came behind it -/
def x_gr (k m a : Nat) (ws ws1 : va_W) : Prop := ws1.length = k + 1 + m ∧ (∀ j, j < k → ws1[j]? = ws[j]?) ∧ ∃ e, ws1[k]? = some (a, e)
theorem x_ad.gr {ad : Nat → Nat} {ws ws1 : va_W} {k m a : Nat} {e : va_E} (h0 : ws[k]? = some (a, e)) (hl : ws.length = k + 1) (g : x_gr k m a ws ws1) (h : x_ad ad ws1) : x_ad ad ws := by
  intro j q hq
  have hj := x_lt hq
  by_cases z : j = k
  · subst z
    rw [h0] at hq
    injection hq with hq
    obtain ⟨-, -, e2, h2⟩ := g
    rw [← hq]
    show a = ad j
    exact h j (a, e2) h2
  · exact h j q ((g.2.1 j (by omega)).trans hq)
theorem RowAt.cg {cI : ClassId} {ad : Nat → Nat} {ws ws1 : va_W} {k : Nat} {L : List Nat} (h : RowAt cI ad ws k L) (hj : ∀ j, k ≤ j → j < k + 2 → ws1[j]? = ws[j]?) : RowAt cI ad ws1 k L := by
  obtain ⟨f, mk, a, b, r⟩ := h
  exact ⟨f, mk, (hj _ (by omega) (by omega)).trans a, (hj _ (by omega) (by omega)).trans b, r⟩
theorem TapeAt.cg {cI : ClassId} {ad : Nat → Nat} {ws ws1 : va_W} {k : Nat} {P : List Tok} (h : TapeAt cI ad ws k P) (hj : ∀ j, k ≤ j → j < k + 4 → ws1[j]? = ws[j]?) : TapeAt cI ad ws1 k P := by
  obtain ⟨f, g, h, a0, a1, a2, a3, a4⟩ := h
  exact ⟨f, g, h, (hj _ (by omega) (by omega)).trans a0, (hj _ (by omega) (by omega)).trans a1, (hj _ (by omega) (by omega)).trans a2, (hj _ (by omega) (by omega)).trans a3, a4⟩
theorem TextAt.cg {cC : ClassId} {ad : Nat → Nat} {ws ws1 : va_W} {k : Nat} {cs : List Nat} (h : TextAt cC ad ws k cs) (hj : ∀ j, k ≤ j → j < k + 2 → ws1[j]? = ws[j]?) : TextAt cC ad ws1 k cs := by
  obtain ⟨f, a0, a1, r⟩ := h
  exact ⟨f, (hj _ (by omega) (by omega)).trans a0, (hj _ (by omega) (by omega)).trans a1, r⟩
theorem GraphAt.cg {cI : ClassId} {ad : Nat → Nat} {ws ws1 : va_W} {k : Nat} {g : Gr} (h : GraphAt cI ad ws k g) (hj : ∀ j, k ≤ j → j < k + 9 → ws1[j]? = ws[j]?) : GraphAt cI ad ws1 k g := by
  obtain ⟨F, ⟨h0, h1, h2, h3, h4, h5, h6, h7, h8⟩, r⟩ := h
  exact ⟨F, ⟨(hj _ (by omega) (by omega)).trans h0, (hj _ (by omega) (by omega)).trans h1, (hj _ (by omega) (by omega)).trans h2, (hj _ (by omega) (by omega)).trans h3, (hj _ (by omega) (by omega)).trans h4, (hj _ (by omega) (by omega)).trans h5, (hj _ (by omega) (by omega)).trans h6, (hj _ (by omega) (by omega)).trans h7, (hj _ (by omega) (by omega)).trans h8⟩, r⟩
theorem ParserAt.cg {cI : ClassId} {ad : Nat → Nat} {ws ws1 : va_W} {k : Nat} {T : List Tok} {st : PSt} (h : ParserAt cI ad ws k T st) (hj : ∀ j, k ≤ j → j < k + 10 → ws1[j]? = ws[j]?) : ParserAt cI ad ws1 k T st := by
  obtain ⟨h0, h1, h2, h3, r⟩ := h
  exact ⟨(hj _ (by omega) (by omega)).trans h0, h1.cg (fun j a b => hj j (by omega) (by omega)), h2.cg (fun j a b => hj j (by omega) (by omega)), (hj _ (by omega) (by omega)).trans h3, r⟩
theorem RunnerAt.cg {cI cR : ClassId} {ad : Nat → Nat} {ws ws1 : va_W} {k n : Nat} {J B : Nat → List Nat} (h : RunnerAt cI cR ad ws k n J B) (hj : ∀ j, k ≤ j → j < k + 75 → ws1[j]? = ws[j]?) : RunnerAt cI cR ad ws1 k n J B := by
  obtain ⟨h0, ⟨f, h1, h2⟩, ⟨f2, h3, h4⟩, h5, h6⟩ := h
  exact ⟨(hj _ (by omega) (by omega)).trans h0, ⟨f, (hj _ (by omega) (by omega)).trans h1, h2⟩, ⟨f2, (hj _ (by omega) (by omega)).trans h3, h4⟩, fun i hi => (h5 i hi).cg (fun j a b => hj j (by omega) (by omega)), fun i hi => (h6 i hi).cg (fun j a b => hj j (by omega) (by omega))⟩

set_option maxHeartbeats 4000000 in
set_option maxRecDepth 100000 in
theorem cR_init (l : Launch) (D : va_G) (tys : List (ClassId × FieldType)) (A : Nat → Prop) (ws : va_W) (cI : ClassId) (hI : tys[0]? = some (cI, .int)) (k a : Nat) (hk0 : ws[k]? = some (a, .inr (2, [.null, .int 0, .int 0]))) (hwl : ws.length = k + 1) : x_Mv l yR_init wR_init ({ frames := 1, cells := 1, slots := 30, locals := 120 }) D xCl tys A [.ref a] ws (fun ws1 => x_gr k 1 a ws ws1 ∧ ∀ ad, x_ad ad ws1 → RowAt cI ad ws1 k []) := by
  have hlow : ∀ j, j < k → ws[j]? = ws[j]? := fun _ _ => rfl
  refine x_enter (by decide) rfl (Nat.le_of_ble_eq_true rfl) (fun p e s m args below meth c ls hx hb hr hlk hml hown hnm hts hK hP hD hS hA hN hl => ?_)
  have hl : lv_has ls 1 [(0, .ref a)] := hl
  refine lv_aload_n hx hb dR_init_0 rfl (lv_at hl 0 rfl) ?_
  refine W.objInit hx hb hown (hts _ tw_125) (hts _ tw_21) (hts _ tw_22) rfl (by rw [hml]; exact hl.1) rfl dR_init_1 (Nat.le_of_ble_eq_true rfl) (Nat.le_of_ble_eq_true rfl) ?_
  refine W.eq (g2 := F0 m 4 ls []) rfl ?_
  refine lv_aload_n hx hb dR_init_4 rfl (lv_at hl 0 rfl) ?_
  refine lv_bipush (v := 30) hx hb dR_init_5 (by decide) ?_
  refine va_newa (atype := .int) (ty := .int) (a0 := (30, .inl (fun _ => 0))) hx hb (hts _ tw_57) rfl hK hP hD hS hA (fun _ => rfl) (by decide) (by decide) (by decide) (by decide) (by decide) dR_init_7 (fun q_1 cA9 H hK9 hP hD hS => ?_)
  rw [x_ci hI hK hK9] at hP hD
  obtain ⟨ws_2, a_3l, a_3o, a_3n, hP, hD⟩ := x_app hP hD
  rw [hwl] at a_3l a_3n
  have h_4 := (a_3o k (by rw [hwl]; exact kn_lt (i := 0) (j := 1) (by decide))).trans hk0
  have hlow : ∀ j, j < k → ws_2[j]? = ws[j]? := fun j z9 => (a_3o j (by rw [hwl]; exact Nat.lt_of_lt_of_le z9 (Nat.le_add_right k _))).trans (hlow j z9)
  have hwl : ws_2.length = k + 2 := a_3l
  refine va_putF (D := D) (cl := xCl) (ci := 2) (v := .ref q_1) (ty := .array .int) (C := rnR) (T := tbR) (N := 3) hx hb hts inR tyR toR nmR hown hK hP hD hS k h_4 rfl 0 (by decide) (hts _ tw_126) (fun _ h9 => h9) rfl hnm rfl (by decide +kernel) rfl rfl (Nat.le_of_ble_eq_true rfl) dR_init_9 (fun H locs hP hD hS => ?_)
  obtain ⟨ws_6, hu_5, hP, hD⟩ := x_gen h_4 hP hD
  have h_7 : ws_6[k]? = some (a, .inr (2, [.ref q_1, .int 0, .int 0])) := hu_5.1
  have h_8 := (hu_5.2 (k + 1) (kn_ne (i := 1) (j := 0) (by decide))).trans a_3n
  have hwl := (x_upd.len h_4 hu_5).trans hwl
  have hlow : ∀ j, j < k → ws_6[j]? = ws[j]? := fun j z9 => (hu_5.2 j (Nat.ne_of_lt (Nat.lt_of_lt_of_le z9 (Nat.le_add_right k 0)))).trans (hlow j z9)
  refine lv_aload_n hx hb dR_init_12 rfl (lv_at hl 0 rfl) ?_
  refine lv_iconst (v := 0) hx hb dR_init_13 (by decide) ?_
  refine va_put (D := D) (cl := xCl) (ci := 2) (v := .int 0) (ty := .int) (C := rnR) (T := tbR) (N := 3) hx hb hts inR tyR toR nmR hown hK hP hD hS k h_7 rfl 1 (by decide) (hts _ tw_127) (fun _ h9 => h9) rfl (by decide +kernel) rfl rfl (Nat.le_of_ble_eq_true rfl) dR_init_14 (fun H locs hP hD hS => ?_)
  obtain ⟨ws_10, hu_9, hP, hD⟩ := x_gen h_7 hP hD
  have h_11 : ws_10[k]? = some (a, .inr (2, [.ref q_1, .int 0, .int 0])) := hu_9.1
  have h_12 := (hu_9.2 (k + 1) (kn_ne (i := 1) (j := 0) (by decide))).trans h_8
  have hwl := (x_upd.len h_7 hu_9).trans hwl
  have hlow : ∀ j, j < k → ws_10[j]? = ws[j]? := fun j z9 => (hu_9.2 j (Nat.ne_of_lt (Nat.lt_of_lt_of_le z9 (Nat.le_add_right k 0)))).trans (hlow j z9)
  refine lv_aload_n hx hb dR_init_17 rfl (lv_at hl 0 rfl) ?_
  refine lv_iconst (v := 0) hx hb dR_init_18 (by decide) ?_
  refine va_put (D := D) (cl := xCl) (ci := 2) (v := .int 0) (ty := .int) (C := rnR) (T := tbR) (N := 3) hx hb hts inR tyR toR nmR hown hK hP hD hS k h_11 rfl 2 (by decide) (hts _ tw_128) (fun _ h9 => h9) rfl (by decide +kernel) rfl rfl (Nat.le_of_ble_eq_true rfl) dR_init_19 (fun H locs hP hD hS => ?_)
  obtain ⟨ws_14, hu_13, hP, hD⟩ := x_gen h_11 hP hD
  have h_15 : ws_14[k]? = some (a, .inr (2, [.ref q_1, .int 0, .int 0])) := hu_13.1
  have h_16 := (hu_13.2 (k + 1) (kn_ne (i := 1) (j := 0) (by decide))).trans h_12
  have hwl := (x_upd.len h_11 hu_13).trans hwl
  have hlow : ∀ j, j < k → ws_14[j]? = ws[j]? := fun j z9 => (hu_13.2 j (Nat.ne_of_lt (Nat.lt_of_lt_of_le z9 (Nat.le_add_right k 0)))).trans (hlow j z9)
  exact x_vret hx hb hr hlk hK hP hD hS dR_init_22 (by have hwl := hwl; refine ⟨⟨hwl, hlow, _, h_15⟩, fun ad z9 => ?_⟩; have e0 : a = ad k := z9 k _ h_15; have e1 : q_1 = ad (k + 1) := z9 (k + 1) _ h_16; subst e0; subst e1; exact ⟨_, _, h_15, h_16, fun i h => absurd h (Nat.not_lt_zero _), fun i _ => by rw [b_0]; rfl, List.nodup_nil, fun t h => by cases h⟩)

set_option maxHeartbeats 4000000 in
set_option maxRecDepth 100000 in
theorem cT_init (l : Launch) (D : va_G) (tys : List (ClassId × FieldType)) (A : Nat → Prop) (ws : va_W) (cI : ClassId) (hI : tys[0]? = some (cI, .int)) (k a : Nat) (hk0 : ws[k]? = some (a, .inr (4, [.null, .null, .null, .int 0]))) (hwl : ws.length = k + 1) : x_Mv l yT_init wT_init ({ frames := 1, cells := 3, slots := 243, locals := 120 }) D xCl tys A [.ref a] ws (fun ws1 => x_gr k 3 a ws ws1 ∧ ∀ ad, x_ad ad ws1 → TapeAt cI ad ws1 k []) := by
  have hlow : ∀ j, j < k → ws[j]? = ws[j]? := fun _ _ => rfl
  refine x_enter (by decide) rfl (Nat.le_of_ble_eq_true rfl) (fun p e s m args below meth c ls hx hb hr hlk hml hown hnm hts hK hP hD hS hA hN hl => ?_)
  have hl : lv_has ls 1 [(0, .ref a)] := hl
  refine lv_aload_n hx hb dT_init_0 rfl (lv_at hl 0 rfl) ?_
  refine W.objInit hx hb hown (hts _ tw_83) (hts _ tw_21) (hts _ tw_22) rfl (by rw [hml]; exact hl.1) rfl dT_init_1 (Nat.le_of_ble_eq_true rfl) (Nat.le_of_ble_eq_true rfl) ?_
  refine W.eq (g2 := F0 m 4 ls []) rfl ?_
  refine lv_aload_n hx hb dT_init_4 rfl (lv_at hl 0 rfl) ?_
  refine lv_bipush (v := 81) hx hb dT_init_5 (by decide) ?_
  refine va_newa (atype := .int) (ty := .int) (a0 := (81, .inl (fun _ => 0))) hx hb (hts _ tw_57) rfl hK hP hD hS hA (fun _ => rfl) (by decide) (by decide) (by decide) (by decide) (by decide) dT_init_7 (fun q_1 cA9 H hK9 hP hD hS => ?_)
  rw [x_ci hI hK hK9] at hP hD
  obtain ⟨ws_2, a_3l, a_3o, a_3n, hP, hD⟩ := x_app hP hD
  rw [hwl] at a_3l a_3n
  have h_4 := (a_3o k (by rw [hwl]; exact kn_lt (i := 0) (j := 1) (by decide))).trans hk0
  have hlow : ∀ j, j < k → ws_2[j]? = ws[j]? := fun j z9 => (a_3o j (by rw [hwl]; exact Nat.lt_of_lt_of_le z9 (Nat.le_add_right k _))).trans (hlow j z9)
  have hwl : ws_2.length = k + 2 := a_3l
  refine va_putF (D := D) (cl := xCl) (ci := 4) (v := .ref q_1) (ty := .array .int) (C := rnT) (T := tbT) (N := 4) hx hb hts inT tyT toT nmT hown hK hP hD hS k h_4 rfl 0 (by decide) (hts _ tw_84) (fun _ h9 => h9) rfl hnm rfl (by decide +kernel) rfl rfl (Nat.le_of_ble_eq_true rfl) dT_init_9 (fun H locs hP hD hS => ?_)
  obtain ⟨ws_6, hu_5, hP, hD⟩ := x_gen h_4 hP hD
  have h_7 : ws_6[k]? = some (a, .inr (4, [.ref q_1, .null, .null, .int 0])) := hu_5.1
  have h_8 := (hu_5.2 (k + 1) (kn_ne (i := 1) (j := 0) (by decide))).trans a_3n
  have hwl := (x_upd.len h_4 hu_5).trans hwl
  have hlow : ∀ j, j < k → ws_6[j]? = ws[j]? := fun j z9 => (hu_5.2 j (Nat.ne_of_lt (Nat.lt_of_lt_of_le z9 (Nat.le_add_right k 0)))).trans (hlow j z9)
  refine lv_aload_n hx hb dT_init_12 rfl (lv_at hl 0 rfl) ?_
  refine lv_bipush (v := 81) hx hb dT_init_13 (by decide) ?_
  refine va_newa (atype := .int) (ty := .int) (a0 := (81, .inl (fun _ => 0))) hx hb (hts _ tw_57) rfl hK hP hD hS hA (fun _ => rfl) (by decide) (by decide) (by decide) (by decide) (by decide) dT_init_15 (fun q_9 cA9 H hK9 hP hD hS => ?_)
  rw [x_ci hI hK hK9] at hP hD
  obtain ⟨ws_10, a_11l, a_11o, a_11n, hP, hD⟩ := x_app hP hD
  rw [hwl] at a_11l a_11n
  have h_12 := (a_11o k (by rw [hwl]; exact kn_lt (i := 0) (j := 2) (by decide))).trans h_7
  have h_13 := (a_11o (k + 1) (by rw [hwl]; exact kn_lt (i := 1) (j := 2) (by decide))).trans h_8
  have hlow : ∀ j, j < k → ws_10[j]? = ws[j]? := fun j z9 => (a_11o j (by rw [hwl]; exact Nat.lt_of_lt_of_le z9 (Nat.le_add_right k _))).trans (hlow j z9)
  have hwl : ws_10.length = k + 3 := a_11l
  refine va_putF (D := D) (cl := xCl) (ci := 4) (v := .ref q_9) (ty := .array .int) (C := rnT) (T := tbT) (N := 4) hx hb hts inT tyT toT nmT hown hK hP hD hS k h_12 rfl 1 (by decide) (hts _ tw_85) (fun _ h9 => h9) rfl hnm rfl (by decide +kernel) rfl rfl (Nat.le_of_ble_eq_true rfl) dT_init_17 (fun H locs hP hD hS => ?_)
  obtain ⟨ws_15, hu_14, hP, hD⟩ := x_gen h_12 hP hD
  have h_16 : ws_15[k]? = some (a, .inr (4, [.ref q_1, .ref q_9, .null, .int 0])) := hu_14.1
  have h_17 := (hu_14.2 (k + 1) (kn_ne (i := 1) (j := 0) (by decide))).trans h_13
  have h_18 := (hu_14.2 (k + 2) (kn_ne (i := 2) (j := 0) (by decide))).trans a_11n
  have hwl := (x_upd.len h_12 hu_14).trans hwl
  have hlow : ∀ j, j < k → ws_15[j]? = ws[j]? := fun j z9 => (hu_14.2 j (Nat.ne_of_lt (Nat.lt_of_lt_of_le z9 (Nat.le_add_right k 0)))).trans (hlow j z9)
  refine lv_aload_n hx hb dT_init_20 rfl (lv_at hl 0 rfl) ?_
  refine lv_bipush (v := 81) hx hb dT_init_21 (by decide) ?_
  refine va_newa (atype := .int) (ty := .int) (a0 := (81, .inl (fun _ => 0))) hx hb (hts _ tw_57) rfl hK hP hD hS hA (fun _ => rfl) (by decide) (by decide) (by decide) (by decide) (by decide) dT_init_23 (fun q_19 cA9 H hK9 hP hD hS => ?_)
  rw [x_ci hI hK hK9] at hP hD
  obtain ⟨ws_20, a_21l, a_21o, a_21n, hP, hD⟩ := x_app hP hD
  rw [hwl] at a_21l a_21n
  have h_22 := (a_21o k (by rw [hwl]; exact kn_lt (i := 0) (j := 3) (by decide))).trans h_16
  have h_23 := (a_21o (k + 1) (by rw [hwl]; exact kn_lt (i := 1) (j := 3) (by decide))).trans h_17
  have h_24 := (a_21o (k + 2) (by rw [hwl]; exact kn_lt (i := 2) (j := 3) (by decide))).trans h_18
  have hlow : ∀ j, j < k → ws_20[j]? = ws[j]? := fun j z9 => (a_21o j (by rw [hwl]; exact Nat.lt_of_lt_of_le z9 (Nat.le_add_right k _))).trans (hlow j z9)
  have hwl : ws_20.length = k + 4 := a_21l
  refine va_putF (D := D) (cl := xCl) (ci := 4) (v := .ref q_19) (ty := .array .int) (C := rnT) (T := tbT) (N := 4) hx hb hts inT tyT toT nmT hown hK hP hD hS k h_22 rfl 2 (by decide) (hts _ tw_86) (fun _ h9 => h9) rfl hnm rfl (by decide +kernel) rfl rfl (Nat.le_of_ble_eq_true rfl) dT_init_25 (fun H locs hP hD hS => ?_)
  obtain ⟨ws_26, hu_25, hP, hD⟩ := x_gen h_22 hP hD
  have h_27 : ws_26[k]? = some (a, .inr (4, [.ref q_1, .ref q_9, .ref q_19, .int 0])) := hu_25.1
  have h_28 := (hu_25.2 (k + 1) (kn_ne (i := 1) (j := 0) (by decide))).trans h_23
  have h_29 := (hu_25.2 (k + 2) (kn_ne (i := 2) (j := 0) (by decide))).trans h_24
  have h_30 := (hu_25.2 (k + 3) (kn_ne (i := 3) (j := 0) (by decide))).trans a_21n
  have hwl := (x_upd.len h_22 hu_25).trans hwl
  have hlow : ∀ j, j < k → ws_26[j]? = ws[j]? := fun j z9 => (hu_25.2 j (Nat.ne_of_lt (Nat.lt_of_lt_of_le z9 (Nat.le_add_right k 0)))).trans (hlow j z9)
  refine lv_aload_n hx hb dT_init_28 rfl (lv_at hl 0 rfl) ?_
  refine lv_iconst (v := 0) hx hb dT_init_29 (by decide) ?_
  refine va_put (D := D) (cl := xCl) (ci := 4) (v := .int 0) (ty := .int) (C := rnT) (T := tbT) (N := 4) hx hb hts inT tyT toT nmT hown hK hP hD hS k h_27 rfl 3 (by decide) (hts _ tw_87) (fun _ h9 => h9) rfl (by decide +kernel) rfl rfl (Nat.le_of_ble_eq_true rfl) dT_init_30 (fun H locs hP hD hS => ?_)
  obtain ⟨ws_32, hu_31, hP, hD⟩ := x_gen h_27 hP hD
  have h_33 : ws_32[k]? = some (a, .inr (4, [.ref q_1, .ref q_9, .ref q_19, .int 0])) := hu_31.1
  have h_34 := (hu_31.2 (k + 1) (kn_ne (i := 1) (j := 0) (by decide))).trans h_28
  have h_35 := (hu_31.2 (k + 2) (kn_ne (i := 2) (j := 0) (by decide))).trans h_29
  have h_36 := (hu_31.2 (k + 3) (kn_ne (i := 3) (j := 0) (by decide))).trans h_30
  have hwl := (x_upd.len h_27 hu_31).trans hwl
  have hlow : ∀ j, j < k → ws_32[j]? = ws[j]? := fun j z9 => (hu_31.2 j (Nat.ne_of_lt (Nat.lt_of_lt_of_le z9 (Nat.le_add_right k 0)))).trans (hlow j z9)
  exact x_vret hx hb hr hlk hK hP hD hS dT_init_33 (by refine ⟨⟨hwl, hlow, _, h_33⟩, fun ad z9 => ?_⟩; have e0 : a = ad k := z9 k _ h_33; have e1 : q_1 = ad (k + 1) := z9 (k + 1) _ h_34; have e2 : q_9 = ad (k + 2) := z9 (k + 2) _ h_35; have e3 : q_19 = ad (k + 3) := z9 (k + 3) _ h_36; subst e0; subst e1; subst e2; subst e3; exact ⟨_, _, _, h_33, h_34, h_35, h_36, Nat.zero_le _, fun i h => absurd h (Nat.not_lt_zero _)⟩)

set_option maxHeartbeats 4000000 in
set_option maxRecDepth 100000 in
theorem cX_init (l : Launch) (D : va_G) (tys : List (ClassId × FieldType)) (A : Nat → Prop) (ws : va_W) (cI : ClassId) (hI : tys[0]? = some (cI, .int)) (cC : ClassId) (hC : tys[1]? = some (cC, .char)) (k a : Nat) (hk0 : ws[k]? = some (a, .inr (5, [.null, .int 0]))) (hwl : ws.length = k + 1) : x_Mv l yX_init wX_init ({ frames := 1, cells := 1, slots := 80, locals := 120 }) D xCl tys A [.ref a] ws (fun ws1 => x_gr k 1 a ws ws1 ∧ ∀ ad, x_ad ad ws1 → TextAt cC ad ws1 k []) := by
  have hlow : ∀ j, j < k → ws[j]? = ws[j]? := fun _ _ => rfl
  refine x_enter (by decide) rfl (Nat.le_of_ble_eq_true rfl) (fun p e s m args below meth c ls hx hb hr hlk hml hown hnm hts hK hP hD hS hA hN hl => ?_)
  have hl : lv_has ls 1 [(0, .ref a)] := hl
  refine lv_aload_n hx hb dX_init_0 rfl (lv_at hl 0 rfl) ?_
  refine W.objInit hx hb hown (hts _ tw_63) (hts _ tw_21) (hts _ tw_22) rfl (by rw [hml]; exact hl.1) rfl dX_init_1 (Nat.le_of_ble_eq_true rfl) (Nat.le_of_ble_eq_true rfl) ?_
  refine W.eq (g2 := F0 m 4 ls []) rfl ?_
  refine lv_aload_n hx hb dX_init_4 rfl (lv_at hl 0 rfl) ?_
  refine lv_bipush (v := 80) hx hb dX_init_5 (by decide) ?_
  refine va_newa (atype := .char) (ty := .char) (a0 := (80, .inl (fun _ => 0))) hx hb (hts _ tw_71) rfl hK hP hD hS hA (fun _ => rfl) (by decide) (by decide) (by decide) (by decide) (by decide) dX_init_7 (fun q_1 cA9 H hK9 hP hD hS => ?_)
  rw [x_cc hC hK hK9] at hP hD
  obtain ⟨ws_2, a_3l, a_3o, a_3n, hP, hD⟩ := x_app hP hD
  rw [hwl] at a_3l a_3n
  have h_4 := (a_3o k (by rw [hwl]; exact kn_lt (i := 0) (j := 1) (by decide))).trans hk0
  have hlow : ∀ j, j < k → ws_2[j]? = ws[j]? := fun j z9 => (a_3o j (by rw [hwl]; exact Nat.lt_of_lt_of_le z9 (Nat.le_add_right k _))).trans (hlow j z9)
  have hwl : ws_2.length = k + 2 := a_3l
  refine va_putF (D := D) (cl := xCl) (ci := 5) (v := .ref q_1) (ty := .array .char) (C := rnX) (T := tbX) (N := 2) hx hb hts inX tyX toX nmX hown hK hP hD hS k h_4 rfl 0 (by decide) (hts _ tw_64) (fun _ h9 => h9) rfl hnm rfl (by decide +kernel) rfl rfl (Nat.le_of_ble_eq_true rfl) dX_init_9 (fun H locs hP hD hS => ?_)
  obtain ⟨ws_6, hu_5, hP, hD⟩ := x_gen h_4 hP hD
  have h_7 : ws_6[k]? = some (a, .inr (5, [.ref q_1, .int 0])) := hu_5.1
  have h_8 := (hu_5.2 (k + 1) (kn_ne (i := 1) (j := 0) (by decide))).trans a_3n
  have hwl := (x_upd.len h_4 hu_5).trans hwl
  have hlow : ∀ j, j < k → ws_6[j]? = ws[j]? := fun j z9 => (hu_5.2 j (Nat.ne_of_lt (Nat.lt_of_lt_of_le z9 (Nat.le_add_right k 0)))).trans (hlow j z9)
  refine lv_aload_n hx hb dX_init_12 rfl (lv_at hl 0 rfl) ?_
  refine lv_iconst (v := 0) hx hb dX_init_13 (by decide) ?_
  refine va_put (D := D) (cl := xCl) (ci := 5) (v := .int 0) (ty := .int) (C := rnX) (T := tbX) (N := 2) hx hb hts inX tyX toX nmX hown hK hP hD hS k h_7 rfl 1 (by decide) (hts _ tw_65) (fun _ h9 => h9) rfl (by decide +kernel) rfl rfl (Nat.le_of_ble_eq_true rfl) dX_init_14 (fun H locs hP hD hS => ?_)
  obtain ⟨ws_10, hu_9, hP, hD⟩ := x_gen h_7 hP hD
  have h_11 : ws_10[k]? = some (a, .inr (5, [.ref q_1, .int 0])) := hu_9.1
  have h_12 := (hu_9.2 (k + 1) (kn_ne (i := 1) (j := 0) (by decide))).trans h_8
  have hwl := (x_upd.len h_7 hu_9).trans hwl
  have hlow : ∀ j, j < k → ws_10[j]? = ws[j]? := fun j z9 => (hu_9.2 j (Nat.ne_of_lt (Nat.lt_of_lt_of_le z9 (Nat.le_add_right k 0)))).trans (hlow j z9)
  exact x_vret hx hb hr hlk hK hP hD hS dX_init_17 (by refine ⟨⟨hwl, hlow, _, h_11⟩, fun ad z9 => ?_⟩; have e0 : a = ad k := z9 k _ h_11; have e1 : q_1 = ad (k + 1) := z9 (k + 1) _ h_12; subst e0; subst e1; exact ⟨_, h_11, h_12, Nat.zero_le _, fun i h => absurd h (Nat.not_lt_zero _), fun t h => by cases h⟩)
