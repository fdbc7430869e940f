set_option maxHeartbeats 4000000 in
set_option maxRecDepth 100000 in
theorem cP_init (l : Launch) (D : va_G) (tys : List (ClassId × FieldType)) (A : Nat → Prop) (ws : va_W) (cI : ClassId) (hI : tys[0]? = some (cI, .int)) (k a : Nat) (hk0 : ws[k]? = some (a, .inr (1, [.null, .null, .null, .int 0, .int 0]))) (hwl : ws.length = k + 1) : x_Mv l yP_init wP_init ({ frames := 2, cells := 9, slots := 520, locals := 180 }) D xCl tys A [.ref a] ws (fun ws1 => x_gr k 9 a ws ws1 ∧ ∀ ad, x_ad ad ws1 → ParserAt cI ad ws1 k [] (0, [], fun _ => 0, 0)) := by
  have hlow : ∀ j, j < k → ws[j]? = ws[j]? := fun _ _ => rfl
  refine x_enter (by decide) rfl (Nat.le_of_ble_eq_true rfl) (fun p e s m args below meth c ls hx hb hr hlk hml hown hnm hts hK hP hD hS hA hN hl => ?_)
  have hl : lv_has ls 1 [(0, .ref a)] := hl
  refine lv_aload_n hx hb dP_init_0 rfl (lv_at hl 0 rfl) ?_
  refine W.objInit hx hb hown (hts _ tw_77) (hts _ tw_21) (hts _ tw_22) rfl (by rw [hml]; exact hl.1) rfl dP_init_1 (Nat.le_of_ble_eq_true rfl) (Nat.le_of_ble_eq_true rfl) ?_
  refine W.eq (g2 := F0 m 4 ls []) rfl ?_
  refine lv_aload_n hx hb dP_init_4 rfl (lv_at hl 0 rfl) ?_
  refine va_new (ci := 4) (fs := [.null, .null, .null, .int 0]) (C := rnT) (T := tbT) (N := 4) hx hb hts inT tyT toT hown (hts _ tw_78) (hts _ tw_79) (hts _ tw_5) hK hP hD hS hA rfl (fun j hj => by match j, hj with | 0, _ => rfl | 1, _ => rfl | 2, _ => rfl | 3, _ => rfl | n + 4, h => exact absurd h (by omega)) (by decide) (by decide) dP_init_5 (fun q_1 H hP hD hS => ?_)
  obtain ⟨ws_2, a_3l, a_3o, a_3n, hP, hD⟩ := x_app hP hD
  rw [hwl] at a_3l a_3n
  have h_4 := (a_3o k (by rw [hwl]; exact kn_lt (i := 0) (j := 1) (by decide))).trans hk0
  have hlow : ∀ j, j < k → ws_2[j]? = ws[j]? := fun j z9 => (a_3o j (by rw [hwl]; exact Nat.lt_of_lt_of_le z9 (Nat.le_add_right k _))).trans (hlow j z9)
  have hwl : ws_2.length = k + 2 := a_3l
  refine lv_dup hx hb dP_init_8 rfl ?_
  refine x_callv (x_runI (n := 0) (As := []) (rest := [.ref q_1, .ref a]) ⟨hx, hb, hml, hown, hts⟩ (cT_init l D tys A ws_2 cI hI (k + 1) q_1 a_3n hwl) tw_80 tw_81 tw_5 tw_82 rfl (by decide +kernel) rfl rfl ⟨by decide, by decide⟩ ⟨by decide, by decide⟩ hK hP hD hS hA hN rfl hl.1 rfl (lv_room (Nat.le_of_ble_eq_true rfl)) dP_init_9) hS (fun ws_6 H locs hws5 hP hD hS => ?_)
  obtain ⟨gs5, ps5⟩ := hws5
  have h_7 := (gs5.2.1 k (by exact kn_lt (i := 0) (j := 1) (by decide))).trans h_4
  have hlow : ∀ j, j < k → ws_6[j]? = ws[j]? := fun j z9 => (gs5.2.1 j (by exact Nat.lt_of_lt_of_le z9 (Nat.le_add_right k _))).trans (hlow j z9)
  obtain ⟨es5, os5⟩ := gs5.2.2
  have hwl : ws_6.length = k + 5 := gs5.1
  have ps5_c : ∀ j, k + 1 ≤ j → j < k + 5 → ws_6[j]? = ws_6[j]? := fun _ _ _ => rfl
  have ps5_a : ∀ ad, x_ad ad ws_6 → x_ad ad ws_6 := fun _ z9 => z9
  refine va_putF (D := D) (cl := xCl) (ci := 1) (v := .ref q_1) (ty := .object "GraphQuery$Tape") (C := rnP) (T := tbP) (N := 5) hx hb hts inP tyP toP nmP hown hK hP hD hS k h_7 rfl 0 (by decide) (hts _ tw_97) (fun _ h9 => h9) rfl hnm rfl (by decide +kernel) rfl rfl (Nat.le_of_ble_eq_true rfl) dP_init_12 (fun H locs hP hD hS => ?_)
  obtain ⟨ws_9, hu_8, hP, hD⟩ := x_gen h_7 hP hD
  have h_10 : ws_9[k]? = some (a, .inr (1, [.ref q_1, .null, .null, .int 0, .int 0])) := hu_8.1
  have h_11 := (hu_8.2 (k + 1) (kn_ne (i := 1) (j := 0) (by decide))).trans os5
  have hwl := (x_upd.len h_7 hu_8).trans hwl
  have ps5_c : ∀ j, k + 1 ≤ j → j < k + 5 → ws_9[j]? = ws_6[j]? := fun j a9 b9 => (hu_8.2 j (Nat.ne_of_gt (Nat.lt_of_lt_of_le (kn_lt (i := 0) (j := 1) (by decide)) a9))).trans (ps5_c j a9 b9)
  have ps5_a : ∀ ad, x_ad ad ws_9 → x_ad ad ws_6 := fun ad z9 => ps5_a ad (x_ad.upd h_7 hu_8 z9)
  have hlow : ∀ j, j < k → ws_9[j]? = ws[j]? := fun j z9 => (hu_8.2 j (Nat.ne_of_lt (Nat.lt_of_lt_of_le z9 (Nat.le_add_right k 0)))).trans (hlow j z9)
  refine lv_aload_n hx hb dP_init_15 rfl (lv_at hl 0 rfl) ?_
  refine va_new (ci := 4) (fs := [.null, .null, .null, .int 0]) (C := rnT) (T := tbT) (N := 4) hx hb hts inT tyT toT hown (hts _ tw_78) (hts _ tw_79) (hts _ tw_5) hK hP hD hS hA rfl (fun j hj => by match j, hj with | 0, _ => rfl | 1, _ => rfl | 2, _ => rfl | 3, _ => rfl | n + 4, h => exact absurd h (by omega)) (by decide) (by decide) dP_init_16 (fun q_12 H hP hD hS => ?_)
  obtain ⟨ws_13, a_14l, a_14o, a_14n, hP, hD⟩ := x_app hP hD
  rw [hwl] at a_14l a_14n
  have h_15 := (a_14o k (by rw [hwl]; exact kn_lt (i := 0) (j := 5) (by decide))).trans h_10
  have h_16 := (a_14o (k + 1) (by rw [hwl]; exact kn_lt (i := 1) (j := 5) (by decide))).trans h_11
  have ps5_c : ∀ j, k + 1 ≤ j → j < k + 5 → ws_13[j]? = ws_6[j]? := fun j a9 b9 => (a_14o j (by rw [hwl]; exact Nat.lt_of_lt_of_le b9 (Nat.add_le_add_left (by decide : 5 ≤ 5) k))).trans (ps5_c j a9 b9)
  have ps5_a : ∀ ad, x_ad ad ws_13 → x_ad ad ws_6 := fun ad z9 => ps5_a ad (x_ad.app a_14o z9)
  have hlow : ∀ j, j < k → ws_13[j]? = ws[j]? := fun j z9 => (a_14o j (by rw [hwl]; exact Nat.lt_of_lt_of_le z9 (Nat.le_add_right k _))).trans (hlow j z9)
  have hwl : ws_13.length = k + 6 := a_14l
  refine lv_dup hx hb dP_init_19 rfl ?_
  refine x_callv (x_runI (n := 0) (As := []) (rest := [.ref q_12, .ref a]) ⟨hx, hb, hml, hown, hts⟩ (cT_init l D tys A ws_13 cI hI (k + 5) q_12 a_14n hwl) tw_80 tw_81 tw_5 tw_82 rfl (by decide +kernel) rfl rfl ⟨by decide, by decide⟩ ⟨by decide, by decide⟩ hK hP hD hS hA hN rfl hl.1 rfl (lv_room (Nat.le_of_ble_eq_true rfl)) dP_init_20) hS (fun ws_18 H locs hws17 hP hD hS => ?_)
  obtain ⟨gs17, ps17⟩ := hws17
  have h_19 := (gs17.2.1 k (by exact kn_lt (i := 0) (j := 5) (by decide))).trans h_15
  have h_20 := (gs17.2.1 (k + 1) (by exact kn_lt (i := 1) (j := 5) (by decide))).trans h_16
  have ps5_c : ∀ j, k + 1 ≤ j → j < k + 5 → ws_18[j]? = ws_6[j]? := fun j a9 b9 => (gs17.2.1 j (by exact Nat.lt_of_lt_of_le b9 (Nat.add_le_add_left (by decide : 5 ≤ 5) k))).trans (ps5_c j a9 b9)
  have ps5_a : ∀ ad, x_ad ad ws_18 → x_ad ad ws_6 := fun ad z9 => ps5_a ad (x_ad.gr a_14n hwl gs17 z9)
  have hlow : ∀ j, j < k → ws_18[j]? = ws[j]? := fun j z9 => (gs17.2.1 j (by exact Nat.lt_of_lt_of_le z9 (Nat.le_add_right k _))).trans (hlow j z9)
  obtain ⟨es17, os17⟩ := gs17.2.2
  have hwl : ws_18.length = k + 9 := gs17.1
  have ps17_c : ∀ j, k + 5 ≤ j → j < k + 9 → ws_18[j]? = ws_18[j]? := fun _ _ _ => rfl
  have ps17_a : ∀ ad, x_ad ad ws_18 → x_ad ad ws_18 := fun _ z9 => z9
  refine va_putF (D := D) (cl := xCl) (ci := 1) (v := .ref q_12) (ty := .object "GraphQuery$Tape") (C := rnP) (T := tbP) (N := 5) hx hb hts inP tyP toP nmP hown hK hP hD hS k h_19 rfl 1 (by decide) (hts _ tw_98) (fun _ h9 => h9) rfl hnm rfl (by decide +kernel) rfl rfl (Nat.le_of_ble_eq_true rfl) dP_init_23 (fun H locs hP hD hS => ?_)
  obtain ⟨ws_22, hu_21, hP, hD⟩ := x_gen h_19 hP hD
  have h_23 : ws_22[k]? = some (a, .inr (1, [.ref q_1, .ref q_12, .null, .int 0, .int 0])) := hu_21.1
  have h_24 := (hu_21.2 (k + 1) (kn_ne (i := 1) (j := 0) (by decide))).trans h_20
  have h_25 := (hu_21.2 (k + 5) (kn_ne (i := 5) (j := 0) (by decide))).trans os17
  have hwl := (x_upd.len h_19 hu_21).trans hwl
  have ps5_c : ∀ j, k + 1 ≤ j → j < k + 5 → ws_22[j]? = ws_6[j]? := fun j a9 b9 => (hu_21.2 j (Nat.ne_of_gt (Nat.lt_of_lt_of_le (kn_lt (i := 0) (j := 1) (by decide)) a9))).trans (ps5_c j a9 b9)
  have ps5_a : ∀ ad, x_ad ad ws_22 → x_ad ad ws_6 := fun ad z9 => ps5_a ad (x_ad.upd h_19 hu_21 z9)
  have ps17_c : ∀ j, k + 5 ≤ j → j < k + 9 → ws_22[j]? = ws_18[j]? := fun j a9 b9 => (hu_21.2 j (Nat.ne_of_gt (Nat.lt_of_lt_of_le (kn_lt (i := 0) (j := 5) (by decide)) a9))).trans (ps17_c j a9 b9)
  have ps17_a : ∀ ad, x_ad ad ws_22 → x_ad ad ws_18 := fun ad z9 => ps17_a ad (x_ad.upd h_19 hu_21 z9)
  have hlow : ∀ j, j < k → ws_22[j]? = ws[j]? := fun j z9 => (hu_21.2 j (Nat.ne_of_lt (Nat.lt_of_lt_of_le z9 (Nat.le_add_right k 0)))).trans (hlow j z9)
  refine lv_aload_n hx hb dP_init_26 rfl (lv_at hl 0 rfl) ?_
  refine lv_bipush (v := 26) hx hb dP_init_27 (by decide) ?_
  refine va_newa (atype := .int) (ty := .int) (a0 := (26, .inl (fun _ => 0))) hx hb (hts _ tw_57) rfl hK hP hD hS hA (fun _ => rfl) (by decide) (by decide) (by decide) (by decide) (by decide) dP_init_29 (fun q_26 cA9 H hK9 hP hD hS => ?_)
  rw [x_ci hI hK hK9] at hP hD
  obtain ⟨ws_27, a_28l, a_28o, a_28n, hP, hD⟩ := x_app hP hD
  rw [hwl] at a_28l a_28n
  have h_29 := (a_28o k (by rw [hwl]; exact kn_lt (i := 0) (j := 9) (by decide))).trans h_23
  have h_30 := (a_28o (k + 1) (by rw [hwl]; exact kn_lt (i := 1) (j := 9) (by decide))).trans h_24
  have h_31 := (a_28o (k + 5) (by rw [hwl]; exact kn_lt (i := 5) (j := 9) (by decide))).trans h_25
  have ps5_c : ∀ j, k + 1 ≤ j → j < k + 5 → ws_27[j]? = ws_6[j]? := fun j a9 b9 => (a_28o j (by rw [hwl]; exact Nat.lt_of_lt_of_le b9 (Nat.add_le_add_left (by decide : 5 ≤ 9) k))).trans (ps5_c j a9 b9)
  have ps5_a : ∀ ad, x_ad ad ws_27 → x_ad ad ws_6 := fun ad z9 => ps5_a ad (x_ad.app a_28o z9)
  have ps17_c : ∀ j, k + 5 ≤ j → j < k + 9 → ws_27[j]? = ws_18[j]? := fun j a9 b9 => (a_28o j (by rw [hwl]; exact Nat.lt_of_lt_of_le b9 (Nat.add_le_add_left (by decide : 9 ≤ 9) k))).trans (ps17_c j a9 b9)
  have ps17_a : ∀ ad, x_ad ad ws_27 → x_ad ad ws_18 := fun ad z9 => ps17_a ad (x_ad.app a_28o z9)
  have hlow : ∀ j, j < k → ws_27[j]? = ws[j]? := fun j z9 => (a_28o j (by rw [hwl]; exact Nat.lt_of_lt_of_le z9 (Nat.le_add_right k _))).trans (hlow j z9)
  have hwl : ws_27.length = k + 10 := a_28l
  refine va_putF (D := D) (cl := xCl) (ci := 1) (v := .ref q_26) (ty := .array .int) (C := rnP) (T := tbP) (N := 5) hx hb hts inP tyP toP nmP hown hK hP hD hS k h_29 rfl 2 (by decide) (hts _ tw_99) (fun _ h9 => h9) rfl hnm rfl (by decide +kernel) rfl rfl (Nat.le_of_ble_eq_true rfl) dP_init_31 (fun H locs hP hD hS => ?_)
  obtain ⟨ws_33, hu_32, hP, hD⟩ := x_gen h_29 hP hD
  have h_34 : ws_33[k]? = some (a, .inr (1, [.ref q_1, .ref q_12, .ref q_26, .int 0, .int 0])) := hu_32.1
  have h_35 := (hu_32.2 (k + 1) (kn_ne (i := 1) (j := 0) (by decide))).trans h_30
  have h_36 := (hu_32.2 (k + 5) (kn_ne (i := 5) (j := 0) (by decide))).trans h_31
  have h_37 := (hu_32.2 (k + 9) (kn_ne (i := 9) (j := 0) (by decide))).trans a_28n
  have hwl := (x_upd.len h_29 hu_32).trans hwl
  have ps5_c : ∀ j, k + 1 ≤ j → j < k + 5 → ws_33[j]? = ws_6[j]? := fun j a9 b9 => (hu_32.2 j (Nat.ne_of_gt (Nat.lt_of_lt_of_le (kn_lt (i := 0) (j := 1) (by decide)) a9))).trans (ps5_c j a9 b9)
  have ps5_a : ∀ ad, x_ad ad ws_33 → x_ad ad ws_6 := fun ad z9 => ps5_a ad (x_ad.upd h_29 hu_32 z9)
  have ps17_c : ∀ j, k + 5 ≤ j → j < k + 9 → ws_33[j]? = ws_18[j]? := fun j a9 b9 => (hu_32.2 j (Nat.ne_of_gt (Nat.lt_of_lt_of_le (kn_lt (i := 0) (j := 5) (by decide)) a9))).trans (ps17_c j a9 b9)
  have ps17_a : ∀ ad, x_ad ad ws_33 → x_ad ad ws_18 := fun ad z9 => ps17_a ad (x_ad.upd h_29 hu_32 z9)
  have hlow : ∀ j, j < k → ws_33[j]? = ws[j]? := fun j z9 => (hu_32.2 j (Nat.ne_of_lt (Nat.lt_of_lt_of_le z9 (Nat.le_add_right k 0)))).trans (hlow j z9)
  refine lv_aload_n hx hb dP_init_34 rfl (lv_at hl 0 rfl) ?_
  refine lv_iconst (v := 0) hx hb dP_init_35 (by decide) ?_
  refine va_put (D := D) (cl := xCl) (ci := 1) (v := .int 0) (ty := .int) (C := rnP) (T := tbP) (N := 5) hx hb hts inP tyP toP nmP hown hK hP hD hS k h_34 rfl 3 (by decide) (hts _ tw_100) (fun _ h9 => h9) rfl (by decide +kernel) rfl rfl (Nat.le_of_ble_eq_true rfl) dP_init_36 (fun H locs hP hD hS => ?_)
  obtain ⟨ws_39, hu_38, hP, hD⟩ := x_gen h_34 hP hD
  have h_40 : ws_39[k]? = some (a, .inr (1, [.ref q_1, .ref q_12, .ref q_26, .int 0, .int 0])) := hu_38.1
  have h_41 := (hu_38.2 (k + 1) (kn_ne (i := 1) (j := 0) (by decide))).trans h_35
  have h_42 := (hu_38.2 (k + 5) (kn_ne (i := 5) (j := 0) (by decide))).trans h_36
  have h_43 := (hu_38.2 (k + 9) (kn_ne (i := 9) (j := 0) (by decide))).trans h_37
  have hwl := (x_upd.len h_34 hu_38).trans hwl
  have ps5_c : ∀ j, k + 1 ≤ j → j < k + 5 → ws_39[j]? = ws_6[j]? := fun j a9 b9 => (hu_38.2 j (Nat.ne_of_gt (Nat.lt_of_lt_of_le (kn_lt (i := 0) (j := 1) (by decide)) a9))).trans (ps5_c j a9 b9)
  have ps5_a : ∀ ad, x_ad ad ws_39 → x_ad ad ws_6 := fun ad z9 => ps5_a ad (x_ad.upd h_34 hu_38 z9)
  have ps17_c : ∀ j, k + 5 ≤ j → j < k + 9 → ws_39[j]? = ws_18[j]? := fun j a9 b9 => (hu_38.2 j (Nat.ne_of_gt (Nat.lt_of_lt_of_le (kn_lt (i := 0) (j := 5) (by decide)) a9))).trans (ps17_c j a9 b9)
  have ps17_a : ∀ ad, x_ad ad ws_39 → x_ad ad ws_18 := fun ad z9 => ps17_a ad (x_ad.upd h_34 hu_38 z9)
  have hlow : ∀ j, j < k → ws_39[j]? = ws[j]? := fun j z9 => (hu_38.2 j (Nat.ne_of_lt (Nat.lt_of_lt_of_le z9 (Nat.le_add_right k 0)))).trans (hlow j z9)
  refine lv_aload_n hx hb dP_init_39 rfl (lv_at hl 0 rfl) ?_
  refine lv_iconst (v := 0) hx hb dP_init_40 (by decide) ?_
  refine va_put (D := D) (cl := xCl) (ci := 1) (v := .int 0) (ty := .int) (C := rnP) (T := tbP) (N := 5) hx hb hts inP tyP toP nmP hown hK hP hD hS k h_40 rfl 4 (by decide) (hts _ tw_101) (fun _ h9 => h9) rfl (by decide +kernel) rfl rfl (Nat.le_of_ble_eq_true rfl) dP_init_41 (fun H locs hP hD hS => ?_)
  obtain ⟨ws_45, hu_44, hP, hD⟩ := x_gen h_40 hP hD
  have h_46 : ws_45[k]? = some (a, .inr (1, [.ref q_1, .ref q_12, .ref q_26, .int 0, .int 0])) := hu_44.1
  have h_47 := (hu_44.2 (k + 1) (kn_ne (i := 1) (j := 0) (by decide))).trans h_41
  have h_48 := (hu_44.2 (k + 5) (kn_ne (i := 5) (j := 0) (by decide))).trans h_42
  have h_49 := (hu_44.2 (k + 9) (kn_ne (i := 9) (j := 0) (by decide))).trans h_43
  have hwl := (x_upd.len h_40 hu_44).trans hwl
  have ps5_c : ∀ j, k + 1 ≤ j → j < k + 5 → ws_45[j]? = ws_6[j]? := fun j a9 b9 => (hu_44.2 j (Nat.ne_of_gt (Nat.lt_of_lt_of_le (kn_lt (i := 0) (j := 1) (by decide)) a9))).trans (ps5_c j a9 b9)
  have ps5_a : ∀ ad, x_ad ad ws_45 → x_ad ad ws_6 := fun ad z9 => ps5_a ad (x_ad.upd h_40 hu_44 z9)
  have ps17_c : ∀ j, k + 5 ≤ j → j < k + 9 → ws_45[j]? = ws_18[j]? := fun j a9 b9 => (hu_44.2 j (Nat.ne_of_gt (Nat.lt_of_lt_of_le (kn_lt (i := 0) (j := 5) (by decide)) a9))).trans (ps17_c j a9 b9)
  have ps17_a : ∀ ad, x_ad ad ws_45 → x_ad ad ws_18 := fun ad z9 => ps17_a ad (x_ad.upd h_40 hu_44 z9)
  have hlow : ∀ j, j < k → ws_45[j]? = ws[j]? := fun j z9 => (hu_44.2 j (Nat.ne_of_lt (Nat.lt_of_lt_of_le z9 (Nat.le_add_right k 0)))).trans (hlow j z9)
  exact x_vret hx hb hr hlk hK hP hD hS dP_init_44 (by refine ⟨⟨hwl, hlow, _, h_46⟩, fun ad z9 => ?_⟩; have e0 : a = ad k := z9 k _ h_46; have e1 : q_1 = ad (k + 1) := z9 (k + 1) _ h_47; have e2 : q_12 = ad (k + 5) := z9 (k + 5) _ h_48; have e3 : q_26 = ad (k + 9) := z9 (k + 9) _ h_49; subst e0; subst e1; subst e2; subst e3; exact ⟨h_46, (ps5 ad (ps5_a ad z9)).cg ps5_c, (ps17 ad (ps17_a ad z9)).cg ps17_c, h_49, Nat.zero_le _⟩)

theorem gD_nil (t : Nat) : gD ([] : Gr) t = [] := by unfold gD; simp
theorem GrOK_nil : GrOK ([] : Gr) := ⟨by decide, fun t h => absurd h (Nat.not_lt_zero _), fun t u h => absurd h (Nat.not_lt_zero _), fun t => by rw [gD_nil]; exact ⟨List.nodup_nil, Nat.zero_le _, fun u hu => by cases hu⟩⟩
theorem MR_0 {v : Nat → Int32} (h1 : v 1 = 0) (h8 : v 8 = 0) (h34 : v 34 = 0) (h35 : v 35 = 0) (h36 : v 36 = -1) : MR ([], [], [], 0, -1) v (fun _ _ => 0) :=
  ⟨⟨GrOK_nil, h1, fun t h => absurd h (Nat.not_lt_zero _), fun t _ => by rw [gD_nil]; rfl, fun t i _ h => by rw [gD_nil] at h; exact absurd h (Nat.not_lt_zero _)⟩, ⟨h8, Nat.zero_le _, fun i h => absurd h (Nat.not_lt_zero _), fun c h => by cases h⟩, ⟨h34, Nat.zero_le _, fun i h => absurd h (Nat.not_lt_zero _)⟩, h35, h36, Or.inl rfl⟩

set_option maxHeartbeats 4000000 in
set_option maxRecDepth 100000 in
theorem cM_init (l : Launch) (D : va_G) (tys : List (ClassId × FieldType)) (A : Nat → Prop) (ws : va_W) (cI : ClassId) (hI : tys[0]? = some (cI, .int)) (k a : Nat) (hk0 : ws[k]? = some (a, .inr (7, [.int 0, .int 0, .null, .null, .null, .null, .null, .null, .int 0, .int 0, .int 0, .int 0, .int 0, .int 0, .null, .null, .null, .null, .int 0, .null, .null, .null, .int 0, .null, .null, .null, .null, .null, .int 0, .int 0, .int 0, .null, .null, .null, .int 0, .int 0, .int 0, .null, .null]))) (hwl : ws.length = k + 1) : x_Mv l yM_init wM_init ({ frames := 1, cells := 23, slots := 4872, locals := 120 }) D xCl tys A [.ref a] ws (fun ws1 => x_gr k 23 a ws ws1 ∧ ∀ ad, x_ad ad ws1 → ModelAt cI ad ws1 k ([], [], [], 0, -1)) := by
  have hlow : ∀ j, j < k → ws[j]? = ws[j]? := fun _ _ => rfl
  refine x_enter (by decide) rfl (Nat.le_of_ble_eq_true rfl) (fun p e s m args below meth c ls hx hb hr hlk hml hown hnm hts hK hP hD hS hA hN hl => ?_)
  have hl : lv_has ls 1 [(0, .ref a)] := hl
  refine lv_aload_n hx hb dM_init_0 rfl (lv_at hl 0 rfl) ?_
  refine W.objInit hx hb hown (hts _ tw_616) (hts _ tw_21) (hts _ tw_22) rfl (by rw [hml]; exact hl.1) rfl dM_init_1 (Nat.le_of_ble_eq_true rfl) (Nat.le_of_ble_eq_true rfl) ?_
  refine W.eq (g2 := F0 m 4 ls []) rfl ?_
  refine lv_aload_n hx hb dM_init_4 rfl (lv_at hl 0 rfl) ?_
  refine lv_bipush (v := 30) hx hb dM_init_5 (by decide) ?_
  refine va_newa (atype := .int) (ty := .int) (a0 := (30, .inl (fun _ => 0))) hx hb (hts _ tw_57) rfl hK hP hD hS hA (fun _ => rfl) (by decide) (by decide) (by decide) (by decide) (by decide) dM_init_7 (fun q_1 cA9 H hK9 hP hD hS => ?_)
  rw [x_ci hI hK hK9] at hP hD
  obtain ⟨ws_2, a_3l, a_3o, a_3n, hP, hD⟩ := x_app hP hD
  rw [hwl] at a_3l a_3n
  have h_4 := (a_3o k (by rw [hwl]; exact kn_lt (i := 0) (j := 1) (by decide))).trans hk0
  have hlow : ∀ j, j < k → ws_2[j]? = ws[j]? := fun j z9 => (a_3o j (by rw [hwl]; exact Nat.lt_of_lt_of_le z9 (Nat.le_add_right k _))).trans (hlow j z9)
  have hwl : ws_2.length = k + 2 := a_3l
  refine va_putF (D := D) (cl := xCl) (ci := 7) (v := .ref q_1) (ty := .array .int) (C := rnM) (T := tbM) (N := 39) hx hb hts inM tyM toM nmM hown hK hP hD hS k h_4 rfl 2 (by decide) (hts _ tw_619) (fun _ h9 => h9) rfl hnm rfl (by decide +kernel) rfl rfl (Nat.le_of_ble_eq_true rfl) dM_init_9 (fun H locs hP hD hS => ?_)
  obtain ⟨ws_6, hu_5, hP, hD⟩ := x_gen h_4 hP hD
  have h_7 : ws_6[k]? = some (a, .inr (7, [.int 0, .int 0, .ref q_1, .null, .null, .null, .null, .null, .int 0, .int 0, .int 0, .int 0, .int 0, .int 0, .null, .null, .null, .null, .int 0, .null, .null, .null, .int 0, .null, .null, .null, .null, .null, .int 0, .int 0, .int 0, .null, .null, .null, .int 0, .int 0, .int 0, .null, .null])) := hu_5.1
  have h_8 := (hu_5.2 (k + 1) (kn_ne (i := 1) (j := 0) (by decide))).trans a_3n
  have hwl := (x_upd.len h_4 hu_5).trans hwl
  have hlow : ∀ j, j < k → ws_6[j]? = ws[j]? := fun j z9 => (hu_5.2 j (Nat.ne_of_lt (Nat.lt_of_lt_of_le z9 (Nat.le_add_right k 0)))).trans (hlow j z9)
  refine lv_aload_n hx hb dM_init_12 rfl (lv_at hl 0 rfl) ?_
  refine lv_bipush (v := 30) hx hb dM_init_13 (by decide) ?_
  refine va_newa (atype := .int) (ty := .int) (a0 := (30, .inl (fun _ => 0))) hx hb (hts _ tw_57) rfl hK hP hD hS hA (fun _ => rfl) (by decide) (by decide) (by decide) (by decide) (by decide) dM_init_15 (fun q_9 cA9 H hK9 hP hD hS => ?_)
  rw [x_ci hI hK hK9] at hP hD
  obtain ⟨ws_10, a_11l, a_11o, a_11n, hP, hD⟩ := x_app hP hD
  rw [hwl] at a_11l a_11n
  have h_12 := (a_11o k (by rw [hwl]; exact kn_lt (i := 0) (j := 2) (by decide))).trans h_7
  have h_13 := (a_11o (k + 1) (by rw [hwl]; exact kn_lt (i := 1) (j := 2) (by decide))).trans h_8
  have hlow : ∀ j, j < k → ws_10[j]? = ws[j]? := fun j z9 => (a_11o j (by rw [hwl]; exact Nat.lt_of_lt_of_le z9 (Nat.le_add_right k _))).trans (hlow j z9)
  have hwl : ws_10.length = k + 3 := a_11l
  refine va_putF (D := D) (cl := xCl) (ci := 7) (v := .ref q_9) (ty := .array .int) (C := rnM) (T := tbM) (N := 39) hx hb hts inM tyM toM nmM hown hK hP hD hS k h_12 rfl 3 (by decide) (hts _ tw_620) (fun _ h9 => h9) rfl hnm rfl (by decide +kernel) rfl rfl (Nat.le_of_ble_eq_true rfl) dM_init_17 (fun H locs hP hD hS => ?_)
  obtain ⟨ws_15, hu_14, hP, hD⟩ := x_gen h_12 hP hD
  have h_16 : ws_15[k]? = some (a, .inr (7, [.int 0, .int 0, .ref q_1, .ref q_9, .null, .null, .null, .null, .int 0, .int 0, .int 0, .int 0, .int 0, .int 0, .null, .null, .null, .null, .int 0, .null, .null, .null, .int 0, .null, .null, .null, .null, .null, .int 0, .int 0, .int 0, .null, .null, .null, .int 0, .int 0, .int 0, .null, .null])) := hu_14.1
  have h_17 := (hu_14.2 (k + 1) (kn_ne (i := 1) (j := 0) (by decide))).trans h_13
  have h_18 := (hu_14.2 (k + 2) (kn_ne (i := 2) (j := 0) (by decide))).trans a_11n
  have hwl := (x_upd.len h_12 hu_14).trans hwl
  have hlow : ∀ j, j < k → ws_15[j]? = ws[j]? := fun j z9 => (hu_14.2 j (Nat.ne_of_lt (Nat.lt_of_lt_of_le z9 (Nat.le_add_right k 0)))).trans (hlow j z9)
  refine lv_aload_n hx hb dM_init_20 rfl (lv_at hl 0 rfl) ?_
  refine lv_bipush (v := 30) hx hb dM_init_21 (by decide) ?_
  refine va_newa (atype := .int) (ty := .int) (a0 := (30, .inl (fun _ => 0))) hx hb (hts _ tw_57) rfl hK hP hD hS hA (fun _ => rfl) (by decide) (by decide) (by decide) (by decide) (by decide) dM_init_23 (fun q_19 cA9 H hK9 hP hD hS => ?_)
  rw [x_ci hI hK hK9] at hP hD
  obtain ⟨ws_20, a_21l, a_21o, a_21n, hP, hD⟩ := x_app hP hD
  rw [hwl] at a_21l a_21n
  have h_22 := (a_21o k (by rw [hwl]; exact kn_lt (i := 0) (j := 3) (by decide))).trans h_16
  have h_23 := (a_21o (k + 1) (by rw [hwl]; exact kn_lt (i := 1) (j := 3) (by decide))).trans h_17
  have h_24 := (a_21o (k + 2) (by rw [hwl]; exact kn_lt (i := 2) (j := 3) (by decide))).trans h_18
  have hlow : ∀ j, j < k → ws_20[j]? = ws[j]? := fun j z9 => (a_21o j (by rw [hwl]; exact Nat.lt_of_lt_of_le z9 (Nat.le_add_right k _))).trans (hlow j z9)
  have hwl : ws_20.length = k + 4 := a_21l
  refine va_putF (D := D) (cl := xCl) (ci := 7) (v := .ref q_19) (ty := .array .int) (C := rnM) (T := tbM) (N := 39) hx hb hts inM tyM toM nmM hown hK hP hD hS k h_22 rfl 4 (by decide) (hts _ tw_621) (fun _ h9 => h9) rfl hnm rfl (by decide +kernel) rfl rfl (Nat.le_of_ble_eq_true rfl) dM_init_25 (fun H locs hP hD hS => ?_)
  obtain ⟨ws_26, hu_25, hP, hD⟩ := x_gen h_22 hP hD
  have h_27 : ws_26[k]? = some (a, .inr (7, [.int 0, .int 0, .ref q_1, .ref q_9, .ref q_19, .null, .null, .null, .int 0, .int 0, .int 0, .int 0, .int 0, .int 0, .null, .null, .null, .null, .int 0, .null, .null, .null, .int 0, .null, .null, .null, .null, .null, .int 0, .int 0, .int 0, .null, .null, .null, .int 0, .int 0, .int 0, .null, .null])) := hu_25.1
  have h_28 := (hu_25.2 (k + 1) (kn_ne (i := 1) (j := 0) (by decide))).trans h_23
  have h_29 := (hu_25.2 (k + 2) (kn_ne (i := 2) (j := 0) (by decide))).trans h_24
  have h_30 := (hu_25.2 (k + 3) (kn_ne (i := 3) (j := 0) (by decide))).trans a_21n
  have hwl := (x_upd.len h_22 hu_25).trans hwl
  have hlow : ∀ j, j < k → ws_26[j]? = ws[j]? := fun j z9 => (hu_25.2 j (Nat.ne_of_lt (Nat.lt_of_lt_of_le z9 (Nat.le_add_right k 0)))).trans (hlow j z9)
  refine lv_aload_n hx hb dM_init_28 rfl (lv_at hl 0 rfl) ?_
  refine lv_bipush (v := 30) hx hb dM_init_29 (by decide) ?_
  refine va_newa (atype := .int) (ty := .int) (a0 := (30, .inl (fun _ => 0))) hx hb (hts _ tw_57) rfl hK hP hD hS hA (fun _ => rfl) (by decide) (by decide) (by decide) (by decide) (by decide) dM_init_31 (fun q_31 cA9 H hK9 hP hD hS => ?_)
  rw [x_ci hI hK hK9] at hP hD
  obtain ⟨ws_32, a_33l, a_33o, a_33n, hP, hD⟩ := x_app hP hD
  rw [hwl] at a_33l a_33n
  have h_34 := (a_33o k (by rw [hwl]; exact kn_lt (i := 0) (j := 4) (by decide))).trans h_27
  have h_35 := (a_33o (k + 1) (by rw [hwl]; exact kn_lt (i := 1) (j := 4) (by decide))).trans h_28
  have h_36 := (a_33o (k + 2) (by rw [hwl]; exact kn_lt (i := 2) (j := 4) (by decide))).trans h_29
  have h_37 := (a_33o (k + 3) (by rw [hwl]; exact kn_lt (i := 3) (j := 4) (by decide))).trans h_30
  have hlow : ∀ j, j < k → ws_32[j]? = ws[j]? := fun j z9 => (a_33o j (by rw [hwl]; exact Nat.lt_of_lt_of_le z9 (Nat.le_add_right k _))).trans (hlow j z9)
  have hwl : ws_32.length = k + 5 := a_33l
  refine va_putF (D := D) (cl := xCl) (ci := 7) (v := .ref q_31) (ty := .array .int) (C := rnM) (T := tbM) (N := 39) hx hb hts inM tyM toM nmM hown hK hP hD hS k h_34 rfl 5 (by decide) (hts _ tw_622) (fun _ h9 => h9) rfl hnm rfl (by decide +kernel) rfl rfl (Nat.le_of_ble_eq_true rfl) dM_init_33 (fun H locs hP hD hS => ?_)
  obtain ⟨ws_39, hu_38, hP, hD⟩ := x_gen h_34 hP hD
  have h_40 : ws_39[k]? = some (a, .inr (7, [.int 0, .int 0, .ref q_1, .ref q_9, .ref q_19, .ref q_31, .null, .null, .int 0, .int 0, .int 0, .int 0, .int 0, .int 0, .null, .null, .null, .null, .int 0, .null, .null, .null, .int 0, .null, .null, .null, .null, .null, .int 0, .int 0, .int 0, .null, .null, .null, .int 0, .int 0, .int 0, .null, .null])) := hu_38.1
  have h_41 := (hu_38.2 (k + 1) (kn_ne (i := 1) (j := 0) (by decide))).trans h_35
  have h_42 := (hu_38.2 (k + 2) (kn_ne (i := 2) (j := 0) (by decide))).trans h_36
  have h_43 := (hu_38.2 (k + 3) (kn_ne (i := 3) (j := 0) (by decide))).trans h_37
  have h_44 := (hu_38.2 (k + 4) (kn_ne (i := 4) (j := 0) (by decide))).trans a_33n
  have hwl := (x_upd.len h_34 hu_38).trans hwl
  have hlow : ∀ j, j < k → ws_39[j]? = ws[j]? := fun j z9 => (hu_38.2 j (Nat.ne_of_lt (Nat.lt_of_lt_of_le z9 (Nat.le_add_right k 0)))).trans (hlow j z9)
  refine lv_aload_n hx hb dM_init_36 rfl (lv_at hl 0 rfl) ?_
  refine lv_sipush (v := 240) hx hb dM_init_37 (by decide) ?_
  refine va_newa (atype := .int) (ty := .int) (a0 := (240, .inl (fun _ => 0))) hx hb (hts _ tw_57) rfl hK hP hD hS hA (fun _ => rfl) (by decide) (by decide) (by decide) (by decide) (by decide) dM_init_40 (fun q_45 cA9 H hK9 hP hD hS => ?_)
  rw [x_ci hI hK hK9] at hP hD
  obtain ⟨ws_46, a_47l, a_47o, a_47n, hP, hD⟩ := x_app hP hD
  rw [hwl] at a_47l a_47n
  have h_48 := (a_47o k (by rw [hwl]; exact kn_lt (i := 0) (j := 5) (by decide))).trans h_40
  have h_49 := (a_47o (k + 1) (by rw [hwl]; exact kn_lt (i := 1) (j := 5) (by decide))).trans h_41
  have h_50 := (a_47o (k + 2) (by rw [hwl]; exact kn_lt (i := 2) (j := 5) (by decide))).trans h_42
  have h_51 := (a_47o (k + 3) (by rw [hwl]; exact kn_lt (i := 3) (j := 5) (by decide))).trans h_43
  have h_52 := (a_47o (k + 4) (by rw [hwl]; exact kn_lt (i := 4) (j := 5) (by decide))).trans h_44
  have hlow : ∀ j, j < k → ws_46[j]? = ws[j]? := fun j z9 => (a_47o j (by rw [hwl]; exact Nat.lt_of_lt_of_le z9 (Nat.le_add_right k _))).trans (hlow j z9)
  have hwl : ws_46.length = k + 6 := a_47l
  refine va_putF (D := D) (cl := xCl) (ci := 7) (v := .ref q_45) (ty := .array .int) (C := rnM) (T := tbM) (N := 39) hx hb hts inM tyM toM nmM hown hK hP hD hS k h_48 rfl 6 (by decide) (hts _ tw_623) (fun _ h9 => h9) rfl hnm rfl (by decide +kernel) rfl rfl (Nat.le_of_ble_eq_true rfl) dM_init_42 (fun H locs hP hD hS => ?_)
  obtain ⟨ws_54, hu_53, hP, hD⟩ := x_gen h_48 hP hD
  have h_55 : ws_54[k]? = some (a, .inr (7, [.int 0, .int 0, .ref q_1, .ref q_9, .ref q_19, .ref q_31, .ref q_45, .null, .int 0, .int 0, .int 0, .int 0, .int 0, .int 0, .null, .null, .null, .null, .int 0, .null, .null, .null, .int 0, .null, .null, .null, .null, .null, .int 0, .int 0, .int 0, .null, .null, .null, .int 0, .int 0, .int 0, .null, .null])) := hu_53.1
  have h_56 := (hu_53.2 (k + 1) (kn_ne (i := 1) (j := 0) (by decide))).trans h_49
  have h_57 := (hu_53.2 (k + 2) (kn_ne (i := 2) (j := 0) (by decide))).trans h_50
  have h_58 := (hu_53.2 (k + 3) (kn_ne (i := 3) (j := 0) (by decide))).trans h_51
  have h_59 := (hu_53.2 (k + 4) (kn_ne (i := 4) (j := 0) (by decide))).trans h_52
  have h_60 := (hu_53.2 (k + 5) (kn_ne (i := 5) (j := 0) (by decide))).trans a_47n
  have hwl := (x_upd.len h_48 hu_53).trans hwl
  have hlow : ∀ j, j < k → ws_54[j]? = ws[j]? := fun j z9 => (hu_53.2 j (Nat.ne_of_lt (Nat.lt_of_lt_of_le z9 (Nat.le_add_right k 0)))).trans (hlow j z9)
  refine lv_aload_n hx hb dM_init_45 rfl (lv_at hl 0 rfl) ?_
  refine lv_bipush (v := 80) hx hb dM_init_46 (by decide) ?_
  refine va_newa (atype := .int) (ty := .int) (a0 := (80, .inl (fun _ => 0))) hx hb (hts _ tw_57) rfl hK hP hD hS hA (fun _ => rfl) (by decide) (by decide) (by decide) (by decide) (by decide) dM_init_48 (fun q_61 cA9 H hK9 hP hD hS => ?_)
  rw [x_ci hI hK hK9] at hP hD
  obtain ⟨ws_62, a_63l, a_63o, a_63n, hP, hD⟩ := x_app hP hD
  rw [hwl] at a_63l a_63n
  have h_64 := (a_63o k (by rw [hwl]; exact kn_lt (i := 0) (j := 6) (by decide))).trans h_55
  have h_65 := (a_63o (k + 1) (by rw [hwl]; exact kn_lt (i := 1) (j := 6) (by decide))).trans h_56
  have h_66 := (a_63o (k + 2) (by rw [hwl]; exact kn_lt (i := 2) (j := 6) (by decide))).trans h_57
  have h_67 := (a_63o (k + 3) (by rw [hwl]; exact kn_lt (i := 3) (j := 6) (by decide))).trans h_58
  have h_68 := (a_63o (k + 4) (by rw [hwl]; exact kn_lt (i := 4) (j := 6) (by decide))).trans h_59
  have h_69 := (a_63o (k + 5) (by rw [hwl]; exact kn_lt (i := 5) (j := 6) (by decide))).trans h_60
  have hlow : ∀ j, j < k → ws_62[j]? = ws[j]? := fun j z9 => (a_63o j (by rw [hwl]; exact Nat.lt_of_lt_of_le z9 (Nat.le_add_right k _))).trans (hlow j z9)
  have hwl : ws_62.length = k + 7 := a_63l
  refine va_putF (D := D) (cl := xCl) (ci := 7) (v := .ref q_61) (ty := .array .int) (C := rnM) (T := tbM) (N := 39) hx hb hts inM tyM toM nmM hown hK hP hD hS k h_64 rfl 7 (by decide) (hts _ tw_624) (fun _ h9 => h9) rfl hnm rfl (by decide +kernel) rfl rfl (Nat.le_of_ble_eq_true rfl) dM_init_50 (fun H locs hP hD hS => ?_)
  obtain ⟨ws_71, hu_70, hP, hD⟩ := x_gen h_64 hP hD
  have h_72 : ws_71[k]? = some (a, .inr (7, [.int 0, .int 0, .ref q_1, .ref q_9, .ref q_19, .ref q_31, .ref q_45, .ref q_61, .int 0, .int 0, .int 0, .int 0, .int 0, .int 0, .null, .null, .null, .null, .int 0, .null, .null, .null, .int 0, .null, .null, .null, .null, .null, .int 0, .int 0, .int 0, .null, .null, .null, .int 0, .int 0, .int 0, .null, .null])) := hu_70.1
  have h_73 := (hu_70.2 (k + 1) (kn_ne (i := 1) (j := 0) (by decide))).trans h_65
  have h_74 := (hu_70.2 (k + 2) (kn_ne (i := 2) (j := 0) (by decide))).trans h_66
  have h_75 := (hu_70.2 (k + 3) (kn_ne (i := 3) (j := 0) (by decide))).trans h_67
  have h_76 := (hu_70.2 (k + 4) (kn_ne (i := 4) (j := 0) (by decide))).trans h_68
  have h_77 := (hu_70.2 (k + 5) (kn_ne (i := 5) (j := 0) (by decide))).trans h_69
  have h_78 := (hu_70.2 (k + 6) (kn_ne (i := 6) (j := 0) (by decide))).trans a_63n
  have hwl := (x_upd.len h_64 hu_70).trans hwl
  have hlow : ∀ j, j < k → ws_71[j]? = ws[j]? := fun j z9 => (hu_70.2 j (Nat.ne_of_lt (Nat.lt_of_lt_of_le z9 (Nat.le_add_right k 0)))).trans (hlow j z9)
  refine lv_aload_n hx hb dM_init_53 rfl (lv_at hl 0 rfl) ?_
  refine lv_sipush (v := 400) hx hb dM_init_54 (by decide) ?_
  refine va_newa (atype := .int) (ty := .int) (a0 := (400, .inl (fun _ => 0))) hx hb (hts _ tw_57) rfl hK hP hD hS hA (fun _ => rfl) (by decide) (by decide) (by decide) (by decide) (by decide) dM_init_57 (fun q_79 cA9 H hK9 hP hD hS => ?_)
  rw [x_ci hI hK hK9] at hP hD
  obtain ⟨ws_80, a_81l, a_81o, a_81n, hP, hD⟩ := x_app hP hD
  rw [hwl] at a_81l a_81n
  have h_82 := (a_81o k (by rw [hwl]; exact kn_lt (i := 0) (j := 7) (by decide))).trans h_72
  have h_83 := (a_81o (k + 1) (by rw [hwl]; exact kn_lt (i := 1) (j := 7) (by decide))).trans h_73
  have h_84 := (a_81o (k + 2) (by rw [hwl]; exact kn_lt (i := 2) (j := 7) (by decide))).trans h_74
  have h_85 := (a_81o (k + 3) (by rw [hwl]; exact kn_lt (i := 3) (j := 7) (by decide))).trans h_75
  have h_86 := (a_81o (k + 4) (by rw [hwl]; exact kn_lt (i := 4) (j := 7) (by decide))).trans h_76
  have h_87 := (a_81o (k + 5) (by rw [hwl]; exact kn_lt (i := 5) (j := 7) (by decide))).trans h_77
  have h_88 := (a_81o (k + 6) (by rw [hwl]; exact kn_lt (i := 6) (j := 7) (by decide))).trans h_78
  have hlow : ∀ j, j < k → ws_80[j]? = ws[j]? := fun j z9 => (a_81o j (by rw [hwl]; exact Nat.lt_of_lt_of_le z9 (Nat.le_add_right k _))).trans (hlow j z9)
  have hwl : ws_80.length = k + 8 := a_81l
  refine va_putF (D := D) (cl := xCl) (ci := 7) (v := .ref q_79) (ty := .array .int) (C := rnM) (T := tbM) (N := 39) hx hb hts inM tyM toM nmM hown hK hP hD hS k h_82 rfl 14 (by decide) (hts _ tw_631) (fun _ h9 => h9) rfl hnm rfl (by decide +kernel) rfl rfl (Nat.le_of_ble_eq_true rfl) dM_init_59 (fun H locs hP hD hS => ?_)
  obtain ⟨ws_90, hu_89, hP, hD⟩ := x_gen h_82 hP hD
  have h_91 : ws_90[k]? = some (a, .inr (7, [.int 0, .int 0, .ref q_1, .ref q_9, .ref q_19, .ref q_31, .ref q_45, .ref q_61, .int 0, .int 0, .int 0, .int 0, .int 0, .int 0, .ref q_79, .null, .null, .null, .int 0, .null, .null, .null, .int 0, .null, .null, .null, .null, .null, .int 0, .int 0, .int 0, .null, .null, .null, .int 0, .int 0, .int 0, .null, .null])) := hu_89.1
  have h_92 := (hu_89.2 (k + 1) (kn_ne (i := 1) (j := 0) (by decide))).trans h_83
  have h_93 := (hu_89.2 (k + 2) (kn_ne (i := 2) (j := 0) (by decide))).trans h_84
  have h_94 := (hu_89.2 (k + 3) (kn_ne (i := 3) (j := 0) (by decide))).trans h_85
  have h_95 := (hu_89.2 (k + 4) (kn_ne (i := 4) (j := 0) (by decide))).trans h_86
  have h_96 := (hu_89.2 (k + 5) (kn_ne (i := 5) (j := 0) (by decide))).trans h_87
  have h_97 := (hu_89.2 (k + 6) (kn_ne (i := 6) (j := 0) (by decide))).trans h_88
  have h_98 := (hu_89.2 (k + 7) (kn_ne (i := 7) (j := 0) (by decide))).trans a_81n
  have hwl := (x_upd.len h_82 hu_89).trans hwl
  have hlow : ∀ j, j < k → ws_90[j]? = ws[j]? := fun j z9 => (hu_89.2 j (Nat.ne_of_lt (Nat.lt_of_lt_of_le z9 (Nat.le_add_right k 0)))).trans (hlow j z9)
  refine lv_aload_n hx hb dM_init_62 rfl (lv_at hl 0 rfl) ?_
  refine lv_sipush (v := 400) hx hb dM_init_63 (by decide) ?_
  refine va_newa (atype := .int) (ty := .int) (a0 := (400, .inl (fun _ => 0))) hx hb (hts _ tw_57) rfl hK hP hD hS hA (fun _ => rfl) (by decide) (by decide) (by decide) (by decide) (by decide) dM_init_66 (fun q_99 cA9 H hK9 hP hD hS => ?_)
  rw [x_ci hI hK hK9] at hP hD
  obtain ⟨ws_100, a_101l, a_101o, a_101n, hP, hD⟩ := x_app hP hD
  rw [hwl] at a_101l a_101n
  have h_102 := (a_101o k (by rw [hwl]; exact kn_lt (i := 0) (j := 8) (by decide))).trans h_91
  have h_103 := (a_101o (k + 1) (by rw [hwl]; exact kn_lt (i := 1) (j := 8) (by decide))).trans h_92
  have h_104 := (a_101o (k + 2) (by rw [hwl]; exact kn_lt (i := 2) (j := 8) (by decide))).trans h_93
  have h_105 := (a_101o (k + 3) (by rw [hwl]; exact kn_lt (i := 3) (j := 8) (by decide))).trans h_94
  have h_106 := (a_101o (k + 4) (by rw [hwl]; exact kn_lt (i := 4) (j := 8) (by decide))).trans h_95
  have h_107 := (a_101o (k + 5) (by rw [hwl]; exact kn_lt (i := 5) (j := 8) (by decide))).trans h_96
  have h_108 := (a_101o (k + 6) (by rw [hwl]; exact kn_lt (i := 6) (j := 8) (by decide))).trans h_97
  have h_109 := (a_101o (k + 7) (by rw [hwl]; exact kn_lt (i := 7) (j := 8) (by decide))).trans h_98
  have hlow : ∀ j, j < k → ws_100[j]? = ws[j]? := fun j z9 => (a_101o j (by rw [hwl]; exact Nat.lt_of_lt_of_le z9 (Nat.le_add_right k _))).trans (hlow j z9)
  have hwl : ws_100.length = k + 9 := a_101l
  refine va_putF (D := D) (cl := xCl) (ci := 7) (v := .ref q_99) (ty := .array .int) (C := rnM) (T := tbM) (N := 39) hx hb hts inM tyM toM nmM hown hK hP hD hS k h_102 rfl 15 (by decide) (hts _ tw_632) (fun _ h9 => h9) rfl hnm rfl (by decide +kernel) rfl rfl (Nat.le_of_ble_eq_true rfl) dM_init_68 (fun H locs hP hD hS => ?_)
  obtain ⟨ws_111, hu_110, hP, hD⟩ := x_gen h_102 hP hD
  have h_112 : ws_111[k]? = some (a, .inr (7, [.int 0, .int 0, .ref q_1, .ref q_9, .ref q_19, .ref q_31, .ref q_45, .ref q_61, .int 0, .int 0, .int 0, .int 0, .int 0, .int 0, .ref q_79, .ref q_99, .null, .null, .int 0, .null, .null, .null, .int 0, .null, .null, .null, .null, .null, .int 0, .int 0, .int 0, .null, .null, .null, .int 0, .int 0, .int 0, .null, .null])) := hu_110.1
  have h_113 := (hu_110.2 (k + 1) (kn_ne (i := 1) (j := 0) (by decide))).trans h_103
  have h_114 := (hu_110.2 (k + 2) (kn_ne (i := 2) (j := 0) (by decide))).trans h_104
  have h_115 := (hu_110.2 (k + 3) (kn_ne (i := 3) (j := 0) (by decide))).trans h_105
  have h_116 := (hu_110.2 (k + 4) (kn_ne (i := 4) (j := 0) (by decide))).trans h_106
  have h_117 := (hu_110.2 (k + 5) (kn_ne (i := 5) (j := 0) (by decide))).trans h_107
  have h_118 := (hu_110.2 (k + 6) (kn_ne (i := 6) (j := 0) (by decide))).trans h_108
  have h_119 := (hu_110.2 (k + 7) (kn_ne (i := 7) (j := 0) (by decide))).trans h_109
  have h_120 := (hu_110.2 (k + 8) (kn_ne (i := 8) (j := 0) (by decide))).trans a_101n
  have hwl := (x_upd.len h_102 hu_110).trans hwl
  have hlow : ∀ j, j < k → ws_111[j]? = ws[j]? := fun j z9 => (hu_110.2 j (Nat.ne_of_lt (Nat.lt_of_lt_of_le z9 (Nat.le_add_right k 0)))).trans (hlow j z9)
  refine lv_aload_n hx hb dM_init_71 rfl (lv_at hl 0 rfl) ?_
  refine lv_sipush (v := 400) hx hb dM_init_72 (by decide) ?_
  refine va_newa (atype := .int) (ty := .int) (a0 := (400, .inl (fun _ => 0))) hx hb (hts _ tw_57) rfl hK hP hD hS hA (fun _ => rfl) (by decide) (by decide) (by decide) (by decide) (by decide) dM_init_75 (fun q_121 cA9 H hK9 hP hD hS => ?_)
  rw [x_ci hI hK hK9] at hP hD
  obtain ⟨ws_122, a_123l, a_123o, a_123n, hP, hD⟩ := x_app hP hD
  rw [hwl] at a_123l a_123n
  have h_124 := (a_123o k (by rw [hwl]; exact kn_lt (i := 0) (j := 9) (by decide))).trans h_112
  have h_125 := (a_123o (k + 1) (by rw [hwl]; exact kn_lt (i := 1) (j := 9) (by decide))).trans h_113
  have h_126 := (a_123o (k + 2) (by rw [hwl]; exact kn_lt (i := 2) (j := 9) (by decide))).trans h_114
  have h_127 := (a_123o (k + 3) (by rw [hwl]; exact kn_lt (i := 3) (j := 9) (by decide))).trans h_115
  have h_128 := (a_123o (k + 4) (by rw [hwl]; exact kn_lt (i := 4) (j := 9) (by decide))).trans h_116
  have h_129 := (a_123o (k + 5) (by rw [hwl]; exact kn_lt (i := 5) (j := 9) (by decide))).trans h_117
  have h_130 := (a_123o (k + 6) (by rw [hwl]; exact kn_lt (i := 6) (j := 9) (by decide))).trans h_118
  have h_131 := (a_123o (k + 7) (by rw [hwl]; exact kn_lt (i := 7) (j := 9) (by decide))).trans h_119
  have h_132 := (a_123o (k + 8) (by rw [hwl]; exact kn_lt (i := 8) (j := 9) (by decide))).trans h_120
  have hlow : ∀ j, j < k → ws_122[j]? = ws[j]? := fun j z9 => (a_123o j (by rw [hwl]; exact Nat.lt_of_lt_of_le z9 (Nat.le_add_right k _))).trans (hlow j z9)
  have hwl : ws_122.length = k + 10 := a_123l
  refine va_putF (D := D) (cl := xCl) (ci := 7) (v := .ref q_121) (ty := .array .int) (C := rnM) (T := tbM) (N := 39) hx hb hts inM tyM toM nmM hown hK hP hD hS k h_124 rfl 16 (by decide) (hts _ tw_633) (fun _ h9 => h9) rfl hnm rfl (by decide +kernel) rfl rfl (Nat.le_of_ble_eq_true rfl) dM_init_77 (fun H locs hP hD hS => ?_)
  obtain ⟨ws_134, hu_133, hP, hD⟩ := x_gen h_124 hP hD
  have h_135 : ws_134[k]? = some (a, .inr (7, [.int 0, .int 0, .ref q_1, .ref q_9, .ref q_19, .ref q_31, .ref q_45, .ref q_61, .int 0, .int 0, .int 0, .int 0, .int 0, .int 0, .ref q_79, .ref q_99, .ref q_121, .null, .int 0, .null, .null, .null, .int 0, .null, .null, .null, .null, .null, .int 0, .int 0, .int 0, .null, .null, .null, .int 0, .int 0, .int 0, .null, .null])) := hu_133.1
  have h_136 := (hu_133.2 (k + 1) (kn_ne (i := 1) (j := 0) (by decide))).trans h_125
  have h_137 := (hu_133.2 (k + 2) (kn_ne (i := 2) (j := 0) (by decide))).trans h_126
  have h_138 := (hu_133.2 (k + 3) (kn_ne (i := 3) (j := 0) (by decide))).trans h_127
  have h_139 := (hu_133.2 (k + 4) (kn_ne (i := 4) (j := 0) (by decide))).trans h_128
  have h_140 := (hu_133.2 (k + 5) (kn_ne (i := 5) (j := 0) (by decide))).trans h_129
  have h_141 := (hu_133.2 (k + 6) (kn_ne (i := 6) (j := 0) (by decide))).trans h_130
  have h_142 := (hu_133.2 (k + 7) (kn_ne (i := 7) (j := 0) (by decide))).trans h_131
  have h_143 := (hu_133.2 (k + 8) (kn_ne (i := 8) (j := 0) (by decide))).trans h_132
  have h_144 := (hu_133.2 (k + 9) (kn_ne (i := 9) (j := 0) (by decide))).trans a_123n
  have hwl := (x_upd.len h_124 hu_133).trans hwl
  have hlow : ∀ j, j < k → ws_134[j]? = ws[j]? := fun j z9 => (hu_133.2 j (Nat.ne_of_lt (Nat.lt_of_lt_of_le z9 (Nat.le_add_right k 0)))).trans (hlow j z9)
  refine lv_aload_n hx hb dM_init_80 rfl (lv_at hl 0 rfl) ?_
  refine lv_bipush (v := 26) hx hb dM_init_81 (by decide) ?_
  refine va_newa (atype := .int) (ty := .int) (a0 := (26, .inl (fun _ => 0))) hx hb (hts _ tw_57) rfl hK hP hD hS hA (fun _ => rfl) (by decide) (by decide) (by decide) (by decide) (by decide) dM_init_83 (fun q_145 cA9 H hK9 hP hD hS => ?_)
  rw [x_ci hI hK hK9] at hP hD
  obtain ⟨ws_146, a_147l, a_147o, a_147n, hP, hD⟩ := x_app hP hD
  rw [hwl] at a_147l a_147n
  have h_148 := (a_147o k (by rw [hwl]; exact kn_lt (i := 0) (j := 10) (by decide))).trans h_135
  have h_149 := (a_147o (k + 1) (by rw [hwl]; exact kn_lt (i := 1) (j := 10) (by decide))).trans h_136
  have h_150 := (a_147o (k + 2) (by rw [hwl]; exact kn_lt (i := 2) (j := 10) (by decide))).trans h_137
  have h_151 := (a_147o (k + 3) (by rw [hwl]; exact kn_lt (i := 3) (j := 10) (by decide))).trans h_138
  have h_152 := (a_147o (k + 4) (by rw [hwl]; exact kn_lt (i := 4) (j := 10) (by decide))).trans h_139
  have h_153 := (a_147o (k + 5) (by rw [hwl]; exact kn_lt (i := 5) (j := 10) (by decide))).trans h_140
  have h_154 := (a_147o (k + 6) (by rw [hwl]; exact kn_lt (i := 6) (j := 10) (by decide))).trans h_141
  have h_155 := (a_147o (k + 7) (by rw [hwl]; exact kn_lt (i := 7) (j := 10) (by decide))).trans h_142
  have h_156 := (a_147o (k + 8) (by rw [hwl]; exact kn_lt (i := 8) (j := 10) (by decide))).trans h_143
  have h_157 := (a_147o (k + 9) (by rw [hwl]; exact kn_lt (i := 9) (j := 10) (by decide))).trans h_144
  have hlow : ∀ j, j < k → ws_146[j]? = ws[j]? := fun j z9 => (a_147o j (by rw [hwl]; exact Nat.lt_of_lt_of_le z9 (Nat.le_add_right k _))).trans (hlow j z9)
  have hwl : ws_146.length = k + 11 := a_147l
  refine va_putF (D := D) (cl := xCl) (ci := 7) (v := .ref q_145) (ty := .array .int) (C := rnM) (T := tbM) (N := 39) hx hb hts inM tyM toM nmM hown hK hP hD hS k h_148 rfl 17 (by decide) (hts _ tw_634) (fun _ h9 => h9) rfl hnm rfl (by decide +kernel) rfl rfl (Nat.le_of_ble_eq_true rfl) dM_init_85 (fun H locs hP hD hS => ?_)
  obtain ⟨ws_159, hu_158, hP, hD⟩ := x_gen h_148 hP hD
  have h_160 : ws_159[k]? = some (a, .inr (7, [.int 0, .int 0, .ref q_1, .ref q_9, .ref q_19, .ref q_31, .ref q_45, .ref q_61, .int 0, .int 0, .int 0, .int 0, .int 0, .int 0, .ref q_79, .ref q_99, .ref q_121, .ref q_145, .int 0, .null, .null, .null, .int 0, .null, .null, .null, .null, .null, .int 0, .int 0, .int 0, .null, .null, .null, .int 0, .int 0, .int 0, .null, .null])) := hu_158.1
  have h_161 := (hu_158.2 (k + 1) (kn_ne (i := 1) (j := 0) (by decide))).trans h_149
  have h_162 := (hu_158.2 (k + 2) (kn_ne (i := 2) (j := 0) (by decide))).trans h_150
  have h_163 := (hu_158.2 (k + 3) (kn_ne (i := 3) (j := 0) (by decide))).trans h_151
  have h_164 := (hu_158.2 (k + 4) (kn_ne (i := 4) (j := 0) (by decide))).trans h_152
  have h_165 := (hu_158.2 (k + 5) (kn_ne (i := 5) (j := 0) (by decide))).trans h_153
  have h_166 := (hu_158.2 (k + 6) (kn_ne (i := 6) (j := 0) (by decide))).trans h_154
  have h_167 := (hu_158.2 (k + 7) (kn_ne (i := 7) (j := 0) (by decide))).trans h_155
  have h_168 := (hu_158.2 (k + 8) (kn_ne (i := 8) (j := 0) (by decide))).trans h_156
  have h_169 := (hu_158.2 (k + 9) (kn_ne (i := 9) (j := 0) (by decide))).trans h_157
  have h_170 := (hu_158.2 (k + 10) (kn_ne (i := 10) (j := 0) (by decide))).trans a_147n
  have hwl := (x_upd.len h_148 hu_158).trans hwl
  have hlow : ∀ j, j < k → ws_159[j]? = ws[j]? := fun j z9 => (hu_158.2 j (Nat.ne_of_lt (Nat.lt_of_lt_of_le z9 (Nat.le_add_right k 0)))).trans (hlow j z9)
  refine lv_aload_n hx hb dM_init_88 rfl (lv_at hl 0 rfl) ?_
  refine lv_sipush (v := 200) hx hb dM_init_89 (by decide) ?_
  refine va_newa (atype := .int) (ty := .int) (a0 := (200, .inl (fun _ => 0))) hx hb (hts _ tw_57) rfl hK hP hD hS hA (fun _ => rfl) (by decide) (by decide) (by decide) (by decide) (by decide) dM_init_92 (fun q_171 cA9 H hK9 hP hD hS => ?_)
  rw [x_ci hI hK hK9] at hP hD
  obtain ⟨ws_172, a_173l, a_173o, a_173n, hP, hD⟩ := x_app hP hD
  rw [hwl] at a_173l a_173n
  have h_174 := (a_173o k (by rw [hwl]; exact kn_lt (i := 0) (j := 11) (by decide))).trans h_160
  have h_175 := (a_173o (k + 1) (by rw [hwl]; exact kn_lt (i := 1) (j := 11) (by decide))).trans h_161
  have h_176 := (a_173o (k + 2) (by rw [hwl]; exact kn_lt (i := 2) (j := 11) (by decide))).trans h_162
  have h_177 := (a_173o (k + 3) (by rw [hwl]; exact kn_lt (i := 3) (j := 11) (by decide))).trans h_163
  have h_178 := (a_173o (k + 4) (by rw [hwl]; exact kn_lt (i := 4) (j := 11) (by decide))).trans h_164
  have h_179 := (a_173o (k + 5) (by rw [hwl]; exact kn_lt (i := 5) (j := 11) (by decide))).trans h_165
  have h_180 := (a_173o (k + 6) (by rw [hwl]; exact kn_lt (i := 6) (j := 11) (by decide))).trans h_166
  have h_181 := (a_173o (k + 7) (by rw [hwl]; exact kn_lt (i := 7) (j := 11) (by decide))).trans h_167
  have h_182 := (a_173o (k + 8) (by rw [hwl]; exact kn_lt (i := 8) (j := 11) (by decide))).trans h_168
  have h_183 := (a_173o (k + 9) (by rw [hwl]; exact kn_lt (i := 9) (j := 11) (by decide))).trans h_169
  have h_184 := (a_173o (k + 10) (by rw [hwl]; exact kn_lt (i := 10) (j := 11) (by decide))).trans h_170
  have hlow : ∀ j, j < k → ws_172[j]? = ws[j]? := fun j z9 => (a_173o j (by rw [hwl]; exact Nat.lt_of_lt_of_le z9 (Nat.le_add_right k _))).trans (hlow j z9)
  have hwl : ws_172.length = k + 12 := a_173l
  refine va_putF (D := D) (cl := xCl) (ci := 7) (v := .ref q_171) (ty := .array .int) (C := rnM) (T := tbM) (N := 39) hx hb hts inM tyM toM nmM hown hK hP hD hS k h_174 rfl 19 (by decide) (hts _ tw_636) (fun _ h9 => h9) rfl hnm rfl (by decide +kernel) rfl rfl (Nat.le_of_ble_eq_true rfl) dM_init_94 (fun H locs hP hD hS => ?_)
  obtain ⟨ws_186, hu_185, hP, hD⟩ := x_gen h_174 hP hD
  have h_187 : ws_186[k]? = some (a, .inr (7, [.int 0, .int 0, .ref q_1, .ref q_9, .ref q_19, .ref q_31, .ref q_45, .ref q_61, .int 0, .int 0, .int 0, .int 0, .int 0, .int 0, .ref q_79, .ref q_99, .ref q_121, .ref q_145, .int 0, .ref q_171, .null, .null, .int 0, .null, .null, .null, .null, .null, .int 0, .int 0, .int 0, .null, .null, .null, .int 0, .int 0, .int 0, .null, .null])) := hu_185.1
  have h_188 := (hu_185.2 (k + 1) (kn_ne (i := 1) (j := 0) (by decide))).trans h_175
  have h_189 := (hu_185.2 (k + 2) (kn_ne (i := 2) (j := 0) (by decide))).trans h_176
  have h_190 := (hu_185.2 (k + 3) (kn_ne (i := 3) (j := 0) (by decide))).trans h_177
  have h_191 := (hu_185.2 (k + 4) (kn_ne (i := 4) (j := 0) (by decide))).trans h_178
  have h_192 := (hu_185.2 (k + 5) (kn_ne (i := 5) (j := 0) (by decide))).trans h_179
  have h_193 := (hu_185.2 (k + 6) (kn_ne (i := 6) (j := 0) (by decide))).trans h_180
  have h_194 := (hu_185.2 (k + 7) (kn_ne (i := 7) (j := 0) (by decide))).trans h_181
  have h_195 := (hu_185.2 (k + 8) (kn_ne (i := 8) (j := 0) (by decide))).trans h_182
  have h_196 := (hu_185.2 (k + 9) (kn_ne (i := 9) (j := 0) (by decide))).trans h_183
  have h_197 := (hu_185.2 (k + 10) (kn_ne (i := 10) (j := 0) (by decide))).trans h_184
  have h_198 := (hu_185.2 (k + 11) (kn_ne (i := 11) (j := 0) (by decide))).trans a_173n
  have hwl := (x_upd.len h_174 hu_185).trans hwl
  have hlow : ∀ j, j < k → ws_186[j]? = ws[j]? := fun j z9 => (hu_185.2 j (Nat.ne_of_lt (Nat.lt_of_lt_of_le z9 (Nat.le_add_right k 0)))).trans (hlow j z9)
  refine lv_aload_n hx hb dM_init_97 rfl (lv_at hl 0 rfl) ?_
  refine lv_sipush (v := 200) hx hb dM_init_98 (by decide) ?_
  refine va_newa (atype := .int) (ty := .int) (a0 := (200, .inl (fun _ => 0))) hx hb (hts _ tw_57) rfl hK hP hD hS hA (fun _ => rfl) (by decide) (by decide) (by decide) (by decide) (by decide) dM_init_101 (fun q_199 cA9 H hK9 hP hD hS => ?_)
  rw [x_ci hI hK hK9] at hP hD
  obtain ⟨ws_200, a_201l, a_201o, a_201n, hP, hD⟩ := x_app hP hD
  rw [hwl] at a_201l a_201n
  have h_202 := (a_201o k (by rw [hwl]; exact kn_lt (i := 0) (j := 12) (by decide))).trans h_187
  have h_203 := (a_201o (k + 1) (by rw [hwl]; exact kn_lt (i := 1) (j := 12) (by decide))).trans h_188
  have h_204 := (a_201o (k + 2) (by rw [hwl]; exact kn_lt (i := 2) (j := 12) (by decide))).trans h_189
  have h_205 := (a_201o (k + 3) (by rw [hwl]; exact kn_lt (i := 3) (j := 12) (by decide))).trans h_190
  have h_206 := (a_201o (k + 4) (by rw [hwl]; exact kn_lt (i := 4) (j := 12) (by decide))).trans h_191
  have h_207 := (a_201o (k + 5) (by rw [hwl]; exact kn_lt (i := 5) (j := 12) (by decide))).trans h_192
  have h_208 := (a_201o (k + 6) (by rw [hwl]; exact kn_lt (i := 6) (j := 12) (by decide))).trans h_193
  have h_209 := (a_201o (k + 7) (by rw [hwl]; exact kn_lt (i := 7) (j := 12) (by decide))).trans h_194
  have h_210 := (a_201o (k + 8) (by rw [hwl]; exact kn_lt (i := 8) (j := 12) (by decide))).trans h_195
  have h_211 := (a_201o (k + 9) (by rw [hwl]; exact kn_lt (i := 9) (j := 12) (by decide))).trans h_196
  have h_212 := (a_201o (k + 10) (by rw [hwl]; exact kn_lt (i := 10) (j := 12) (by decide))).trans h_197
  have h_213 := (a_201o (k + 11) (by rw [hwl]; exact kn_lt (i := 11) (j := 12) (by decide))).trans h_198
  have hlow : ∀ j, j < k → ws_200[j]? = ws[j]? := fun j z9 => (a_201o j (by rw [hwl]; exact Nat.lt_of_lt_of_le z9 (Nat.le_add_right k _))).trans (hlow j z9)
  have hwl : ws_200.length = k + 13 := a_201l
  refine va_putF (D := D) (cl := xCl) (ci := 7) (v := .ref q_199) (ty := .array .int) (C := rnM) (T := tbM) (N := 39) hx hb hts inM tyM toM nmM hown hK hP hD hS k h_202 rfl 20 (by decide) (hts _ tw_637) (fun _ h9 => h9) rfl hnm rfl (by decide +kernel) rfl rfl (Nat.le_of_ble_eq_true rfl) dM_init_103 (fun H locs hP hD hS => ?_)
  obtain ⟨ws_215, hu_214, hP, hD⟩ := x_gen h_202 hP hD
  have h_216 : ws_215[k]? = some (a, .inr (7, [.int 0, .int 0, .ref q_1, .ref q_9, .ref q_19, .ref q_31, .ref q_45, .ref q_61, .int 0, .int 0, .int 0, .int 0, .int 0, .int 0, .ref q_79, .ref q_99, .ref q_121, .ref q_145, .int 0, .ref q_171, .ref q_199, .null, .int 0, .null, .null, .null, .null, .null, .int 0, .int 0, .int 0, .null, .null, .null, .int 0, .int 0, .int 0, .null, .null])) := hu_214.1
  have h_217 := (hu_214.2 (k + 1) (kn_ne (i := 1) (j := 0) (by decide))).trans h_203
  have h_218 := (hu_214.2 (k + 2) (kn_ne (i := 2) (j := 0) (by decide))).trans h_204
  have h_219 := (hu_214.2 (k + 3) (kn_ne (i := 3) (j := 0) (by decide))).trans h_205
  have h_220 := (hu_214.2 (k + 4) (kn_ne (i := 4) (j := 0) (by decide))).trans h_206
  have h_221 := (hu_214.2 (k + 5) (kn_ne (i := 5) (j := 0) (by decide))).trans h_207
  have h_222 := (hu_214.2 (k + 6) (kn_ne (i := 6) (j := 0) (by decide))).trans h_208
  have h_223 := (hu_214.2 (k + 7) (kn_ne (i := 7) (j := 0) (by decide))).trans h_209
  have h_224 := (hu_214.2 (k + 8) (kn_ne (i := 8) (j := 0) (by decide))).trans h_210
  have h_225 := (hu_214.2 (k + 9) (kn_ne (i := 9) (j := 0) (by decide))).trans h_211
  have h_226 := (hu_214.2 (k + 10) (kn_ne (i := 10) (j := 0) (by decide))).trans h_212
  have h_227 := (hu_214.2 (k + 11) (kn_ne (i := 11) (j := 0) (by decide))).trans h_213
  have h_228 := (hu_214.2 (k + 12) (kn_ne (i := 12) (j := 0) (by decide))).trans a_201n
  have hwl := (x_upd.len h_202 hu_214).trans hwl
  have hlow : ∀ j, j < k → ws_215[j]? = ws[j]? := fun j z9 => (hu_214.2 j (Nat.ne_of_lt (Nat.lt_of_lt_of_le z9 (Nat.le_add_right k 0)))).trans (hlow j z9)
  refine lv_aload_n hx hb dM_init_106 rfl (lv_at hl 0 rfl) ?_
  refine lv_sipush (v := 200) hx hb dM_init_107 (by decide) ?_
  refine va_newa (atype := .int) (ty := .int) (a0 := (200, .inl (fun _ => 0))) hx hb (hts _ tw_57) rfl hK hP hD hS hA (fun _ => rfl) (by decide) (by decide) (by decide) (by decide) (by decide) dM_init_110 (fun q_229 cA9 H hK9 hP hD hS => ?_)
  rw [x_ci hI hK hK9] at hP hD
  obtain ⟨ws_230, a_231l, a_231o, a_231n, hP, hD⟩ := x_app hP hD
  rw [hwl] at a_231l a_231n
  have h_232 := (a_231o k (by rw [hwl]; exact kn_lt (i := 0) (j := 13) (by decide))).trans h_216
  have h_233 := (a_231o (k + 1) (by rw [hwl]; exact kn_lt (i := 1) (j := 13) (by decide))).trans h_217
  have h_234 := (a_231o (k + 2) (by rw [hwl]; exact kn_lt (i := 2) (j := 13) (by decide))).trans h_218
  have h_235 := (a_231o (k + 3) (by rw [hwl]; exact kn_lt (i := 3) (j := 13) (by decide))).trans h_219
  have h_236 := (a_231o (k + 4) (by rw [hwl]; exact kn_lt (i := 4) (j := 13) (by decide))).trans h_220
  have h_237 := (a_231o (k + 5) (by rw [hwl]; exact kn_lt (i := 5) (j := 13) (by decide))).trans h_221
  have h_238 := (a_231o (k + 6) (by rw [hwl]; exact kn_lt (i := 6) (j := 13) (by decide))).trans h_222
  have h_239 := (a_231o (k + 7) (by rw [hwl]; exact kn_lt (i := 7) (j := 13) (by decide))).trans h_223
  have h_240 := (a_231o (k + 8) (by rw [hwl]; exact kn_lt (i := 8) (j := 13) (by decide))).trans h_224
  have h_241 := (a_231o (k + 9) (by rw [hwl]; exact kn_lt (i := 9) (j := 13) (by decide))).trans h_225
  have h_242 := (a_231o (k + 10) (by rw [hwl]; exact kn_lt (i := 10) (j := 13) (by decide))).trans h_226
  have h_243 := (a_231o (k + 11) (by rw [hwl]; exact kn_lt (i := 11) (j := 13) (by decide))).trans h_227
  have h_244 := (a_231o (k + 12) (by rw [hwl]; exact kn_lt (i := 12) (j := 13) (by decide))).trans h_228
  have hlow : ∀ j, j < k → ws_230[j]? = ws[j]? := fun j z9 => (a_231o j (by rw [hwl]; exact Nat.lt_of_lt_of_le z9 (Nat.le_add_right k _))).trans (hlow j z9)
  have hwl : ws_230.length = k + 14 := a_231l
  refine va_putF (D := D) (cl := xCl) (ci := 7) (v := .ref q_229) (ty := .array .int) (C := rnM) (T := tbM) (N := 39) hx hb hts inM tyM toM nmM hown hK hP hD hS k h_232 rfl 21 (by decide) (hts _ tw_638) (fun _ h9 => h9) rfl hnm rfl (by decide +kernel) rfl rfl (Nat.le_of_ble_eq_true rfl) dM_init_112 (fun H locs hP hD hS => ?_)
  obtain ⟨ws_246, hu_245, hP, hD⟩ := x_gen h_232 hP hD
  have h_247 : ws_246[k]? = some (a, .inr (7, [.int 0, .int 0, .ref q_1, .ref q_9, .ref q_19, .ref q_31, .ref q_45, .ref q_61, .int 0, .int 0, .int 0, .int 0, .int 0, .int 0, .ref q_79, .ref q_99, .ref q_121, .ref q_145, .int 0, .ref q_171, .ref q_199, .ref q_229, .int 0, .null, .null, .null, .null, .null, .int 0, .int 0, .int 0, .null, .null, .null, .int 0, .int 0, .int 0, .null, .null])) := hu_245.1
  have h_248 := (hu_245.2 (k + 1) (kn_ne (i := 1) (j := 0) (by decide))).trans h_233
  have h_249 := (hu_245.2 (k + 2) (kn_ne (i := 2) (j := 0) (by decide))).trans h_234
  have h_250 := (hu_245.2 (k + 3) (kn_ne (i := 3) (j := 0) (by decide))).trans h_235
  have h_251 := (hu_245.2 (k + 4) (kn_ne (i := 4) (j := 0) (by decide))).trans h_236
  have h_252 := (hu_245.2 (k + 5) (kn_ne (i := 5) (j := 0) (by decide))).trans h_237
  have h_253 := (hu_245.2 (k + 6) (kn_ne (i := 6) (j := 0) (by decide))).trans h_238
  have h_254 := (hu_245.2 (k + 7) (kn_ne (i := 7) (j := 0) (by decide))).trans h_239
  have h_255 := (hu_245.2 (k + 8) (kn_ne (i := 8) (j := 0) (by decide))).trans h_240
  have h_256 := (hu_245.2 (k + 9) (kn_ne (i := 9) (j := 0) (by decide))).trans h_241
  have h_257 := (hu_245.2 (k + 10) (kn_ne (i := 10) (j := 0) (by decide))).trans h_242
  have h_258 := (hu_245.2 (k + 11) (kn_ne (i := 11) (j := 0) (by decide))).trans h_243
  have h_259 := (hu_245.2 (k + 12) (kn_ne (i := 12) (j := 0) (by decide))).trans h_244
  have h_260 := (hu_245.2 (k + 13) (kn_ne (i := 13) (j := 0) (by decide))).trans a_231n
  have hwl := (x_upd.len h_232 hu_245).trans hwl
  have hlow : ∀ j, j < k → ws_246[j]? = ws[j]? := fun j z9 => (hu_245.2 j (Nat.ne_of_lt (Nat.lt_of_lt_of_le z9 (Nat.le_add_right k 0)))).trans (hlow j z9)
  refine lv_aload_n hx hb dM_init_115 rfl (lv_at hl 0 rfl) ?_
  refine lv_sipush (v := 1800) hx hb dM_init_116 (by decide) ?_
  refine va_newa (atype := .int) (ty := .int) (a0 := (1800, .inl (fun _ => 0))) hx hb (hts _ tw_57) rfl hK hP hD hS hA (fun _ => rfl) (by decide) (by decide) (by decide) (by decide) (by decide) dM_init_119 (fun q_261 cA9 H hK9 hP hD hS => ?_)
  rw [x_ci hI hK hK9] at hP hD
  obtain ⟨ws_262, a_263l, a_263o, a_263n, hP, hD⟩ := x_app hP hD
  rw [hwl] at a_263l a_263n
  have h_264 := (a_263o k (by rw [hwl]; exact kn_lt (i := 0) (j := 14) (by decide))).trans h_247
  have h_265 := (a_263o (k + 1) (by rw [hwl]; exact kn_lt (i := 1) (j := 14) (by decide))).trans h_248
  have h_266 := (a_263o (k + 2) (by rw [hwl]; exact kn_lt (i := 2) (j := 14) (by decide))).trans h_249
  have h_267 := (a_263o (k + 3) (by rw [hwl]; exact kn_lt (i := 3) (j := 14) (by decide))).trans h_250
  have h_268 := (a_263o (k + 4) (by rw [hwl]; exact kn_lt (i := 4) (j := 14) (by decide))).trans h_251
  have h_269 := (a_263o (k + 5) (by rw [hwl]; exact kn_lt (i := 5) (j := 14) (by decide))).trans h_252
  have h_270 := (a_263o (k + 6) (by rw [hwl]; exact kn_lt (i := 6) (j := 14) (by decide))).trans h_253
  have h_271 := (a_263o (k + 7) (by rw [hwl]; exact kn_lt (i := 7) (j := 14) (by decide))).trans h_254
  have h_272 := (a_263o (k + 8) (by rw [hwl]; exact kn_lt (i := 8) (j := 14) (by decide))).trans h_255
  have h_273 := (a_263o (k + 9) (by rw [hwl]; exact kn_lt (i := 9) (j := 14) (by decide))).trans h_256
  have h_274 := (a_263o (k + 10) (by rw [hwl]; exact kn_lt (i := 10) (j := 14) (by decide))).trans h_257
  have h_275 := (a_263o (k + 11) (by rw [hwl]; exact kn_lt (i := 11) (j := 14) (by decide))).trans h_258
  have h_276 := (a_263o (k + 12) (by rw [hwl]; exact kn_lt (i := 12) (j := 14) (by decide))).trans h_259
  have h_277 := (a_263o (k + 13) (by rw [hwl]; exact kn_lt (i := 13) (j := 14) (by decide))).trans h_260
  have hlow : ∀ j, j < k → ws_262[j]? = ws[j]? := fun j z9 => (a_263o j (by rw [hwl]; exact Nat.lt_of_lt_of_le z9 (Nat.le_add_right k _))).trans (hlow j z9)
  have hwl : ws_262.length = k + 15 := a_263l
  refine va_putF (D := D) (cl := xCl) (ci := 7) (v := .ref q_261) (ty := .array .int) (C := rnM) (T := tbM) (N := 39) hx hb hts inM tyM toM nmM hown hK hP hD hS k h_264 rfl 23 (by decide) (hts _ tw_640) (fun _ h9 => h9) rfl hnm rfl (by decide +kernel) rfl rfl (Nat.le_of_ble_eq_true rfl) dM_init_121 (fun H locs hP hD hS => ?_)
  obtain ⟨ws_279, hu_278, hP, hD⟩ := x_gen h_264 hP hD
  have h_280 : ws_279[k]? = some (a, .inr (7, [.int 0, .int 0, .ref q_1, .ref q_9, .ref q_19, .ref q_31, .ref q_45, .ref q_61, .int 0, .int 0, .int 0, .int 0, .int 0, .int 0, .ref q_79, .ref q_99, .ref q_121, .ref q_145, .int 0, .ref q_171, .ref q_199, .ref q_229, .int 0, .ref q_261, .null, .null, .null, .null, .int 0, .int 0, .int 0, .null, .null, .null, .int 0, .int 0, .int 0, .null, .null])) := hu_278.1
  have h_281 := (hu_278.2 (k + 1) (kn_ne (i := 1) (j := 0) (by decide))).trans h_265
  have h_282 := (hu_278.2 (k + 2) (kn_ne (i := 2) (j := 0) (by decide))).trans h_266
  have h_283 := (hu_278.2 (k + 3) (kn_ne (i := 3) (j := 0) (by decide))).trans h_267
  have h_284 := (hu_278.2 (k + 4) (kn_ne (i := 4) (j := 0) (by decide))).trans h_268
  have h_285 := (hu_278.2 (k + 5) (kn_ne (i := 5) (j := 0) (by decide))).trans h_269
  have h_286 := (hu_278.2 (k + 6) (kn_ne (i := 6) (j := 0) (by decide))).trans h_270
  have h_287 := (hu_278.2 (k + 7) (kn_ne (i := 7) (j := 0) (by decide))).trans h_271
  have h_288 := (hu_278.2 (k + 8) (kn_ne (i := 8) (j := 0) (by decide))).trans h_272
  have h_289 := (hu_278.2 (k + 9) (kn_ne (i := 9) (j := 0) (by decide))).trans h_273
  have h_290 := (hu_278.2 (k + 10) (kn_ne (i := 10) (j := 0) (by decide))).trans h_274
  have h_291 := (hu_278.2 (k + 11) (kn_ne (i := 11) (j := 0) (by decide))).trans h_275
  have h_292 := (hu_278.2 (k + 12) (kn_ne (i := 12) (j := 0) (by decide))).trans h_276
  have h_293 := (hu_278.2 (k + 13) (kn_ne (i := 13) (j := 0) (by decide))).trans h_277
  have h_294 := (hu_278.2 (k + 14) (kn_ne (i := 14) (j := 0) (by decide))).trans a_263n
  have hwl := (x_upd.len h_264 hu_278).trans hwl
  have hlow : ∀ j, j < k → ws_279[j]? = ws[j]? := fun j z9 => (hu_278.2 j (Nat.ne_of_lt (Nat.lt_of_lt_of_le z9 (Nat.le_add_right k 0)))).trans (hlow j z9)
  refine lv_aload_n hx hb dM_init_124 rfl (lv_at hl 0 rfl) ?_
  refine lv_bipush (v := 60) hx hb dM_init_125 (by decide) ?_
  refine va_newa (atype := .int) (ty := .int) (a0 := (60, .inl (fun _ => 0))) hx hb (hts _ tw_57) rfl hK hP hD hS hA (fun _ => rfl) (by decide) (by decide) (by decide) (by decide) (by decide) dM_init_127 (fun q_295 cA9 H hK9 hP hD hS => ?_)
  rw [x_ci hI hK hK9] at hP hD
  obtain ⟨ws_296, a_297l, a_297o, a_297n, hP, hD⟩ := x_app hP hD
  rw [hwl] at a_297l a_297n
  have h_298 := (a_297o k (by rw [hwl]; exact kn_lt (i := 0) (j := 15) (by decide))).trans h_280
  have h_299 := (a_297o (k + 1) (by rw [hwl]; exact kn_lt (i := 1) (j := 15) (by decide))).trans h_281
  have h_300 := (a_297o (k + 2) (by rw [hwl]; exact kn_lt (i := 2) (j := 15) (by decide))).trans h_282
  have h_301 := (a_297o (k + 3) (by rw [hwl]; exact kn_lt (i := 3) (j := 15) (by decide))).trans h_283
  have h_302 := (a_297o (k + 4) (by rw [hwl]; exact kn_lt (i := 4) (j := 15) (by decide))).trans h_284
  have h_303 := (a_297o (k + 5) (by rw [hwl]; exact kn_lt (i := 5) (j := 15) (by decide))).trans h_285
  have h_304 := (a_297o (k + 6) (by rw [hwl]; exact kn_lt (i := 6) (j := 15) (by decide))).trans h_286
  have h_305 := (a_297o (k + 7) (by rw [hwl]; exact kn_lt (i := 7) (j := 15) (by decide))).trans h_287
  have h_306 := (a_297o (k + 8) (by rw [hwl]; exact kn_lt (i := 8) (j := 15) (by decide))).trans h_288
  have h_307 := (a_297o (k + 9) (by rw [hwl]; exact kn_lt (i := 9) (j := 15) (by decide))).trans h_289
  have h_308 := (a_297o (k + 10) (by rw [hwl]; exact kn_lt (i := 10) (j := 15) (by decide))).trans h_290
  have h_309 := (a_297o (k + 11) (by rw [hwl]; exact kn_lt (i := 11) (j := 15) (by decide))).trans h_291
  have h_310 := (a_297o (k + 12) (by rw [hwl]; exact kn_lt (i := 12) (j := 15) (by decide))).trans h_292
  have h_311 := (a_297o (k + 13) (by rw [hwl]; exact kn_lt (i := 13) (j := 15) (by decide))).trans h_293
  have h_312 := (a_297o (k + 14) (by rw [hwl]; exact kn_lt (i := 14) (j := 15) (by decide))).trans h_294
  have hlow : ∀ j, j < k → ws_296[j]? = ws[j]? := fun j z9 => (a_297o j (by rw [hwl]; exact Nat.lt_of_lt_of_le z9 (Nat.le_add_right k _))).trans (hlow j z9)
  have hwl : ws_296.length = k + 16 := a_297l
  refine va_putF (D := D) (cl := xCl) (ci := 7) (v := .ref q_295) (ty := .array .int) (C := rnM) (T := tbM) (N := 39) hx hb hts inM tyM toM nmM hown hK hP hD hS k h_298 rfl 24 (by decide) (hts _ tw_641) (fun _ h9 => h9) rfl hnm rfl (by decide +kernel) rfl rfl (Nat.le_of_ble_eq_true rfl) dM_init_129 (fun H locs hP hD hS => ?_)
  obtain ⟨ws_314, hu_313, hP, hD⟩ := x_gen h_298 hP hD
  have h_315 : ws_314[k]? = some (a, .inr (7, [.int 0, .int 0, .ref q_1, .ref q_9, .ref q_19, .ref q_31, .ref q_45, .ref q_61, .int 0, .int 0, .int 0, .int 0, .int 0, .int 0, .ref q_79, .ref q_99, .ref q_121, .ref q_145, .int 0, .ref q_171, .ref q_199, .ref q_229, .int 0, .ref q_261, .ref q_295, .null, .null, .null, .int 0, .int 0, .int 0, .null, .null, .null, .int 0, .int 0, .int 0, .null, .null])) := hu_313.1
  have h_316 := (hu_313.2 (k + 1) (kn_ne (i := 1) (j := 0) (by decide))).trans h_299
  have h_317 := (hu_313.2 (k + 2) (kn_ne (i := 2) (j := 0) (by decide))).trans h_300
  have h_318 := (hu_313.2 (k + 3) (kn_ne (i := 3) (j := 0) (by decide))).trans h_301
  have h_319 := (hu_313.2 (k + 4) (kn_ne (i := 4) (j := 0) (by decide))).trans h_302
  have h_320 := (hu_313.2 (k + 5) (kn_ne (i := 5) (j := 0) (by decide))).trans h_303
  have h_321 := (hu_313.2 (k + 6) (kn_ne (i := 6) (j := 0) (by decide))).trans h_304
  have h_322 := (hu_313.2 (k + 7) (kn_ne (i := 7) (j := 0) (by decide))).trans h_305
  have h_323 := (hu_313.2 (k + 8) (kn_ne (i := 8) (j := 0) (by decide))).trans h_306
  have h_324 := (hu_313.2 (k + 9) (kn_ne (i := 9) (j := 0) (by decide))).trans h_307
  have h_325 := (hu_313.2 (k + 10) (kn_ne (i := 10) (j := 0) (by decide))).trans h_308
  have h_326 := (hu_313.2 (k + 11) (kn_ne (i := 11) (j := 0) (by decide))).trans h_309
  have h_327 := (hu_313.2 (k + 12) (kn_ne (i := 12) (j := 0) (by decide))).trans h_310
  have h_328 := (hu_313.2 (k + 13) (kn_ne (i := 13) (j := 0) (by decide))).trans h_311
  have h_329 := (hu_313.2 (k + 14) (kn_ne (i := 14) (j := 0) (by decide))).trans h_312
  have h_330 := (hu_313.2 (k + 15) (kn_ne (i := 15) (j := 0) (by decide))).trans a_297n
  have hwl := (x_upd.len h_298 hu_313).trans hwl
  have hlow : ∀ j, j < k → ws_314[j]? = ws[j]? := fun j z9 => (hu_313.2 j (Nat.ne_of_lt (Nat.lt_of_lt_of_le z9 (Nat.le_add_right k 0)))).trans (hlow j z9)
  refine lv_aload_n hx hb dM_init_132 rfl (lv_at hl 0 rfl) ?_
  refine lv_sipush (v := 600) hx hb dM_init_133 (by decide) ?_
  refine va_newa (atype := .int) (ty := .int) (a0 := (600, .inl (fun _ => 0))) hx hb (hts _ tw_57) rfl hK hP hD hS hA (fun _ => rfl) (by decide) (by decide) (by decide) (by decide) (by decide) dM_init_136 (fun q_331 cA9 H hK9 hP hD hS => ?_)
  rw [x_ci hI hK hK9] at hP hD
  obtain ⟨ws_332, a_333l, a_333o, a_333n, hP, hD⟩ := x_app hP hD
  rw [hwl] at a_333l a_333n
  have h_334 := (a_333o k (by rw [hwl]; exact kn_lt (i := 0) (j := 16) (by decide))).trans h_315
  have h_335 := (a_333o (k + 1) (by rw [hwl]; exact kn_lt (i := 1) (j := 16) (by decide))).trans h_316
  have h_336 := (a_333o (k + 2) (by rw [hwl]; exact kn_lt (i := 2) (j := 16) (by decide))).trans h_317
  have h_337 := (a_333o (k + 3) (by rw [hwl]; exact kn_lt (i := 3) (j := 16) (by decide))).trans h_318
  have h_338 := (a_333o (k + 4) (by rw [hwl]; exact kn_lt (i := 4) (j := 16) (by decide))).trans h_319
  have h_339 := (a_333o (k + 5) (by rw [hwl]; exact kn_lt (i := 5) (j := 16) (by decide))).trans h_320
  have h_340 := (a_333o (k + 6) (by rw [hwl]; exact kn_lt (i := 6) (j := 16) (by decide))).trans h_321
  have h_341 := (a_333o (k + 7) (by rw [hwl]; exact kn_lt (i := 7) (j := 16) (by decide))).trans h_322
  have h_342 := (a_333o (k + 8) (by rw [hwl]; exact kn_lt (i := 8) (j := 16) (by decide))).trans h_323
  have h_343 := (a_333o (k + 9) (by rw [hwl]; exact kn_lt (i := 9) (j := 16) (by decide))).trans h_324
  have h_344 := (a_333o (k + 10) (by rw [hwl]; exact kn_lt (i := 10) (j := 16) (by decide))).trans h_325
  have h_345 := (a_333o (k + 11) (by rw [hwl]; exact kn_lt (i := 11) (j := 16) (by decide))).trans h_326
  have h_346 := (a_333o (k + 12) (by rw [hwl]; exact kn_lt (i := 12) (j := 16) (by decide))).trans h_327
  have h_347 := (a_333o (k + 13) (by rw [hwl]; exact kn_lt (i := 13) (j := 16) (by decide))).trans h_328
  have h_348 := (a_333o (k + 14) (by rw [hwl]; exact kn_lt (i := 14) (j := 16) (by decide))).trans h_329
  have h_349 := (a_333o (k + 15) (by rw [hwl]; exact kn_lt (i := 15) (j := 16) (by decide))).trans h_330
  have hlow : ∀ j, j < k → ws_332[j]? = ws[j]? := fun j z9 => (a_333o j (by rw [hwl]; exact Nat.lt_of_lt_of_le z9 (Nat.le_add_right k _))).trans (hlow j z9)
  have hwl : ws_332.length = k + 17 := a_333l
  refine va_putF (D := D) (cl := xCl) (ci := 7) (v := .ref q_331) (ty := .array .int) (C := rnM) (T := tbM) (N := 39) hx hb hts inM tyM toM nmM hown hK hP hD hS k h_334 rfl 25 (by decide) (hts _ tw_642) (fun _ h9 => h9) rfl hnm rfl (by decide +kernel) rfl rfl (Nat.le_of_ble_eq_true rfl) dM_init_138 (fun H locs hP hD hS => ?_)
  obtain ⟨ws_351, hu_350, hP, hD⟩ := x_gen h_334 hP hD
  have h_352 : ws_351[k]? = some (a, .inr (7, [.int 0, .int 0, .ref q_1, .ref q_9, .ref q_19, .ref q_31, .ref q_45, .ref q_61, .int 0, .int 0, .int 0, .int 0, .int 0, .int 0, .ref q_79, .ref q_99, .ref q_121, .ref q_145, .int 0, .ref q_171, .ref q_199, .ref q_229, .int 0, .ref q_261, .ref q_295, .ref q_331, .null, .null, .int 0, .int 0, .int 0, .null, .null, .null, .int 0, .int 0, .int 0, .null, .null])) := hu_350.1
  have h_353 := (hu_350.2 (k + 1) (kn_ne (i := 1) (j := 0) (by decide))).trans h_335
  have h_354 := (hu_350.2 (k + 2) (kn_ne (i := 2) (j := 0) (by decide))).trans h_336
  have h_355 := (hu_350.2 (k + 3) (kn_ne (i := 3) (j := 0) (by decide))).trans h_337
  have h_356 := (hu_350.2 (k + 4) (kn_ne (i := 4) (j := 0) (by decide))).trans h_338
  have h_357 := (hu_350.2 (k + 5) (kn_ne (i := 5) (j := 0) (by decide))).trans h_339
  have h_358 := (hu_350.2 (k + 6) (kn_ne (i := 6) (j := 0) (by decide))).trans h_340
  have h_359 := (hu_350.2 (k + 7) (kn_ne (i := 7) (j := 0) (by decide))).trans h_341
  have h_360 := (hu_350.2 (k + 8) (kn_ne (i := 8) (j := 0) (by decide))).trans h_342
  have h_361 := (hu_350.2 (k + 9) (kn_ne (i := 9) (j := 0) (by decide))).trans h_343
  have h_362 := (hu_350.2 (k + 10) (kn_ne (i := 10) (j := 0) (by decide))).trans h_344
  have h_363 := (hu_350.2 (k + 11) (kn_ne (i := 11) (j := 0) (by decide))).trans h_345
  have h_364 := (hu_350.2 (k + 12) (kn_ne (i := 12) (j := 0) (by decide))).trans h_346
  have h_365 := (hu_350.2 (k + 13) (kn_ne (i := 13) (j := 0) (by decide))).trans h_347
  have h_366 := (hu_350.2 (k + 14) (kn_ne (i := 14) (j := 0) (by decide))).trans h_348
  have h_367 := (hu_350.2 (k + 15) (kn_ne (i := 15) (j := 0) (by decide))).trans h_349
  have h_368 := (hu_350.2 (k + 16) (kn_ne (i := 16) (j := 0) (by decide))).trans a_333n
  have hwl := (x_upd.len h_334 hu_350).trans hwl
  have hlow : ∀ j, j < k → ws_351[j]? = ws[j]? := fun j z9 => (hu_350.2 j (Nat.ne_of_lt (Nat.lt_of_lt_of_le z9 (Nat.le_add_right k 0)))).trans (hlow j z9)
  refine lv_aload_n hx hb dM_init_141 rfl (lv_at hl 0 rfl) ?_
  refine lv_bipush (v := 20) hx hb dM_init_142 (by decide) ?_
  refine va_newa (atype := .int) (ty := .int) (a0 := (20, .inl (fun _ => 0))) hx hb (hts _ tw_57) rfl hK hP hD hS hA (fun _ => rfl) (by decide) (by decide) (by decide) (by decide) (by decide) dM_init_144 (fun q_369 cA9 H hK9 hP hD hS => ?_)
  rw [x_ci hI hK hK9] at hP hD
  obtain ⟨ws_370, a_371l, a_371o, a_371n, hP, hD⟩ := x_app hP hD
  rw [hwl] at a_371l a_371n
  have h_372 := (a_371o k (by rw [hwl]; exact kn_lt (i := 0) (j := 17) (by decide))).trans h_352
  have h_373 := (a_371o (k + 1) (by rw [hwl]; exact kn_lt (i := 1) (j := 17) (by decide))).trans h_353
  have h_374 := (a_371o (k + 2) (by rw [hwl]; exact kn_lt (i := 2) (j := 17) (by decide))).trans h_354
  have h_375 := (a_371o (k + 3) (by rw [hwl]; exact kn_lt (i := 3) (j := 17) (by decide))).trans h_355
  have h_376 := (a_371o (k + 4) (by rw [hwl]; exact kn_lt (i := 4) (j := 17) (by decide))).trans h_356
  have h_377 := (a_371o (k + 5) (by rw [hwl]; exact kn_lt (i := 5) (j := 17) (by decide))).trans h_357
  have h_378 := (a_371o (k + 6) (by rw [hwl]; exact kn_lt (i := 6) (j := 17) (by decide))).trans h_358
  have h_379 := (a_371o (k + 7) (by rw [hwl]; exact kn_lt (i := 7) (j := 17) (by decide))).trans h_359
  have h_380 := (a_371o (k + 8) (by rw [hwl]; exact kn_lt (i := 8) (j := 17) (by decide))).trans h_360
  have h_381 := (a_371o (k + 9) (by rw [hwl]; exact kn_lt (i := 9) (j := 17) (by decide))).trans h_361
  have h_382 := (a_371o (k + 10) (by rw [hwl]; exact kn_lt (i := 10) (j := 17) (by decide))).trans h_362
  have h_383 := (a_371o (k + 11) (by rw [hwl]; exact kn_lt (i := 11) (j := 17) (by decide))).trans h_363
  have h_384 := (a_371o (k + 12) (by rw [hwl]; exact kn_lt (i := 12) (j := 17) (by decide))).trans h_364
  have h_385 := (a_371o (k + 13) (by rw [hwl]; exact kn_lt (i := 13) (j := 17) (by decide))).trans h_365
  have h_386 := (a_371o (k + 14) (by rw [hwl]; exact kn_lt (i := 14) (j := 17) (by decide))).trans h_366
  have h_387 := (a_371o (k + 15) (by rw [hwl]; exact kn_lt (i := 15) (j := 17) (by decide))).trans h_367
  have h_388 := (a_371o (k + 16) (by rw [hwl]; exact kn_lt (i := 16) (j := 17) (by decide))).trans h_368
  have hlow : ∀ j, j < k → ws_370[j]? = ws[j]? := fun j z9 => (a_371o j (by rw [hwl]; exact Nat.lt_of_lt_of_le z9 (Nat.le_add_right k _))).trans (hlow j z9)
  have hwl : ws_370.length = k + 18 := a_371l
  refine va_putF (D := D) (cl := xCl) (ci := 7) (v := .ref q_369) (ty := .array .int) (C := rnM) (T := tbM) (N := 39) hx hb hts inM tyM toM nmM hown hK hP hD hS k h_372 rfl 26 (by decide) (hts _ tw_643) (fun _ h9 => h9) rfl hnm rfl (by decide +kernel) rfl rfl (Nat.le_of_ble_eq_true rfl) dM_init_146 (fun H locs hP hD hS => ?_)
  obtain ⟨ws_390, hu_389, hP, hD⟩ := x_gen h_372 hP hD
  have h_391 : ws_390[k]? = some (a, .inr (7, [.int 0, .int 0, .ref q_1, .ref q_9, .ref q_19, .ref q_31, .ref q_45, .ref q_61, .int 0, .int 0, .int 0, .int 0, .int 0, .int 0, .ref q_79, .ref q_99, .ref q_121, .ref q_145, .int 0, .ref q_171, .ref q_199, .ref q_229, .int 0, .ref q_261, .ref q_295, .ref q_331, .ref q_369, .null, .int 0, .int 0, .int 0, .null, .null, .null, .int 0, .int 0, .int 0, .null, .null])) := hu_389.1
  have h_392 := (hu_389.2 (k + 1) (kn_ne (i := 1) (j := 0) (by decide))).trans h_373
  have h_393 := (hu_389.2 (k + 2) (kn_ne (i := 2) (j := 0) (by decide))).trans h_374
  have h_394 := (hu_389.2 (k + 3) (kn_ne (i := 3) (j := 0) (by decide))).trans h_375
  have h_395 := (hu_389.2 (k + 4) (kn_ne (i := 4) (j := 0) (by decide))).trans h_376
  have h_396 := (hu_389.2 (k + 5) (kn_ne (i := 5) (j := 0) (by decide))).trans h_377
  have h_397 := (hu_389.2 (k + 6) (kn_ne (i := 6) (j := 0) (by decide))).trans h_378
  have h_398 := (hu_389.2 (k + 7) (kn_ne (i := 7) (j := 0) (by decide))).trans h_379
  have h_399 := (hu_389.2 (k + 8) (kn_ne (i := 8) (j := 0) (by decide))).trans h_380
  have h_400 := (hu_389.2 (k + 9) (kn_ne (i := 9) (j := 0) (by decide))).trans h_381
  have h_401 := (hu_389.2 (k + 10) (kn_ne (i := 10) (j := 0) (by decide))).trans h_382
  have h_402 := (hu_389.2 (k + 11) (kn_ne (i := 11) (j := 0) (by decide))).trans h_383
  have h_403 := (hu_389.2 (k + 12) (kn_ne (i := 12) (j := 0) (by decide))).trans h_384
  have h_404 := (hu_389.2 (k + 13) (kn_ne (i := 13) (j := 0) (by decide))).trans h_385
  have h_405 := (hu_389.2 (k + 14) (kn_ne (i := 14) (j := 0) (by decide))).trans h_386
  have h_406 := (hu_389.2 (k + 15) (kn_ne (i := 15) (j := 0) (by decide))).trans h_387
  have h_407 := (hu_389.2 (k + 16) (kn_ne (i := 16) (j := 0) (by decide))).trans h_388
  have h_408 := (hu_389.2 (k + 17) (kn_ne (i := 17) (j := 0) (by decide))).trans a_371n
  have hwl := (x_upd.len h_372 hu_389).trans hwl
  have hlow : ∀ j, j < k → ws_390[j]? = ws[j]? := fun j z9 => (hu_389.2 j (Nat.ne_of_lt (Nat.lt_of_lt_of_le z9 (Nat.le_add_right k 0)))).trans (hlow j z9)
  refine lv_aload_n hx hb dM_init_149 rfl (lv_at hl 0 rfl) ?_
  refine lv_bipush (v := 20) hx hb dM_init_150 (by decide) ?_
  refine va_newa (atype := .int) (ty := .int) (a0 := (20, .inl (fun _ => 0))) hx hb (hts _ tw_57) rfl hK hP hD hS hA (fun _ => rfl) (by decide) (by decide) (by decide) (by decide) (by decide) dM_init_152 (fun q_409 cA9 H hK9 hP hD hS => ?_)
  rw [x_ci hI hK hK9] at hP hD
  obtain ⟨ws_410, a_411l, a_411o, a_411n, hP, hD⟩ := x_app hP hD
  rw [hwl] at a_411l a_411n
  have h_412 := (a_411o k (by rw [hwl]; exact kn_lt (i := 0) (j := 18) (by decide))).trans h_391
  have h_413 := (a_411o (k + 1) (by rw [hwl]; exact kn_lt (i := 1) (j := 18) (by decide))).trans h_392
  have h_414 := (a_411o (k + 2) (by rw [hwl]; exact kn_lt (i := 2) (j := 18) (by decide))).trans h_393
  have h_415 := (a_411o (k + 3) (by rw [hwl]; exact kn_lt (i := 3) (j := 18) (by decide))).trans h_394
  have h_416 := (a_411o (k + 4) (by rw [hwl]; exact kn_lt (i := 4) (j := 18) (by decide))).trans h_395
  have h_417 := (a_411o (k + 5) (by rw [hwl]; exact kn_lt (i := 5) (j := 18) (by decide))).trans h_396
  have h_418 := (a_411o (k + 6) (by rw [hwl]; exact kn_lt (i := 6) (j := 18) (by decide))).trans h_397
  have h_419 := (a_411o (k + 7) (by rw [hwl]; exact kn_lt (i := 7) (j := 18) (by decide))).trans h_398
  have h_420 := (a_411o (k + 8) (by rw [hwl]; exact kn_lt (i := 8) (j := 18) (by decide))).trans h_399
  have h_421 := (a_411o (k + 9) (by rw [hwl]; exact kn_lt (i := 9) (j := 18) (by decide))).trans h_400
  have h_422 := (a_411o (k + 10) (by rw [hwl]; exact kn_lt (i := 10) (j := 18) (by decide))).trans h_401
  have h_423 := (a_411o (k + 11) (by rw [hwl]; exact kn_lt (i := 11) (j := 18) (by decide))).trans h_402
  have h_424 := (a_411o (k + 12) (by rw [hwl]; exact kn_lt (i := 12) (j := 18) (by decide))).trans h_403
  have h_425 := (a_411o (k + 13) (by rw [hwl]; exact kn_lt (i := 13) (j := 18) (by decide))).trans h_404
  have h_426 := (a_411o (k + 14) (by rw [hwl]; exact kn_lt (i := 14) (j := 18) (by decide))).trans h_405
  have h_427 := (a_411o (k + 15) (by rw [hwl]; exact kn_lt (i := 15) (j := 18) (by decide))).trans h_406
  have h_428 := (a_411o (k + 16) (by rw [hwl]; exact kn_lt (i := 16) (j := 18) (by decide))).trans h_407
  have h_429 := (a_411o (k + 17) (by rw [hwl]; exact kn_lt (i := 17) (j := 18) (by decide))).trans h_408
  have hlow : ∀ j, j < k → ws_410[j]? = ws[j]? := fun j z9 => (a_411o j (by rw [hwl]; exact Nat.lt_of_lt_of_le z9 (Nat.le_add_right k _))).trans (hlow j z9)
  have hwl : ws_410.length = k + 19 := a_411l
  refine va_putF (D := D) (cl := xCl) (ci := 7) (v := .ref q_409) (ty := .array .int) (C := rnM) (T := tbM) (N := 39) hx hb hts inM tyM toM nmM hown hK hP hD hS k h_412 rfl 27 (by decide) (hts _ tw_644) (fun _ h9 => h9) rfl hnm rfl (by decide +kernel) rfl rfl (Nat.le_of_ble_eq_true rfl) dM_init_154 (fun H locs hP hD hS => ?_)
  obtain ⟨ws_431, hu_430, hP, hD⟩ := x_gen h_412 hP hD
  have h_432 : ws_431[k]? = some (a, .inr (7, [.int 0, .int 0, .ref q_1, .ref q_9, .ref q_19, .ref q_31, .ref q_45, .ref q_61, .int 0, .int 0, .int 0, .int 0, .int 0, .int 0, .ref q_79, .ref q_99, .ref q_121, .ref q_145, .int 0, .ref q_171, .ref q_199, .ref q_229, .int 0, .ref q_261, .ref q_295, .ref q_331, .ref q_369, .ref q_409, .int 0, .int 0, .int 0, .null, .null, .null, .int 0, .int 0, .int 0, .null, .null])) := hu_430.1
  have h_433 := (hu_430.2 (k + 1) (kn_ne (i := 1) (j := 0) (by decide))).trans h_413
  have h_434 := (hu_430.2 (k + 2) (kn_ne (i := 2) (j := 0) (by decide))).trans h_414
  have h_435 := (hu_430.2 (k + 3) (kn_ne (i := 3) (j := 0) (by decide))).trans h_415
  have h_436 := (hu_430.2 (k + 4) (kn_ne (i := 4) (j := 0) (by decide))).trans h_416
  have h_437 := (hu_430.2 (k + 5) (kn_ne (i := 5) (j := 0) (by decide))).trans h_417
  have h_438 := (hu_430.2 (k + 6) (kn_ne (i := 6) (j := 0) (by decide))).trans h_418
  have h_439 := (hu_430.2 (k + 7) (kn_ne (i := 7) (j := 0) (by decide))).trans h_419
  have h_440 := (hu_430.2 (k + 8) (kn_ne (i := 8) (j := 0) (by decide))).trans h_420
  have h_441 := (hu_430.2 (k + 9) (kn_ne (i := 9) (j := 0) (by decide))).trans h_421
  have h_442 := (hu_430.2 (k + 10) (kn_ne (i := 10) (j := 0) (by decide))).trans h_422
  have h_443 := (hu_430.2 (k + 11) (kn_ne (i := 11) (j := 0) (by decide))).trans h_423
  have h_444 := (hu_430.2 (k + 12) (kn_ne (i := 12) (j := 0) (by decide))).trans h_424
  have h_445 := (hu_430.2 (k + 13) (kn_ne (i := 13) (j := 0) (by decide))).trans h_425
  have h_446 := (hu_430.2 (k + 14) (kn_ne (i := 14) (j := 0) (by decide))).trans h_426
  have h_447 := (hu_430.2 (k + 15) (kn_ne (i := 15) (j := 0) (by decide))).trans h_427
  have h_448 := (hu_430.2 (k + 16) (kn_ne (i := 16) (j := 0) (by decide))).trans h_428
  have h_449 := (hu_430.2 (k + 17) (kn_ne (i := 17) (j := 0) (by decide))).trans h_429
  have h_450 := (hu_430.2 (k + 18) (kn_ne (i := 18) (j := 0) (by decide))).trans a_411n
  have hwl := (x_upd.len h_412 hu_430).trans hwl
  have hlow : ∀ j, j < k → ws_431[j]? = ws[j]? := fun j z9 => (hu_430.2 j (Nat.ne_of_lt (Nat.lt_of_lt_of_le z9 (Nat.le_add_right k 0)))).trans (hlow j z9)
  refine lv_aload_n hx hb dM_init_157 rfl (lv_at hl 0 rfl) ?_
  refine lv_bipush (v := 30) hx hb dM_init_158 (by decide) ?_
  refine va_newa (atype := .int) (ty := .int) (a0 := (30, .inl (fun _ => 0))) hx hb (hts _ tw_57) rfl hK hP hD hS hA (fun _ => rfl) (by decide) (by decide) (by decide) (by decide) (by decide) dM_init_160 (fun q_451 cA9 H hK9 hP hD hS => ?_)
  rw [x_ci hI hK hK9] at hP hD
  obtain ⟨ws_452, a_453l, a_453o, a_453n, hP, hD⟩ := x_app hP hD
  rw [hwl] at a_453l a_453n
  have h_454 := (a_453o k (by rw [hwl]; exact kn_lt (i := 0) (j := 19) (by decide))).trans h_432
  have h_455 := (a_453o (k + 1) (by rw [hwl]; exact kn_lt (i := 1) (j := 19) (by decide))).trans h_433
  have h_456 := (a_453o (k + 2) (by rw [hwl]; exact kn_lt (i := 2) (j := 19) (by decide))).trans h_434
  have h_457 := (a_453o (k + 3) (by rw [hwl]; exact kn_lt (i := 3) (j := 19) (by decide))).trans h_435
  have h_458 := (a_453o (k + 4) (by rw [hwl]; exact kn_lt (i := 4) (j := 19) (by decide))).trans h_436
  have h_459 := (a_453o (k + 5) (by rw [hwl]; exact kn_lt (i := 5) (j := 19) (by decide))).trans h_437
  have h_460 := (a_453o (k + 6) (by rw [hwl]; exact kn_lt (i := 6) (j := 19) (by decide))).trans h_438
  have h_461 := (a_453o (k + 7) (by rw [hwl]; exact kn_lt (i := 7) (j := 19) (by decide))).trans h_439
  have h_462 := (a_453o (k + 8) (by rw [hwl]; exact kn_lt (i := 8) (j := 19) (by decide))).trans h_440
  have h_463 := (a_453o (k + 9) (by rw [hwl]; exact kn_lt (i := 9) (j := 19) (by decide))).trans h_441
  have h_464 := (a_453o (k + 10) (by rw [hwl]; exact kn_lt (i := 10) (j := 19) (by decide))).trans h_442
  have h_465 := (a_453o (k + 11) (by rw [hwl]; exact kn_lt (i := 11) (j := 19) (by decide))).trans h_443
  have h_466 := (a_453o (k + 12) (by rw [hwl]; exact kn_lt (i := 12) (j := 19) (by decide))).trans h_444
  have h_467 := (a_453o (k + 13) (by rw [hwl]; exact kn_lt (i := 13) (j := 19) (by decide))).trans h_445
  have h_468 := (a_453o (k + 14) (by rw [hwl]; exact kn_lt (i := 14) (j := 19) (by decide))).trans h_446
  have h_469 := (a_453o (k + 15) (by rw [hwl]; exact kn_lt (i := 15) (j := 19) (by decide))).trans h_447
  have h_470 := (a_453o (k + 16) (by rw [hwl]; exact kn_lt (i := 16) (j := 19) (by decide))).trans h_448
  have h_471 := (a_453o (k + 17) (by rw [hwl]; exact kn_lt (i := 17) (j := 19) (by decide))).trans h_449
  have h_472 := (a_453o (k + 18) (by rw [hwl]; exact kn_lt (i := 18) (j := 19) (by decide))).trans h_450
  have hlow : ∀ j, j < k → ws_452[j]? = ws[j]? := fun j z9 => (a_453o j (by rw [hwl]; exact Nat.lt_of_lt_of_le z9 (Nat.le_add_right k _))).trans (hlow j z9)
  have hwl : ws_452.length = k + 20 := a_453l
  refine va_putF (D := D) (cl := xCl) (ci := 7) (v := .ref q_451) (ty := .array .int) (C := rnM) (T := tbM) (N := 39) hx hb hts inM tyM toM nmM hown hK hP hD hS k h_454 rfl 31 (by decide) (hts _ tw_648) (fun _ h9 => h9) rfl hnm rfl (by decide +kernel) rfl rfl (Nat.le_of_ble_eq_true rfl) dM_init_162 (fun H locs hP hD hS => ?_)
  obtain ⟨ws_474, hu_473, hP, hD⟩ := x_gen h_454 hP hD
  have h_475 : ws_474[k]? = some (a, .inr (7, [.int 0, .int 0, .ref q_1, .ref q_9, .ref q_19, .ref q_31, .ref q_45, .ref q_61, .int 0, .int 0, .int 0, .int 0, .int 0, .int 0, .ref q_79, .ref q_99, .ref q_121, .ref q_145, .int 0, .ref q_171, .ref q_199, .ref q_229, .int 0, .ref q_261, .ref q_295, .ref q_331, .ref q_369, .ref q_409, .int 0, .int 0, .int 0, .ref q_451, .null, .null, .int 0, .int 0, .int 0, .null, .null])) := hu_473.1
  have h_476 := (hu_473.2 (k + 1) (kn_ne (i := 1) (j := 0) (by decide))).trans h_455
  have h_477 := (hu_473.2 (k + 2) (kn_ne (i := 2) (j := 0) (by decide))).trans h_456
  have h_478 := (hu_473.2 (k + 3) (kn_ne (i := 3) (j := 0) (by decide))).trans h_457
  have h_479 := (hu_473.2 (k + 4) (kn_ne (i := 4) (j := 0) (by decide))).trans h_458
  have h_480 := (hu_473.2 (k + 5) (kn_ne (i := 5) (j := 0) (by decide))).trans h_459
  have h_481 := (hu_473.2 (k + 6) (kn_ne (i := 6) (j := 0) (by decide))).trans h_460
  have h_482 := (hu_473.2 (k + 7) (kn_ne (i := 7) (j := 0) (by decide))).trans h_461
  have h_483 := (hu_473.2 (k + 8) (kn_ne (i := 8) (j := 0) (by decide))).trans h_462
  have h_484 := (hu_473.2 (k + 9) (kn_ne (i := 9) (j := 0) (by decide))).trans h_463
  have h_485 := (hu_473.2 (k + 10) (kn_ne (i := 10) (j := 0) (by decide))).trans h_464
  have h_486 := (hu_473.2 (k + 11) (kn_ne (i := 11) (j := 0) (by decide))).trans h_465
  have h_487 := (hu_473.2 (k + 12) (kn_ne (i := 12) (j := 0) (by decide))).trans h_466
  have h_488 := (hu_473.2 (k + 13) (kn_ne (i := 13) (j := 0) (by decide))).trans h_467
  have h_489 := (hu_473.2 (k + 14) (kn_ne (i := 14) (j := 0) (by decide))).trans h_468
  have h_490 := (hu_473.2 (k + 15) (kn_ne (i := 15) (j := 0) (by decide))).trans h_469
  have h_491 := (hu_473.2 (k + 16) (kn_ne (i := 16) (j := 0) (by decide))).trans h_470
  have h_492 := (hu_473.2 (k + 17) (kn_ne (i := 17) (j := 0) (by decide))).trans h_471
  have h_493 := (hu_473.2 (k + 18) (kn_ne (i := 18) (j := 0) (by decide))).trans h_472
  have h_494 := (hu_473.2 (k + 19) (kn_ne (i := 19) (j := 0) (by decide))).trans a_453n
  have hwl := (x_upd.len h_454 hu_473).trans hwl
  have hlow : ∀ j, j < k → ws_474[j]? = ws[j]? := fun j z9 => (hu_473.2 j (Nat.ne_of_lt (Nat.lt_of_lt_of_le z9 (Nat.le_add_right k 0)))).trans (hlow j z9)
  refine lv_aload_n hx hb dM_init_165 rfl (lv_at hl 0 rfl) ?_
  refine lv_bipush (v := 30) hx hb dM_init_166 (by decide) ?_
  refine va_newa (atype := .int) (ty := .int) (a0 := (30, .inl (fun _ => 0))) hx hb (hts _ tw_57) rfl hK hP hD hS hA (fun _ => rfl) (by decide) (by decide) (by decide) (by decide) (by decide) dM_init_168 (fun q_495 cA9 H hK9 hP hD hS => ?_)
  rw [x_ci hI hK hK9] at hP hD
  obtain ⟨ws_496, a_497l, a_497o, a_497n, hP, hD⟩ := x_app hP hD
  rw [hwl] at a_497l a_497n
  have h_498 := (a_497o k (by rw [hwl]; exact kn_lt (i := 0) (j := 20) (by decide))).trans h_475
  have h_499 := (a_497o (k + 1) (by rw [hwl]; exact kn_lt (i := 1) (j := 20) (by decide))).trans h_476
  have h_500 := (a_497o (k + 2) (by rw [hwl]; exact kn_lt (i := 2) (j := 20) (by decide))).trans h_477
  have h_501 := (a_497o (k + 3) (by rw [hwl]; exact kn_lt (i := 3) (j := 20) (by decide))).trans h_478
  have h_502 := (a_497o (k + 4) (by rw [hwl]; exact kn_lt (i := 4) (j := 20) (by decide))).trans h_479
  have h_503 := (a_497o (k + 5) (by rw [hwl]; exact kn_lt (i := 5) (j := 20) (by decide))).trans h_480
  have h_504 := (a_497o (k + 6) (by rw [hwl]; exact kn_lt (i := 6) (j := 20) (by decide))).trans h_481
  have h_505 := (a_497o (k + 7) (by rw [hwl]; exact kn_lt (i := 7) (j := 20) (by decide))).trans h_482
  have h_506 := (a_497o (k + 8) (by rw [hwl]; exact kn_lt (i := 8) (j := 20) (by decide))).trans h_483
  have h_507 := (a_497o (k + 9) (by rw [hwl]; exact kn_lt (i := 9) (j := 20) (by decide))).trans h_484
  have h_508 := (a_497o (k + 10) (by rw [hwl]; exact kn_lt (i := 10) (j := 20) (by decide))).trans h_485
  have h_509 := (a_497o (k + 11) (by rw [hwl]; exact kn_lt (i := 11) (j := 20) (by decide))).trans h_486
  have h_510 := (a_497o (k + 12) (by rw [hwl]; exact kn_lt (i := 12) (j := 20) (by decide))).trans h_487
  have h_511 := (a_497o (k + 13) (by rw [hwl]; exact kn_lt (i := 13) (j := 20) (by decide))).trans h_488
  have h_512 := (a_497o (k + 14) (by rw [hwl]; exact kn_lt (i := 14) (j := 20) (by decide))).trans h_489
  have h_513 := (a_497o (k + 15) (by rw [hwl]; exact kn_lt (i := 15) (j := 20) (by decide))).trans h_490
  have h_514 := (a_497o (k + 16) (by rw [hwl]; exact kn_lt (i := 16) (j := 20) (by decide))).trans h_491
  have h_515 := (a_497o (k + 17) (by rw [hwl]; exact kn_lt (i := 17) (j := 20) (by decide))).trans h_492
  have h_516 := (a_497o (k + 18) (by rw [hwl]; exact kn_lt (i := 18) (j := 20) (by decide))).trans h_493
  have h_517 := (a_497o (k + 19) (by rw [hwl]; exact kn_lt (i := 19) (j := 20) (by decide))).trans h_494
  have hlow : ∀ j, j < k → ws_496[j]? = ws[j]? := fun j z9 => (a_497o j (by rw [hwl]; exact Nat.lt_of_lt_of_le z9 (Nat.le_add_right k _))).trans (hlow j z9)
  have hwl : ws_496.length = k + 21 := a_497l
  refine va_putF (D := D) (cl := xCl) (ci := 7) (v := .ref q_495) (ty := .array .int) (C := rnM) (T := tbM) (N := 39) hx hb hts inM tyM toM nmM hown hK hP hD hS k h_498 rfl 32 (by decide) (hts _ tw_649) (fun _ h9 => h9) rfl hnm rfl (by decide +kernel) rfl rfl (Nat.le_of_ble_eq_true rfl) dM_init_170 (fun H locs hP hD hS => ?_)
  obtain ⟨ws_519, hu_518, hP, hD⟩ := x_gen h_498 hP hD
  have h_520 : ws_519[k]? = some (a, .inr (7, [.int 0, .int 0, .ref q_1, .ref q_9, .ref q_19, .ref q_31, .ref q_45, .ref q_61, .int 0, .int 0, .int 0, .int 0, .int 0, .int 0, .ref q_79, .ref q_99, .ref q_121, .ref q_145, .int 0, .ref q_171, .ref q_199, .ref q_229, .int 0, .ref q_261, .ref q_295, .ref q_331, .ref q_369, .ref q_409, .int 0, .int 0, .int 0, .ref q_451, .ref q_495, .null, .int 0, .int 0, .int 0, .null, .null])) := hu_518.1
  have h_521 := (hu_518.2 (k + 1) (kn_ne (i := 1) (j := 0) (by decide))).trans h_499
  have h_522 := (hu_518.2 (k + 2) (kn_ne (i := 2) (j := 0) (by decide))).trans h_500
  have h_523 := (hu_518.2 (k + 3) (kn_ne (i := 3) (j := 0) (by decide))).trans h_501
  have h_524 := (hu_518.2 (k + 4) (kn_ne (i := 4) (j := 0) (by decide))).trans h_502
  have h_525 := (hu_518.2 (k + 5) (kn_ne (i := 5) (j := 0) (by decide))).trans h_503
  have h_526 := (hu_518.2 (k + 6) (kn_ne (i := 6) (j := 0) (by decide))).trans h_504
  have h_527 := (hu_518.2 (k + 7) (kn_ne (i := 7) (j := 0) (by decide))).trans h_505
  have h_528 := (hu_518.2 (k + 8) (kn_ne (i := 8) (j := 0) (by decide))).trans h_506
  have h_529 := (hu_518.2 (k + 9) (kn_ne (i := 9) (j := 0) (by decide))).trans h_507
  have h_530 := (hu_518.2 (k + 10) (kn_ne (i := 10) (j := 0) (by decide))).trans h_508
  have h_531 := (hu_518.2 (k + 11) (kn_ne (i := 11) (j := 0) (by decide))).trans h_509
  have h_532 := (hu_518.2 (k + 12) (kn_ne (i := 12) (j := 0) (by decide))).trans h_510
  have h_533 := (hu_518.2 (k + 13) (kn_ne (i := 13) (j := 0) (by decide))).trans h_511
  have h_534 := (hu_518.2 (k + 14) (kn_ne (i := 14) (j := 0) (by decide))).trans h_512
  have h_535 := (hu_518.2 (k + 15) (kn_ne (i := 15) (j := 0) (by decide))).trans h_513
  have h_536 := (hu_518.2 (k + 16) (kn_ne (i := 16) (j := 0) (by decide))).trans h_514
  have h_537 := (hu_518.2 (k + 17) (kn_ne (i := 17) (j := 0) (by decide))).trans h_515
  have h_538 := (hu_518.2 (k + 18) (kn_ne (i := 18) (j := 0) (by decide))).trans h_516
  have h_539 := (hu_518.2 (k + 19) (kn_ne (i := 19) (j := 0) (by decide))).trans h_517
  have h_540 := (hu_518.2 (k + 20) (kn_ne (i := 20) (j := 0) (by decide))).trans a_497n
  have hwl := (x_upd.len h_498 hu_518).trans hwl
  have hlow : ∀ j, j < k → ws_519[j]? = ws[j]? := fun j z9 => (hu_518.2 j (Nat.ne_of_lt (Nat.lt_of_lt_of_le z9 (Nat.le_add_right k 0)))).trans (hlow j z9)
  refine lv_aload_n hx hb dM_init_173 rfl (lv_at hl 0 rfl) ?_
  refine lv_bipush (v := 30) hx hb dM_init_174 (by decide) ?_
  refine va_newa (atype := .int) (ty := .int) (a0 := (30, .inl (fun _ => 0))) hx hb (hts _ tw_57) rfl hK hP hD hS hA (fun _ => rfl) (by decide) (by decide) (by decide) (by decide) (by decide) dM_init_176 (fun q_541 cA9 H hK9 hP hD hS => ?_)
  rw [x_ci hI hK hK9] at hP hD
  obtain ⟨ws_542, a_543l, a_543o, a_543n, hP, hD⟩ := x_app hP hD
  rw [hwl] at a_543l a_543n
  have h_544 := (a_543o k (by rw [hwl]; exact kn_lt (i := 0) (j := 21) (by decide))).trans h_520
  have h_545 := (a_543o (k + 1) (by rw [hwl]; exact kn_lt (i := 1) (j := 21) (by decide))).trans h_521
  have h_546 := (a_543o (k + 2) (by rw [hwl]; exact kn_lt (i := 2) (j := 21) (by decide))).trans h_522
  have h_547 := (a_543o (k + 3) (by rw [hwl]; exact kn_lt (i := 3) (j := 21) (by decide))).trans h_523
  have h_548 := (a_543o (k + 4) (by rw [hwl]; exact kn_lt (i := 4) (j := 21) (by decide))).trans h_524
  have h_549 := (a_543o (k + 5) (by rw [hwl]; exact kn_lt (i := 5) (j := 21) (by decide))).trans h_525
  have h_550 := (a_543o (k + 6) (by rw [hwl]; exact kn_lt (i := 6) (j := 21) (by decide))).trans h_526
  have h_551 := (a_543o (k + 7) (by rw [hwl]; exact kn_lt (i := 7) (j := 21) (by decide))).trans h_527
  have h_552 := (a_543o (k + 8) (by rw [hwl]; exact kn_lt (i := 8) (j := 21) (by decide))).trans h_528
  have h_553 := (a_543o (k + 9) (by rw [hwl]; exact kn_lt (i := 9) (j := 21) (by decide))).trans h_529
  have h_554 := (a_543o (k + 10) (by rw [hwl]; exact kn_lt (i := 10) (j := 21) (by decide))).trans h_530
  have h_555 := (a_543o (k + 11) (by rw [hwl]; exact kn_lt (i := 11) (j := 21) (by decide))).trans h_531
  have h_556 := (a_543o (k + 12) (by rw [hwl]; exact kn_lt (i := 12) (j := 21) (by decide))).trans h_532
  have h_557 := (a_543o (k + 13) (by rw [hwl]; exact kn_lt (i := 13) (j := 21) (by decide))).trans h_533
  have h_558 := (a_543o (k + 14) (by rw [hwl]; exact kn_lt (i := 14) (j := 21) (by decide))).trans h_534
  have h_559 := (a_543o (k + 15) (by rw [hwl]; exact kn_lt (i := 15) (j := 21) (by decide))).trans h_535
  have h_560 := (a_543o (k + 16) (by rw [hwl]; exact kn_lt (i := 16) (j := 21) (by decide))).trans h_536
  have h_561 := (a_543o (k + 17) (by rw [hwl]; exact kn_lt (i := 17) (j := 21) (by decide))).trans h_537
  have h_562 := (a_543o (k + 18) (by rw [hwl]; exact kn_lt (i := 18) (j := 21) (by decide))).trans h_538
  have h_563 := (a_543o (k + 19) (by rw [hwl]; exact kn_lt (i := 19) (j := 21) (by decide))).trans h_539
  have h_564 := (a_543o (k + 20) (by rw [hwl]; exact kn_lt (i := 20) (j := 21) (by decide))).trans h_540
  have hlow : ∀ j, j < k → ws_542[j]? = ws[j]? := fun j z9 => (a_543o j (by rw [hwl]; exact Nat.lt_of_lt_of_le z9 (Nat.le_add_right k _))).trans (hlow j z9)
  have hwl : ws_542.length = k + 22 := a_543l
  refine va_putF (D := D) (cl := xCl) (ci := 7) (v := .ref q_541) (ty := .array .int) (C := rnM) (T := tbM) (N := 39) hx hb hts inM tyM toM nmM hown hK hP hD hS k h_544 rfl 33 (by decide) (hts _ tw_650) (fun _ h9 => h9) rfl hnm rfl (by decide +kernel) rfl rfl (Nat.le_of_ble_eq_true rfl) dM_init_178 (fun H locs hP hD hS => ?_)
  obtain ⟨ws_566, hu_565, hP, hD⟩ := x_gen h_544 hP hD
  have h_567 : ws_566[k]? = some (a, .inr (7, [.int 0, .int 0, .ref q_1, .ref q_9, .ref q_19, .ref q_31, .ref q_45, .ref q_61, .int 0, .int 0, .int 0, .int 0, .int 0, .int 0, .ref q_79, .ref q_99, .ref q_121, .ref q_145, .int 0, .ref q_171, .ref q_199, .ref q_229, .int 0, .ref q_261, .ref q_295, .ref q_331, .ref q_369, .ref q_409, .int 0, .int 0, .int 0, .ref q_451, .ref q_495, .ref q_541, .int 0, .int 0, .int 0, .null, .null])) := hu_565.1
  have h_568 := (hu_565.2 (k + 1) (kn_ne (i := 1) (j := 0) (by decide))).trans h_545
  have h_569 := (hu_565.2 (k + 2) (kn_ne (i := 2) (j := 0) (by decide))).trans h_546
  have h_570 := (hu_565.2 (k + 3) (kn_ne (i := 3) (j := 0) (by decide))).trans h_547
  have h_571 := (hu_565.2 (k + 4) (kn_ne (i := 4) (j := 0) (by decide))).trans h_548
  have h_572 := (hu_565.2 (k + 5) (kn_ne (i := 5) (j := 0) (by decide))).trans h_549
  have h_573 := (hu_565.2 (k + 6) (kn_ne (i := 6) (j := 0) (by decide))).trans h_550
  have h_574 := (hu_565.2 (k + 7) (kn_ne (i := 7) (j := 0) (by decide))).trans h_551
  have h_575 := (hu_565.2 (k + 8) (kn_ne (i := 8) (j := 0) (by decide))).trans h_552
  have h_576 := (hu_565.2 (k + 9) (kn_ne (i := 9) (j := 0) (by decide))).trans h_553
  have h_577 := (hu_565.2 (k + 10) (kn_ne (i := 10) (j := 0) (by decide))).trans h_554
  have h_578 := (hu_565.2 (k + 11) (kn_ne (i := 11) (j := 0) (by decide))).trans h_555
  have h_579 := (hu_565.2 (k + 12) (kn_ne (i := 12) (j := 0) (by decide))).trans h_556
  have h_580 := (hu_565.2 (k + 13) (kn_ne (i := 13) (j := 0) (by decide))).trans h_557
  have h_581 := (hu_565.2 (k + 14) (kn_ne (i := 14) (j := 0) (by decide))).trans h_558
  have h_582 := (hu_565.2 (k + 15) (kn_ne (i := 15) (j := 0) (by decide))).trans h_559
  have h_583 := (hu_565.2 (k + 16) (kn_ne (i := 16) (j := 0) (by decide))).trans h_560
  have h_584 := (hu_565.2 (k + 17) (kn_ne (i := 17) (j := 0) (by decide))).trans h_561
  have h_585 := (hu_565.2 (k + 18) (kn_ne (i := 18) (j := 0) (by decide))).trans h_562
  have h_586 := (hu_565.2 (k + 19) (kn_ne (i := 19) (j := 0) (by decide))).trans h_563
  have h_587 := (hu_565.2 (k + 20) (kn_ne (i := 20) (j := 0) (by decide))).trans h_564
  have h_588 := (hu_565.2 (k + 21) (kn_ne (i := 21) (j := 0) (by decide))).trans a_543n
  have hwl := (x_upd.len h_544 hu_565).trans hwl
  have hlow : ∀ j, j < k → ws_566[j]? = ws[j]? := fun j z9 => (hu_565.2 j (Nat.ne_of_lt (Nat.lt_of_lt_of_le z9 (Nat.le_add_right k 0)))).trans (hlow j z9)
  refine lv_aload_n hx hb dM_init_181 rfl (lv_at hl 0 rfl) ?_
  refine lv_iconst (v := (-1)) hx hb dM_init_182 (by decide) ?_
  refine va_put (D := D) (cl := xCl) (ci := 7) (v := .int (-1)) (ty := .int) (C := rnM) (T := tbM) (N := 39) hx hb hts inM tyM toM nmM hown hK hP hD hS k h_567 rfl 36 (by decide) (hts _ tw_653) (fun _ h9 => h9) rfl (by decide +kernel) rfl rfl (Nat.le_of_ble_eq_true rfl) dM_init_183 (fun H locs hP hD hS => ?_)
  obtain ⟨ws_590, hu_589, hP, hD⟩ := x_gen h_567 hP hD
  have h_591 : ws_590[k]? = some (a, .inr (7, [.int 0, .int 0, .ref q_1, .ref q_9, .ref q_19, .ref q_31, .ref q_45, .ref q_61, .int 0, .int 0, .int 0, .int 0, .int 0, .int 0, .ref q_79, .ref q_99, .ref q_121, .ref q_145, .int 0, .ref q_171, .ref q_199, .ref q_229, .int 0, .ref q_261, .ref q_295, .ref q_331, .ref q_369, .ref q_409, .int 0, .int 0, .int 0, .ref q_451, .ref q_495, .ref q_541, .int 0, .int 0, .int (-1), .null, .null])) := hu_589.1
  have h_592 := (hu_589.2 (k + 1) (kn_ne (i := 1) (j := 0) (by decide))).trans h_568
  have h_593 := (hu_589.2 (k + 2) (kn_ne (i := 2) (j := 0) (by decide))).trans h_569
  have h_594 := (hu_589.2 (k + 3) (kn_ne (i := 3) (j := 0) (by decide))).trans h_570
  have h_595 := (hu_589.2 (k + 4) (kn_ne (i := 4) (j := 0) (by decide))).trans h_571
  have h_596 := (hu_589.2 (k + 5) (kn_ne (i := 5) (j := 0) (by decide))).trans h_572
  have h_597 := (hu_589.2 (k + 6) (kn_ne (i := 6) (j := 0) (by decide))).trans h_573
  have h_598 := (hu_589.2 (k + 7) (kn_ne (i := 7) (j := 0) (by decide))).trans h_574
  have h_599 := (hu_589.2 (k + 8) (kn_ne (i := 8) (j := 0) (by decide))).trans h_575
  have h_600 := (hu_589.2 (k + 9) (kn_ne (i := 9) (j := 0) (by decide))).trans h_576
  have h_601 := (hu_589.2 (k + 10) (kn_ne (i := 10) (j := 0) (by decide))).trans h_577
  have h_602 := (hu_589.2 (k + 11) (kn_ne (i := 11) (j := 0) (by decide))).trans h_578
  have h_603 := (hu_589.2 (k + 12) (kn_ne (i := 12) (j := 0) (by decide))).trans h_579
  have h_604 := (hu_589.2 (k + 13) (kn_ne (i := 13) (j := 0) (by decide))).trans h_580
  have h_605 := (hu_589.2 (k + 14) (kn_ne (i := 14) (j := 0) (by decide))).trans h_581
  have h_606 := (hu_589.2 (k + 15) (kn_ne (i := 15) (j := 0) (by decide))).trans h_582
  have h_607 := (hu_589.2 (k + 16) (kn_ne (i := 16) (j := 0) (by decide))).trans h_583
  have h_608 := (hu_589.2 (k + 17) (kn_ne (i := 17) (j := 0) (by decide))).trans h_584
  have h_609 := (hu_589.2 (k + 18) (kn_ne (i := 18) (j := 0) (by decide))).trans h_585
  have h_610 := (hu_589.2 (k + 19) (kn_ne (i := 19) (j := 0) (by decide))).trans h_586
  have h_611 := (hu_589.2 (k + 20) (kn_ne (i := 20) (j := 0) (by decide))).trans h_587
  have h_612 := (hu_589.2 (k + 21) (kn_ne (i := 21) (j := 0) (by decide))).trans h_588
  have hwl := (x_upd.len h_567 hu_589).trans hwl
  have hlow : ∀ j, j < k → ws_590[j]? = ws[j]? := fun j z9 => (hu_589.2 j (Nat.ne_of_lt (Nat.lt_of_lt_of_le z9 (Nat.le_add_right k 0)))).trans (hlow j z9)
  refine lv_aload_n hx hb dM_init_186 rfl (lv_at hl 0 rfl) ?_
  refine lv_bipush (v := 8) hx hb dM_init_187 (by decide) ?_
  refine va_newa (atype := .int) (ty := .int) (a0 := (8, .inl (fun _ => 0))) hx hb (hts _ tw_57) rfl hK hP hD hS hA (fun _ => rfl) (by decide) (by decide) (by decide) (by decide) (by decide) dM_init_189 (fun q_613 cA9 H hK9 hP hD hS => ?_)
  rw [x_ci hI hK hK9] at hP hD
  obtain ⟨ws_614, a_615l, a_615o, a_615n, hP, hD⟩ := x_app hP hD
  rw [hwl] at a_615l a_615n
  have h_616 := (a_615o k (by rw [hwl]; exact kn_lt (i := 0) (j := 22) (by decide))).trans h_591
  have h_617 := (a_615o (k + 1) (by rw [hwl]; exact kn_lt (i := 1) (j := 22) (by decide))).trans h_592
  have h_618 := (a_615o (k + 2) (by rw [hwl]; exact kn_lt (i := 2) (j := 22) (by decide))).trans h_593
  have h_619 := (a_615o (k + 3) (by rw [hwl]; exact kn_lt (i := 3) (j := 22) (by decide))).trans h_594
  have h_620 := (a_615o (k + 4) (by rw [hwl]; exact kn_lt (i := 4) (j := 22) (by decide))).trans h_595
  have h_621 := (a_615o (k + 5) (by rw [hwl]; exact kn_lt (i := 5) (j := 22) (by decide))).trans h_596
  have h_622 := (a_615o (k + 6) (by rw [hwl]; exact kn_lt (i := 6) (j := 22) (by decide))).trans h_597
  have h_623 := (a_615o (k + 7) (by rw [hwl]; exact kn_lt (i := 7) (j := 22) (by decide))).trans h_598
  have h_624 := (a_615o (k + 8) (by rw [hwl]; exact kn_lt (i := 8) (j := 22) (by decide))).trans h_599
  have h_625 := (a_615o (k + 9) (by rw [hwl]; exact kn_lt (i := 9) (j := 22) (by decide))).trans h_600
  have h_626 := (a_615o (k + 10) (by rw [hwl]; exact kn_lt (i := 10) (j := 22) (by decide))).trans h_601
  have h_627 := (a_615o (k + 11) (by rw [hwl]; exact kn_lt (i := 11) (j := 22) (by decide))).trans h_602
  have h_628 := (a_615o (k + 12) (by rw [hwl]; exact kn_lt (i := 12) (j := 22) (by decide))).trans h_603
  have h_629 := (a_615o (k + 13) (by rw [hwl]; exact kn_lt (i := 13) (j := 22) (by decide))).trans h_604
  have h_630 := (a_615o (k + 14) (by rw [hwl]; exact kn_lt (i := 14) (j := 22) (by decide))).trans h_605
  have h_631 := (a_615o (k + 15) (by rw [hwl]; exact kn_lt (i := 15) (j := 22) (by decide))).trans h_606
  have h_632 := (a_615o (k + 16) (by rw [hwl]; exact kn_lt (i := 16) (j := 22) (by decide))).trans h_607
  have h_633 := (a_615o (k + 17) (by rw [hwl]; exact kn_lt (i := 17) (j := 22) (by decide))).trans h_608
  have h_634 := (a_615o (k + 18) (by rw [hwl]; exact kn_lt (i := 18) (j := 22) (by decide))).trans h_609
  have h_635 := (a_615o (k + 19) (by rw [hwl]; exact kn_lt (i := 19) (j := 22) (by decide))).trans h_610
  have h_636 := (a_615o (k + 20) (by rw [hwl]; exact kn_lt (i := 20) (j := 22) (by decide))).trans h_611
  have h_637 := (a_615o (k + 21) (by rw [hwl]; exact kn_lt (i := 21) (j := 22) (by decide))).trans h_612
  have hlow : ∀ j, j < k → ws_614[j]? = ws[j]? := fun j z9 => (a_615o j (by rw [hwl]; exact Nat.lt_of_lt_of_le z9 (Nat.le_add_right k _))).trans (hlow j z9)
  have hwl : ws_614.length = k + 23 := a_615l
  refine va_putF (D := D) (cl := xCl) (ci := 7) (v := .ref q_613) (ty := .array .int) (C := rnM) (T := tbM) (N := 39) hx hb hts inM tyM toM nmM hown hK hP hD hS k h_616 rfl 37 (by decide) (hts _ tw_654) (fun _ h9 => h9) rfl hnm rfl (by decide +kernel) rfl rfl (Nat.le_of_ble_eq_true rfl) dM_init_191 (fun H locs hP hD hS => ?_)
  obtain ⟨ws_639, hu_638, hP, hD⟩ := x_gen h_616 hP hD
  have h_640 : ws_639[k]? = some (a, .inr (7, [.int 0, .int 0, .ref q_1, .ref q_9, .ref q_19, .ref q_31, .ref q_45, .ref q_61, .int 0, .int 0, .int 0, .int 0, .int 0, .int 0, .ref q_79, .ref q_99, .ref q_121, .ref q_145, .int 0, .ref q_171, .ref q_199, .ref q_229, .int 0, .ref q_261, .ref q_295, .ref q_331, .ref q_369, .ref q_409, .int 0, .int 0, .int 0, .ref q_451, .ref q_495, .ref q_541, .int 0, .int 0, .int (-1), .ref q_613, .null])) := hu_638.1
  have h_641 := (hu_638.2 (k + 1) (kn_ne (i := 1) (j := 0) (by decide))).trans h_617
  have h_642 := (hu_638.2 (k + 2) (kn_ne (i := 2) (j := 0) (by decide))).trans h_618
  have h_643 := (hu_638.2 (k + 3) (kn_ne (i := 3) (j := 0) (by decide))).trans h_619
  have h_644 := (hu_638.2 (k + 4) (kn_ne (i := 4) (j := 0) (by decide))).trans h_620
  have h_645 := (hu_638.2 (k + 5) (kn_ne (i := 5) (j := 0) (by decide))).trans h_621
  have h_646 := (hu_638.2 (k + 6) (kn_ne (i := 6) (j := 0) (by decide))).trans h_622
  have h_647 := (hu_638.2 (k + 7) (kn_ne (i := 7) (j := 0) (by decide))).trans h_623
  have h_648 := (hu_638.2 (k + 8) (kn_ne (i := 8) (j := 0) (by decide))).trans h_624
  have h_649 := (hu_638.2 (k + 9) (kn_ne (i := 9) (j := 0) (by decide))).trans h_625
  have h_650 := (hu_638.2 (k + 10) (kn_ne (i := 10) (j := 0) (by decide))).trans h_626
  have h_651 := (hu_638.2 (k + 11) (kn_ne (i := 11) (j := 0) (by decide))).trans h_627
  have h_652 := (hu_638.2 (k + 12) (kn_ne (i := 12) (j := 0) (by decide))).trans h_628
  have h_653 := (hu_638.2 (k + 13) (kn_ne (i := 13) (j := 0) (by decide))).trans h_629
  have h_654 := (hu_638.2 (k + 14) (kn_ne (i := 14) (j := 0) (by decide))).trans h_630
  have h_655 := (hu_638.2 (k + 15) (kn_ne (i := 15) (j := 0) (by decide))).trans h_631
  have h_656 := (hu_638.2 (k + 16) (kn_ne (i := 16) (j := 0) (by decide))).trans h_632
  have h_657 := (hu_638.2 (k + 17) (kn_ne (i := 17) (j := 0) (by decide))).trans h_633
  have h_658 := (hu_638.2 (k + 18) (kn_ne (i := 18) (j := 0) (by decide))).trans h_634
  have h_659 := (hu_638.2 (k + 19) (kn_ne (i := 19) (j := 0) (by decide))).trans h_635
  have h_660 := (hu_638.2 (k + 20) (kn_ne (i := 20) (j := 0) (by decide))).trans h_636
  have h_661 := (hu_638.2 (k + 21) (kn_ne (i := 21) (j := 0) (by decide))).trans h_637
  have h_662 := (hu_638.2 (k + 22) (kn_ne (i := 22) (j := 0) (by decide))).trans a_615n
  have hwl := (x_upd.len h_616 hu_638).trans hwl
  have hlow : ∀ j, j < k → ws_639[j]? = ws[j]? := fun j z9 => (hu_638.2 j (Nat.ne_of_lt (Nat.lt_of_lt_of_le z9 (Nat.le_add_right k 0)))).trans (hlow j z9)
  refine lv_aload_n hx hb dM_init_194 rfl (lv_at hl 0 rfl) ?_
  refine lv_bipush (v := 8) hx hb dM_init_195 (by decide) ?_
  refine va_newa (atype := .int) (ty := .int) (a0 := (8, .inl (fun _ => 0))) hx hb (hts _ tw_57) rfl hK hP hD hS hA (fun _ => rfl) (by decide) (by decide) (by decide) (by decide) (by decide) dM_init_197 (fun q_663 cA9 H hK9 hP hD hS => ?_)
  rw [x_ci hI hK hK9] at hP hD
  obtain ⟨ws_664, a_665l, a_665o, a_665n, hP, hD⟩ := x_app hP hD
  rw [hwl] at a_665l a_665n
  have h_666 := (a_665o k (by rw [hwl]; exact kn_lt (i := 0) (j := 23) (by decide))).trans h_640
  have h_667 := (a_665o (k + 1) (by rw [hwl]; exact kn_lt (i := 1) (j := 23) (by decide))).trans h_641
  have h_668 := (a_665o (k + 2) (by rw [hwl]; exact kn_lt (i := 2) (j := 23) (by decide))).trans h_642
  have h_669 := (a_665o (k + 3) (by rw [hwl]; exact kn_lt (i := 3) (j := 23) (by decide))).trans h_643
  have h_670 := (a_665o (k + 4) (by rw [hwl]; exact kn_lt (i := 4) (j := 23) (by decide))).trans h_644
  have h_671 := (a_665o (k + 5) (by rw [hwl]; exact kn_lt (i := 5) (j := 23) (by decide))).trans h_645
  have h_672 := (a_665o (k + 6) (by rw [hwl]; exact kn_lt (i := 6) (j := 23) (by decide))).trans h_646
  have h_673 := (a_665o (k + 7) (by rw [hwl]; exact kn_lt (i := 7) (j := 23) (by decide))).trans h_647
  have h_674 := (a_665o (k + 8) (by rw [hwl]; exact kn_lt (i := 8) (j := 23) (by decide))).trans h_648
  have h_675 := (a_665o (k + 9) (by rw [hwl]; exact kn_lt (i := 9) (j := 23) (by decide))).trans h_649
  have h_676 := (a_665o (k + 10) (by rw [hwl]; exact kn_lt (i := 10) (j := 23) (by decide))).trans h_650
  have h_677 := (a_665o (k + 11) (by rw [hwl]; exact kn_lt (i := 11) (j := 23) (by decide))).trans h_651
  have h_678 := (a_665o (k + 12) (by rw [hwl]; exact kn_lt (i := 12) (j := 23) (by decide))).trans h_652
  have h_679 := (a_665o (k + 13) (by rw [hwl]; exact kn_lt (i := 13) (j := 23) (by decide))).trans h_653
  have h_680 := (a_665o (k + 14) (by rw [hwl]; exact kn_lt (i := 14) (j := 23) (by decide))).trans h_654
  have h_681 := (a_665o (k + 15) (by rw [hwl]; exact kn_lt (i := 15) (j := 23) (by decide))).trans h_655
  have h_682 := (a_665o (k + 16) (by rw [hwl]; exact kn_lt (i := 16) (j := 23) (by decide))).trans h_656
  have h_683 := (a_665o (k + 17) (by rw [hwl]; exact kn_lt (i := 17) (j := 23) (by decide))).trans h_657
  have h_684 := (a_665o (k + 18) (by rw [hwl]; exact kn_lt (i := 18) (j := 23) (by decide))).trans h_658
  have h_685 := (a_665o (k + 19) (by rw [hwl]; exact kn_lt (i := 19) (j := 23) (by decide))).trans h_659
  have h_686 := (a_665o (k + 20) (by rw [hwl]; exact kn_lt (i := 20) (j := 23) (by decide))).trans h_660
  have h_687 := (a_665o (k + 21) (by rw [hwl]; exact kn_lt (i := 21) (j := 23) (by decide))).trans h_661
  have h_688 := (a_665o (k + 22) (by rw [hwl]; exact kn_lt (i := 22) (j := 23) (by decide))).trans h_662
  have hlow : ∀ j, j < k → ws_664[j]? = ws[j]? := fun j z9 => (a_665o j (by rw [hwl]; exact Nat.lt_of_lt_of_le z9 (Nat.le_add_right k _))).trans (hlow j z9)
  have hwl : ws_664.length = k + 24 := a_665l
  refine va_putF (D := D) (cl := xCl) (ci := 7) (v := .ref q_663) (ty := .array .int) (C := rnM) (T := tbM) (N := 39) hx hb hts inM tyM toM nmM hown hK hP hD hS k h_666 rfl 38 (by decide) (hts _ tw_655) (fun _ h9 => h9) rfl hnm rfl (by decide +kernel) rfl rfl (Nat.le_of_ble_eq_true rfl) dM_init_199 (fun H locs hP hD hS => ?_)
  obtain ⟨ws_690, hu_689, hP, hD⟩ := x_gen h_666 hP hD
  have h_691 : ws_690[k]? = some (a, .inr (7, [.int 0, .int 0, .ref q_1, .ref q_9, .ref q_19, .ref q_31, .ref q_45, .ref q_61, .int 0, .int 0, .int 0, .int 0, .int 0, .int 0, .ref q_79, .ref q_99, .ref q_121, .ref q_145, .int 0, .ref q_171, .ref q_199, .ref q_229, .int 0, .ref q_261, .ref q_295, .ref q_331, .ref q_369, .ref q_409, .int 0, .int 0, .int 0, .ref q_451, .ref q_495, .ref q_541, .int 0, .int 0, .int (-1), .ref q_613, .ref q_663])) := hu_689.1
  have h_692 := (hu_689.2 (k + 1) (kn_ne (i := 1) (j := 0) (by decide))).trans h_667
  have h_693 := (hu_689.2 (k + 2) (kn_ne (i := 2) (j := 0) (by decide))).trans h_668
  have h_694 := (hu_689.2 (k + 3) (kn_ne (i := 3) (j := 0) (by decide))).trans h_669
  have h_695 := (hu_689.2 (k + 4) (kn_ne (i := 4) (j := 0) (by decide))).trans h_670
  have h_696 := (hu_689.2 (k + 5) (kn_ne (i := 5) (j := 0) (by decide))).trans h_671
  have h_697 := (hu_689.2 (k + 6) (kn_ne (i := 6) (j := 0) (by decide))).trans h_672
  have h_698 := (hu_689.2 (k + 7) (kn_ne (i := 7) (j := 0) (by decide))).trans h_673
  have h_699 := (hu_689.2 (k + 8) (kn_ne (i := 8) (j := 0) (by decide))).trans h_674
  have h_700 := (hu_689.2 (k + 9) (kn_ne (i := 9) (j := 0) (by decide))).trans h_675
  have h_701 := (hu_689.2 (k + 10) (kn_ne (i := 10) (j := 0) (by decide))).trans h_676
  have h_702 := (hu_689.2 (k + 11) (kn_ne (i := 11) (j := 0) (by decide))).trans h_677
  have h_703 := (hu_689.2 (k + 12) (kn_ne (i := 12) (j := 0) (by decide))).trans h_678
  have h_704 := (hu_689.2 (k + 13) (kn_ne (i := 13) (j := 0) (by decide))).trans h_679
  have h_705 := (hu_689.2 (k + 14) (kn_ne (i := 14) (j := 0) (by decide))).trans h_680
  have h_706 := (hu_689.2 (k + 15) (kn_ne (i := 15) (j := 0) (by decide))).trans h_681
  have h_707 := (hu_689.2 (k + 16) (kn_ne (i := 16) (j := 0) (by decide))).trans h_682
  have h_708 := (hu_689.2 (k + 17) (kn_ne (i := 17) (j := 0) (by decide))).trans h_683
  have h_709 := (hu_689.2 (k + 18) (kn_ne (i := 18) (j := 0) (by decide))).trans h_684
  have h_710 := (hu_689.2 (k + 19) (kn_ne (i := 19) (j := 0) (by decide))).trans h_685
  have h_711 := (hu_689.2 (k + 20) (kn_ne (i := 20) (j := 0) (by decide))).trans h_686
  have h_712 := (hu_689.2 (k + 21) (kn_ne (i := 21) (j := 0) (by decide))).trans h_687
  have h_713 := (hu_689.2 (k + 22) (kn_ne (i := 22) (j := 0) (by decide))).trans h_688
  have h_714 := (hu_689.2 (k + 23) (kn_ne (i := 23) (j := 0) (by decide))).trans a_665n
  have hwl := (x_upd.len h_666 hu_689).trans hwl
  have hlow : ∀ j, j < k → ws_690[j]? = ws[j]? := fun j z9 => (hu_689.2 j (Nat.ne_of_lt (Nat.lt_of_lt_of_le z9 (Nat.le_add_right k 0)))).trans (hlow j z9)
  exact x_vret hx hb hr hlk hK hP hD hS dM_init_202 (by refine ⟨⟨hwl, hlow, _, h_691⟩, fun ad z9 => ?_⟩; have e0 : a = ad k := z9 k _ h_691; have e1 : q_1 = ad (k + 1) := z9 (k + 1) _ h_692; have e2 : q_9 = ad (k + 2) := z9 (k + 2) _ h_693; have e3 : q_19 = ad (k + 3) := z9 (k + 3) _ h_694; have e4 : q_31 = ad (k + 4) := z9 (k + 4) _ h_695; have e5 : q_45 = ad (k + 5) := z9 (k + 5) _ h_696; have e6 : q_61 = ad (k + 6) := z9 (k + 6) _ h_697; have e7 : q_79 = ad (k + 7) := z9 (k + 7) _ h_698; have e8 : q_99 = ad (k + 8) := z9 (k + 8) _ h_699; have e9 : q_121 = ad (k + 9) := z9 (k + 9) _ h_700; have e10 : q_145 = ad (k + 10) := z9 (k + 10) _ h_701; have e11 : q_171 = ad (k + 11) := z9 (k + 11) _ h_702; have e12 : q_199 = ad (k + 12) := z9 (k + 12) _ h_703; have e13 : q_229 = ad (k + 13) := z9 (k + 13) _ h_704; have e14 : q_261 = ad (k + 14) := z9 (k + 14) _ h_705; have e15 : q_295 = ad (k + 15) := z9 (k + 15) _ h_706; have e16 : q_331 = ad (k + 16) := z9 (k + 16) _ h_707; have e17 : q_369 = ad (k + 17) := z9 (k + 17) _ h_708; have e18 : q_409 = ad (k + 18) := z9 (k + 18) _ h_709; have e19 : q_451 = ad (k + 19) := z9 (k + 19) _ h_710; have e20 : q_495 = ad (k + 20) := z9 (k + 20) _ h_711; have e21 : q_541 = ad (k + 21) := z9 (k + 21) _ h_712; have e22 : q_613 = ad (k + 22) := z9 (k + 22) _ h_713; have e23 : q_663 = ad (k + 23) := z9 (k + 23) _ h_714; subst e0; subst e1; subst e2; subst e3; subst e4; subst e5; subst e6; subst e7; subst e8; subst e9; subst e10; subst e11; subst e12; subst e13; subst e14; subst e15; subst e16; subst e17; subst e18; subst e19; subst e20; subst e21; subst e22; subst e23; exact ⟨fun j => if j = 36 then -1 else 0, fun _ _ => 0, ⟨h_691, fun p9 q1 q2 => by match p9, q1, q2 with | 0, h9, _ => exact absurd h9 (by decide) | 1, _, _ => exact h_692 | 2, _, _ => exact h_693 | 3, _, _ => exact h_694 | 4, _, _ => exact h_695 | 5, _, _ => exact h_696 | 6, _, _ => exact h_697 | 7, _, _ => exact h_698 | 8, _, _ => exact h_699 | 9, _, _ => exact h_700 | 10, _, _ => exact h_701 | 11, _, _ => exact h_702 | 12, _, _ => exact h_703 | 13, _, _ => exact h_704 | 14, _, _ => exact h_705 | 15, _, _ => exact h_706 | 16, _, _ => exact h_707 | 17, _, _ => exact h_708 | 18, _, _ => exact h_709 | 19, _, _ => exact h_710 | 20, _, _ => exact h_711 | 21, _, _ => exact h_712 | 22, _, _ => exact h_713 | 23, _, _ => exact h_714 | n + 24, _, h9 => exact absurd h9 (by omega)⟩, MR_0 rfl rfl rfl rfl rfl⟩)

theorem GrRel_nil {F : Nat → Nat → Int32} (h3 : ∀ nm, nm < 60 → F 3 nm = -1) (h5 : F 5 = fun _ => 0) (h6 : F 6 = fun _ => 0) (h7 : F 7 = fun _ => 0) : GrRel ([] : Gr) F := by
  refine ⟨GrOK_nil, fun t h => absurd h (Nat.not_lt_zero _), fun t h => absurd h (Nat.not_lt_zero _), fun nm h => by rw [h3 nm h]; rfl, fun t i _ h => by rw [gD_nil] at h; exact absurd h (Nat.not_lt_zero _), fun t _ => by rw [h5, gD_nil]; rfl, fun t _ i _ => by rw [h6, b_0, gD_nil]; rfl, fun t _ i _ => by rw [h7, b_0, gD_nil]; rfl⟩

set_option maxHeartbeats 4000000 in
set_option maxRecDepth 100000 in
theorem cG_init (l : Launch) (D : va_G) (tys : List (ClassId × FieldType)) (A : Nat → Prop) (ws : va_W) (cI : ClassId) (hI : tys[0]? = some (cI, .int)) (k a : Nat) (hk0 : ws[k]? = some (a, .inr (0, [.null, .null, .null, .null, .null, .null, .null, .null, .int 0]))) (hwl : ws.length = k + 1) : x_Mv l yG_init wG_init ({ frames := 1, cells := 8, slots := 480, locals := 120 }) D xCl tys A [.ref a] ws (fun ws1 => x_gr k 8 a ws ws1 ∧ ∀ ad, x_ad ad ws1 → GraphAt cI ad ws1 k []) := by
  have hlow : ∀ j, j < k → ws[j]? = ws[j]? := fun _ _ => rfl
  refine x_enter (by decide) rfl (Nat.le_of_ble_eq_true rfl) (fun p e s m args below meth c ls hx hb hr hlk hml hown hnm hts hK hP hD hS hA hN hl => ?_)
  have hl : lv_has ls 2 [(0, .ref a)] := hl
  have loop_76 : ∀ (fu9 : Nat) (q1 : Nat) (q2 : Nat) (q3 : Nat) (q4 : Nat) (q5 : Nat) (q6 : Nat) (q7 : Nat) (q8 : Nat) (i : Nat) (f3 : Nat → Int32) (hi : i ≤ 60) (ws1 : va_W) (H : Heap) (locs : List Loc) (ls : Array Slot), ws1.length = k + 9 → (∀ j, j < k → ws1[j]? = ws[j]?) → ws1[k]? = some (a, .inr (0, [.ref q1, .ref q2, .ref q3, .ref q4, .ref q5, .ref q6, .ref q7, .ref q8, .int 0])) → ws1[k + 1]? = some (q1, .inl (cI, 30, .inl (fun _ => 0))) → ws1[k + 2]? = some (q2, .inl (cI, 30, .inl (fun _ => 0))) → ws1[k + 3]? = some (q3, .inl (cI, 60, .inl f3)) → ws1[k + 4]? = some (q4, .inl (cI, 240, .inl (fun _ => 0))) → ws1[k + 5]? = some (q5, .inl (cI, 30, .inl (fun _ => 0))) → ws1[k + 6]? = some (q6, .inl (cI, 30, .inl (fun _ => 0))) → ws1[k + 7]? = some (q7, .inl (cI, 30, .inl (fun _ => 0))) → ws1[k + 8]? = some (q8, .inl (cI, 30, .inl (fun _ => 0))) → (∀ j, j < i → f3 j = -1) → 60 - i < fu9 → va_P D xCl ws1 H → va_D A ws1 → va_S A s.heap H locs → lv_has ls 2 [(0, .ref a), (1, .int (nI i))] → W p l e ({ frames := 1, cells := 8, slots := 480, locals := 120 }) s m args below meth c H locs 8 480 (MQ below (va_Qv (fun ws1 => x_gr k 8 a ws ws1 ∧ ∀ ad, x_ad ad ws1 → GraphAt cI ad ws1 k []) (x_B D xCl tys A) A) args s 8 480 A) (F0 m 76 ls []) := by
    intro fu9
    induction fu9 with
    | zero => intro q1 q2 q3 q4 q5 q6 q7 q8 i f3 hi ws1 H locs ls hwl hlow hc0 hc1 hc2 hc3 hc4 hc5 hc6 hc7 hc8 hf3 hme; exact absurd hme (Nat.not_lt_zero _)
    | succ fu9 ih =>
      intro q1 q2 q3 q4 q5 q6 q7 q8 i f3 hi ws1 H locs ls hwl hlow hc0 hc1 hc2 hc3 hc4 hc5 hc6 hc7 hc8 hf3 hme hP hD hS hl
      refine lv_iload_n hx hb dG_init_76 rfl (lv_at hl 1 rfl) ?_
      refine lv_aload_n hx hb dG_init_77 rfl (lv_at hl 0 rfl) ?_
      refine va_get (D := D) (cl := xCl) (ci := 0) (v := .ref q3) (C := rnG) (T := tbG) (N := 9) hx hb hts inG hown hK hP k hc0 rfl 2 (by decide) (hts _ tw_31) (fun _ h9 => h9) rfl dG_init_78 ?_
      refine va_alen (v := 60) hx hb hK hP (k + 3) 0 hc3 hI (by rfl) dG_init_81 ?_
      refine lv_icmp_ge (tgt := 98) hx hb dG_init_82 (by decide) (fun c82 => ?_) (fun c82 => ?_)
      · exact x_vret hx hb hr hlk hK hP hD hS dG_init_98 (by refine ⟨⟨hwl, hlow, _, hc0⟩, fun ad z9 => ?_⟩; have e0 : a = ad k := z9 k _ hc0; have e1 : q1 = ad (k + 1) := z9 (k + 1) _ hc1; have e2 : q2 = ad (k + 2) := z9 (k + 2) _ hc2; have e3 : q3 = ad (k + 3) := z9 (k + 3) _ hc3; have e4 : q4 = ad (k + 4) := z9 (k + 4) _ hc4; have e5 : q5 = ad (k + 5) := z9 (k + 5) _ hc5; have e6 : q6 = ad (k + 6) := z9 (k + 6) _ hc6; have e7 : q7 = ad (k + 7) := z9 (k + 7) _ hc7; have e8 : q8 = ad (k + 8) := z9 (k + 8) _ hc8; subst e0; subst e1; subst e2; subst e3; subst e4; subst e5; subst e6; subst e7; subst e8; exact ⟨fun p => if p = 3 then f3 else fun _ => 0, ⟨hc0, hc1, hc2, hc3, hc4, hc5, hc6, hc7, hc8⟩, GrRel_nil (fun nm hn => hf3 nm (by have c82 : nI 60 ≤ nI i := c82; rw [nI_leI (by omega) (by omega)] at c82; omega)) rfl rfl rfl⟩)
      · have hi2 : i < 60 := by have c82 : ¬ nI 60 ≤ nI i := c82; rw [nI_leI (by omega) (by omega)] at c82; omega
        refine lv_aload_n hx hb dG_init_85 rfl (lv_at hl 0 rfl) ?_
        refine va_get (D := D) (cl := xCl) (ci := 0) (v := .ref q3) (C := rnG) (T := tbG) (N := 9) hx hb hts inG hown hK hP k hc0 rfl 2 (by decide) (hts _ tw_31) (fun _ h9 => h9) rfl dG_init_86 ?_
        refine lv_iload_n hx hb dG_init_89 rfl (lv_at hl 1 rfl) ?_
        refine lv_iconst (v := (-1)) hx hb dG_init_90 (by decide) ?_
        refine va_iast hx hb hK hP hD hS (k + 3) 0 hc3 hI (vp_in_nI (by omega) (by omega)) dG_init_91 (fun H locs hP hD hS => ?_)
        obtain ⟨ws_2, hu_1, hP, hD⟩ := x_gen hc3 hP hD
        have h_3 : ws_2[k + 3]? = some (q3, .inl (cI, 60, .inl (upd f3 ((nI i)).toNatClampNeg ((-1))))) := hu_1.1
        have h_4 := (hu_1.2 k (kn_ne (i := 0) (j := 3) (by decide))).trans hc0
        have h_5 := (hu_1.2 (k + 1) (kn_ne (i := 1) (j := 3) (by decide))).trans hc1
        have h_6 := (hu_1.2 (k + 2) (kn_ne (i := 2) (j := 3) (by decide))).trans hc2
        have h_7 := (hu_1.2 (k + 4) (kn_ne (i := 4) (j := 3) (by decide))).trans hc4
        have h_8 := (hu_1.2 (k + 5) (kn_ne (i := 5) (j := 3) (by decide))).trans hc5
        have h_9 := (hu_1.2 (k + 6) (kn_ne (i := 6) (j := 3) (by decide))).trans hc6
        have h_10 := (hu_1.2 (k + 7) (kn_ne (i := 7) (j := 3) (by decide))).trans hc7
        have h_11 := (hu_1.2 (k + 8) (kn_ne (i := 8) (j := 3) (by decide))).trans hc8
        have hwl := (x_upd.len hc3 hu_1).trans hwl
        have hlow : ∀ j, j < k → ws_2[j]? = ws[j]? := fun j z9 => (hu_1.2 j (Nat.ne_of_lt (Nat.lt_of_lt_of_le z9 (Nat.le_add_right k 3)))).trans (hlow j z9)
        refine lv_iinc (v := (nI (i + 1))) (lv' := [(1, .int (nI (i + 1))), (0, .ref a)]) hx hb dG_init_92 hl (k := 1) rfl (nI_1 _) (by decide) rfl (fun ls hl => ?_)
        refine lv_goto (tgt := 76) hx hb dG_init_95 (by decide) ?_
        exact ih q1 q2 q3 q4 q5 q6 q7 q8 (i + 1) _ (by omega) ws_2 _ _ _ hwl hlow h_4 h_5 h_6 h_3 h_7 h_8 h_9 h_10 h_11 (fun j z9 => by show upd f3 (nI i).toNatClampNeg (-1) j = _; rw [nI_clamp (by omega)]; by_cases z8 : j = i; (rw [z8, upd_s9]); (rw [upd_o z8]; exact hf3 j (by omega))) (by omega) hP hD hS (lv_sub hl [1, 0] rfl)
  refine lv_aload_n hx hb dG_init_0 rfl (lv_at hl 0 rfl) ?_
  refine W.objInit hx hb hown (hts _ tw_28) (hts _ tw_21) (hts _ tw_22) rfl (by rw [hml]; exact hl.1) rfl dG_init_1 (Nat.le_of_ble_eq_true rfl) (Nat.le_of_ble_eq_true rfl) ?_
  refine W.eq (g2 := F0 m 4 ls []) rfl ?_
  refine lv_aload_n hx hb dG_init_4 rfl (lv_at hl 0 rfl) ?_
  refine lv_bipush (v := 30) hx hb dG_init_5 (by decide) ?_
  refine va_newa (atype := .int) (ty := .int) (a0 := (30, .inl (fun _ => 0))) hx hb (hts _ tw_57) rfl hK hP hD hS hA (fun _ => rfl) (by decide) (by decide) (by decide) (by decide) (by decide) dG_init_7 (fun q_12 cA9 H hK9 hP hD hS => ?_)
  rw [x_ci hI hK hK9] at hP hD
  obtain ⟨ws_13, a_14l, a_14o, a_14n, hP, hD⟩ := x_app hP hD
  rw [hwl] at a_14l a_14n
  have h_15 := (a_14o k (by rw [hwl]; exact kn_lt (i := 0) (j := 1) (by decide))).trans hk0
  have hlow : ∀ j, j < k → ws_13[j]? = ws[j]? := fun j z9 => (a_14o j (by rw [hwl]; exact Nat.lt_of_lt_of_le z9 (Nat.le_add_right k _))).trans (hlow j z9)
  have hwl : ws_13.length = k + 2 := a_14l
  refine va_putF (D := D) (cl := xCl) (ci := 0) (v := .ref q_12) (ty := .array .int) (C := rnG) (T := tbG) (N := 9) hx hb hts inG tyG toG nmG hown hK hP hD hS k h_15 rfl 0 (by decide) (hts _ tw_29) (fun _ h9 => h9) rfl hnm rfl (by decide +kernel) rfl rfl (Nat.le_of_ble_eq_true rfl) dG_init_9 (fun H locs hP hD hS => ?_)
  obtain ⟨ws_17, hu_16, hP, hD⟩ := x_gen h_15 hP hD
  have h_18 : ws_17[k]? = some (a, .inr (0, [.ref q_12, .null, .null, .null, .null, .null, .null, .null, .int 0])) := hu_16.1
  have h_19 := (hu_16.2 (k + 1) (kn_ne (i := 1) (j := 0) (by decide))).trans a_14n
  have hwl := (x_upd.len h_15 hu_16).trans hwl
  have hlow : ∀ j, j < k → ws_17[j]? = ws[j]? := fun j z9 => (hu_16.2 j (Nat.ne_of_lt (Nat.lt_of_lt_of_le z9 (Nat.le_add_right k 0)))).trans (hlow j z9)
  refine lv_aload_n hx hb dG_init_12 rfl (lv_at hl 0 rfl) ?_
  refine lv_bipush (v := 30) hx hb dG_init_13 (by decide) ?_
  refine va_newa (atype := .int) (ty := .int) (a0 := (30, .inl (fun _ => 0))) hx hb (hts _ tw_57) rfl hK hP hD hS hA (fun _ => rfl) (by decide) (by decide) (by decide) (by decide) (by decide) dG_init_15 (fun q_20 cA9 H hK9 hP hD hS => ?_)
  rw [x_ci hI hK hK9] at hP hD
  obtain ⟨ws_21, a_22l, a_22o, a_22n, hP, hD⟩ := x_app hP hD
  rw [hwl] at a_22l a_22n
  have h_23 := (a_22o k (by rw [hwl]; exact kn_lt (i := 0) (j := 2) (by decide))).trans h_18
  have h_24 := (a_22o (k + 1) (by rw [hwl]; exact kn_lt (i := 1) (j := 2) (by decide))).trans h_19
  have hlow : ∀ j, j < k → ws_21[j]? = ws[j]? := fun j z9 => (a_22o j (by rw [hwl]; exact Nat.lt_of_lt_of_le z9 (Nat.le_add_right k _))).trans (hlow j z9)
  have hwl : ws_21.length = k + 3 := a_22l
  refine va_putF (D := D) (cl := xCl) (ci := 0) (v := .ref q_20) (ty := .array .int) (C := rnG) (T := tbG) (N := 9) hx hb hts inG tyG toG nmG hown hK hP hD hS k h_23 rfl 1 (by decide) (hts _ tw_30) (fun _ h9 => h9) rfl hnm rfl (by decide +kernel) rfl rfl (Nat.le_of_ble_eq_true rfl) dG_init_17 (fun H locs hP hD hS => ?_)
  obtain ⟨ws_26, hu_25, hP, hD⟩ := x_gen h_23 hP hD
  have h_27 : ws_26[k]? = some (a, .inr (0, [.ref q_12, .ref q_20, .null, .null, .null, .null, .null, .null, .int 0])) := hu_25.1
  have h_28 := (hu_25.2 (k + 1) (kn_ne (i := 1) (j := 0) (by decide))).trans h_24
  have h_29 := (hu_25.2 (k + 2) (kn_ne (i := 2) (j := 0) (by decide))).trans a_22n
  have hwl := (x_upd.len h_23 hu_25).trans hwl
  have hlow : ∀ j, j < k → ws_26[j]? = ws[j]? := fun j z9 => (hu_25.2 j (Nat.ne_of_lt (Nat.lt_of_lt_of_le z9 (Nat.le_add_right k 0)))).trans (hlow j z9)
  refine lv_aload_n hx hb dG_init_20 rfl (lv_at hl 0 rfl) ?_
  refine lv_bipush (v := 60) hx hb dG_init_21 (by decide) ?_
  refine va_newa (atype := .int) (ty := .int) (a0 := (60, .inl (fun _ => 0))) hx hb (hts _ tw_57) rfl hK hP hD hS hA (fun _ => rfl) (by decide) (by decide) (by decide) (by decide) (by decide) dG_init_23 (fun q_30 cA9 H hK9 hP hD hS => ?_)
  rw [x_ci hI hK hK9] at hP hD
  obtain ⟨ws_31, a_32l, a_32o, a_32n, hP, hD⟩ := x_app hP hD
  rw [hwl] at a_32l a_32n
  have h_33 := (a_32o k (by rw [hwl]; exact kn_lt (i := 0) (j := 3) (by decide))).trans h_27
  have h_34 := (a_32o (k + 1) (by rw [hwl]; exact kn_lt (i := 1) (j := 3) (by decide))).trans h_28
  have h_35 := (a_32o (k + 2) (by rw [hwl]; exact kn_lt (i := 2) (j := 3) (by decide))).trans h_29
  have hlow : ∀ j, j < k → ws_31[j]? = ws[j]? := fun j z9 => (a_32o j (by rw [hwl]; exact Nat.lt_of_lt_of_le z9 (Nat.le_add_right k _))).trans (hlow j z9)
  have hwl : ws_31.length = k + 4 := a_32l
  refine va_putF (D := D) (cl := xCl) (ci := 0) (v := .ref q_30) (ty := .array .int) (C := rnG) (T := tbG) (N := 9) hx hb hts inG tyG toG nmG hown hK hP hD hS k h_33 rfl 2 (by decide) (hts _ tw_31) (fun _ h9 => h9) rfl hnm rfl (by decide +kernel) rfl rfl (Nat.le_of_ble_eq_true rfl) dG_init_25 (fun H locs hP hD hS => ?_)
  obtain ⟨ws_37, hu_36, hP, hD⟩ := x_gen h_33 hP hD
  have h_38 : ws_37[k]? = some (a, .inr (0, [.ref q_12, .ref q_20, .ref q_30, .null, .null, .null, .null, .null, .int 0])) := hu_36.1
  have h_39 := (hu_36.2 (k + 1) (kn_ne (i := 1) (j := 0) (by decide))).trans h_34
  have h_40 := (hu_36.2 (k + 2) (kn_ne (i := 2) (j := 0) (by decide))).trans h_35
  have h_41 := (hu_36.2 (k + 3) (kn_ne (i := 3) (j := 0) (by decide))).trans a_32n
  have hwl := (x_upd.len h_33 hu_36).trans hwl
  have hlow : ∀ j, j < k → ws_37[j]? = ws[j]? := fun j z9 => (hu_36.2 j (Nat.ne_of_lt (Nat.lt_of_lt_of_le z9 (Nat.le_add_right k 0)))).trans (hlow j z9)
  refine lv_aload_n hx hb dG_init_28 rfl (lv_at hl 0 rfl) ?_
  refine lv_sipush (v := 240) hx hb dG_init_29 (by decide) ?_
  refine va_newa (atype := .int) (ty := .int) (a0 := (240, .inl (fun _ => 0))) hx hb (hts _ tw_57) rfl hK hP hD hS hA (fun _ => rfl) (by decide) (by decide) (by decide) (by decide) (by decide) dG_init_32 (fun q_42 cA9 H hK9 hP hD hS => ?_)
  rw [x_ci hI hK hK9] at hP hD
  obtain ⟨ws_43, a_44l, a_44o, a_44n, hP, hD⟩ := x_app hP hD
  rw [hwl] at a_44l a_44n
  have h_45 := (a_44o k (by rw [hwl]; exact kn_lt (i := 0) (j := 4) (by decide))).trans h_38
  have h_46 := (a_44o (k + 1) (by rw [hwl]; exact kn_lt (i := 1) (j := 4) (by decide))).trans h_39
  have h_47 := (a_44o (k + 2) (by rw [hwl]; exact kn_lt (i := 2) (j := 4) (by decide))).trans h_40
  have h_48 := (a_44o (k + 3) (by rw [hwl]; exact kn_lt (i := 3) (j := 4) (by decide))).trans h_41
  have hlow : ∀ j, j < k → ws_43[j]? = ws[j]? := fun j z9 => (a_44o j (by rw [hwl]; exact Nat.lt_of_lt_of_le z9 (Nat.le_add_right k _))).trans (hlow j z9)
  have hwl : ws_43.length = k + 5 := a_44l
  refine va_putF (D := D) (cl := xCl) (ci := 0) (v := .ref q_42) (ty := .array .int) (C := rnG) (T := tbG) (N := 9) hx hb hts inG tyG toG nmG hown hK hP hD hS k h_45 rfl 3 (by decide) (hts _ tw_32) (fun _ h9 => h9) rfl hnm rfl (by decide +kernel) rfl rfl (Nat.le_of_ble_eq_true rfl) dG_init_34 (fun H locs hP hD hS => ?_)
  obtain ⟨ws_50, hu_49, hP, hD⟩ := x_gen h_45 hP hD
  have h_51 : ws_50[k]? = some (a, .inr (0, [.ref q_12, .ref q_20, .ref q_30, .ref q_42, .null, .null, .null, .null, .int 0])) := hu_49.1
  have h_52 := (hu_49.2 (k + 1) (kn_ne (i := 1) (j := 0) (by decide))).trans h_46
  have h_53 := (hu_49.2 (k + 2) (kn_ne (i := 2) (j := 0) (by decide))).trans h_47
  have h_54 := (hu_49.2 (k + 3) (kn_ne (i := 3) (j := 0) (by decide))).trans h_48
  have h_55 := (hu_49.2 (k + 4) (kn_ne (i := 4) (j := 0) (by decide))).trans a_44n
  have hwl := (x_upd.len h_45 hu_49).trans hwl
  have hlow : ∀ j, j < k → ws_50[j]? = ws[j]? := fun j z9 => (hu_49.2 j (Nat.ne_of_lt (Nat.lt_of_lt_of_le z9 (Nat.le_add_right k 0)))).trans (hlow j z9)
  refine lv_aload_n hx hb dG_init_37 rfl (lv_at hl 0 rfl) ?_
  refine lv_bipush (v := 30) hx hb dG_init_38 (by decide) ?_
  refine va_newa (atype := .int) (ty := .int) (a0 := (30, .inl (fun _ => 0))) hx hb (hts _ tw_57) rfl hK hP hD hS hA (fun _ => rfl) (by decide) (by decide) (by decide) (by decide) (by decide) dG_init_40 (fun q_56 cA9 H hK9 hP hD hS => ?_)
  rw [x_ci hI hK hK9] at hP hD
  obtain ⟨ws_57, a_58l, a_58o, a_58n, hP, hD⟩ := x_app hP hD
  rw [hwl] at a_58l a_58n
  have h_59 := (a_58o k (by rw [hwl]; exact kn_lt (i := 0) (j := 5) (by decide))).trans h_51
  have h_60 := (a_58o (k + 1) (by rw [hwl]; exact kn_lt (i := 1) (j := 5) (by decide))).trans h_52
  have h_61 := (a_58o (k + 2) (by rw [hwl]; exact kn_lt (i := 2) (j := 5) (by decide))).trans h_53
  have h_62 := (a_58o (k + 3) (by rw [hwl]; exact kn_lt (i := 3) (j := 5) (by decide))).trans h_54
  have h_63 := (a_58o (k + 4) (by rw [hwl]; exact kn_lt (i := 4) (j := 5) (by decide))).trans h_55
  have hlow : ∀ j, j < k → ws_57[j]? = ws[j]? := fun j z9 => (a_58o j (by rw [hwl]; exact Nat.lt_of_lt_of_le z9 (Nat.le_add_right k _))).trans (hlow j z9)
  have hwl : ws_57.length = k + 6 := a_58l
  refine va_putF (D := D) (cl := xCl) (ci := 0) (v := .ref q_56) (ty := .array .int) (C := rnG) (T := tbG) (N := 9) hx hb hts inG tyG toG nmG hown hK hP hD hS k h_59 rfl 4 (by decide) (hts _ tw_33) (fun _ h9 => h9) rfl hnm rfl (by decide +kernel) rfl rfl (Nat.le_of_ble_eq_true rfl) dG_init_42 (fun H locs hP hD hS => ?_)
  obtain ⟨ws_65, hu_64, hP, hD⟩ := x_gen h_59 hP hD
  have h_66 : ws_65[k]? = some (a, .inr (0, [.ref q_12, .ref q_20, .ref q_30, .ref q_42, .ref q_56, .null, .null, .null, .int 0])) := hu_64.1
  have h_67 := (hu_64.2 (k + 1) (kn_ne (i := 1) (j := 0) (by decide))).trans h_60
  have h_68 := (hu_64.2 (k + 2) (kn_ne (i := 2) (j := 0) (by decide))).trans h_61
  have h_69 := (hu_64.2 (k + 3) (kn_ne (i := 3) (j := 0) (by decide))).trans h_62
  have h_70 := (hu_64.2 (k + 4) (kn_ne (i := 4) (j := 0) (by decide))).trans h_63
  have h_71 := (hu_64.2 (k + 5) (kn_ne (i := 5) (j := 0) (by decide))).trans a_58n
  have hwl := (x_upd.len h_59 hu_64).trans hwl
  have hlow : ∀ j, j < k → ws_65[j]? = ws[j]? := fun j z9 => (hu_64.2 j (Nat.ne_of_lt (Nat.lt_of_lt_of_le z9 (Nat.le_add_right k 0)))).trans (hlow j z9)
  refine lv_aload_n hx hb dG_init_45 rfl (lv_at hl 0 rfl) ?_
  refine lv_bipush (v := 30) hx hb dG_init_46 (by decide) ?_
  refine va_newa (atype := .int) (ty := .int) (a0 := (30, .inl (fun _ => 0))) hx hb (hts _ tw_57) rfl hK hP hD hS hA (fun _ => rfl) (by decide) (by decide) (by decide) (by decide) (by decide) dG_init_48 (fun q_72 cA9 H hK9 hP hD hS => ?_)
  rw [x_ci hI hK hK9] at hP hD
  obtain ⟨ws_73, a_74l, a_74o, a_74n, hP, hD⟩ := x_app hP hD
  rw [hwl] at a_74l a_74n
  have h_75 := (a_74o k (by rw [hwl]; exact kn_lt (i := 0) (j := 6) (by decide))).trans h_66
  have h_76 := (a_74o (k + 1) (by rw [hwl]; exact kn_lt (i := 1) (j := 6) (by decide))).trans h_67
  have h_77 := (a_74o (k + 2) (by rw [hwl]; exact kn_lt (i := 2) (j := 6) (by decide))).trans h_68
  have h_78 := (a_74o (k + 3) (by rw [hwl]; exact kn_lt (i := 3) (j := 6) (by decide))).trans h_69
  have h_79 := (a_74o (k + 4) (by rw [hwl]; exact kn_lt (i := 4) (j := 6) (by decide))).trans h_70
  have h_80 := (a_74o (k + 5) (by rw [hwl]; exact kn_lt (i := 5) (j := 6) (by decide))).trans h_71
  have hlow : ∀ j, j < k → ws_73[j]? = ws[j]? := fun j z9 => (a_74o j (by rw [hwl]; exact Nat.lt_of_lt_of_le z9 (Nat.le_add_right k _))).trans (hlow j z9)
  have hwl : ws_73.length = k + 7 := a_74l
  refine va_putF (D := D) (cl := xCl) (ci := 0) (v := .ref q_72) (ty := .array .int) (C := rnG) (T := tbG) (N := 9) hx hb hts inG tyG toG nmG hown hK hP hD hS k h_75 rfl 5 (by decide) (hts _ tw_34) (fun _ h9 => h9) rfl hnm rfl (by decide +kernel) rfl rfl (Nat.le_of_ble_eq_true rfl) dG_init_50 (fun H locs hP hD hS => ?_)
  obtain ⟨ws_82, hu_81, hP, hD⟩ := x_gen h_75 hP hD
  have h_83 : ws_82[k]? = some (a, .inr (0, [.ref q_12, .ref q_20, .ref q_30, .ref q_42, .ref q_56, .ref q_72, .null, .null, .int 0])) := hu_81.1
  have h_84 := (hu_81.2 (k + 1) (kn_ne (i := 1) (j := 0) (by decide))).trans h_76
  have h_85 := (hu_81.2 (k + 2) (kn_ne (i := 2) (j := 0) (by decide))).trans h_77
  have h_86 := (hu_81.2 (k + 3) (kn_ne (i := 3) (j := 0) (by decide))).trans h_78
  have h_87 := (hu_81.2 (k + 4) (kn_ne (i := 4) (j := 0) (by decide))).trans h_79
  have h_88 := (hu_81.2 (k + 5) (kn_ne (i := 5) (j := 0) (by decide))).trans h_80
  have h_89 := (hu_81.2 (k + 6) (kn_ne (i := 6) (j := 0) (by decide))).trans a_74n
  have hwl := (x_upd.len h_75 hu_81).trans hwl
  have hlow : ∀ j, j < k → ws_82[j]? = ws[j]? := fun j z9 => (hu_81.2 j (Nat.ne_of_lt (Nat.lt_of_lt_of_le z9 (Nat.le_add_right k 0)))).trans (hlow j z9)
  refine lv_aload_n hx hb dG_init_53 rfl (lv_at hl 0 rfl) ?_
  refine lv_bipush (v := 30) hx hb dG_init_54 (by decide) ?_
  refine va_newa (atype := .int) (ty := .int) (a0 := (30, .inl (fun _ => 0))) hx hb (hts _ tw_57) rfl hK hP hD hS hA (fun _ => rfl) (by decide) (by decide) (by decide) (by decide) (by decide) dG_init_56 (fun q_90 cA9 H hK9 hP hD hS => ?_)
  rw [x_ci hI hK hK9] at hP hD
  obtain ⟨ws_91, a_92l, a_92o, a_92n, hP, hD⟩ := x_app hP hD
  rw [hwl] at a_92l a_92n
  have h_93 := (a_92o k (by rw [hwl]; exact kn_lt (i := 0) (j := 7) (by decide))).trans h_83
  have h_94 := (a_92o (k + 1) (by rw [hwl]; exact kn_lt (i := 1) (j := 7) (by decide))).trans h_84
  have h_95 := (a_92o (k + 2) (by rw [hwl]; exact kn_lt (i := 2) (j := 7) (by decide))).trans h_85
  have h_96 := (a_92o (k + 3) (by rw [hwl]; exact kn_lt (i := 3) (j := 7) (by decide))).trans h_86
  have h_97 := (a_92o (k + 4) (by rw [hwl]; exact kn_lt (i := 4) (j := 7) (by decide))).trans h_87
  have h_98 := (a_92o (k + 5) (by rw [hwl]; exact kn_lt (i := 5) (j := 7) (by decide))).trans h_88
  have h_99 := (a_92o (k + 6) (by rw [hwl]; exact kn_lt (i := 6) (j := 7) (by decide))).trans h_89
  have hlow : ∀ j, j < k → ws_91[j]? = ws[j]? := fun j z9 => (a_92o j (by rw [hwl]; exact Nat.lt_of_lt_of_le z9 (Nat.le_add_right k _))).trans (hlow j z9)
  have hwl : ws_91.length = k + 8 := a_92l
  refine va_putF (D := D) (cl := xCl) (ci := 0) (v := .ref q_90) (ty := .array .int) (C := rnG) (T := tbG) (N := 9) hx hb hts inG tyG toG nmG hown hK hP hD hS k h_93 rfl 6 (by decide) (hts _ tw_35) (fun _ h9 => h9) rfl hnm rfl (by decide +kernel) rfl rfl (Nat.le_of_ble_eq_true rfl) dG_init_58 (fun H locs hP hD hS => ?_)
  obtain ⟨ws_101, hu_100, hP, hD⟩ := x_gen h_93 hP hD
  have h_102 : ws_101[k]? = some (a, .inr (0, [.ref q_12, .ref q_20, .ref q_30, .ref q_42, .ref q_56, .ref q_72, .ref q_90, .null, .int 0])) := hu_100.1
  have h_103 := (hu_100.2 (k + 1) (kn_ne (i := 1) (j := 0) (by decide))).trans h_94
  have h_104 := (hu_100.2 (k + 2) (kn_ne (i := 2) (j := 0) (by decide))).trans h_95
  have h_105 := (hu_100.2 (k + 3) (kn_ne (i := 3) (j := 0) (by decide))).trans h_96
  have h_106 := (hu_100.2 (k + 4) (kn_ne (i := 4) (j := 0) (by decide))).trans h_97
  have h_107 := (hu_100.2 (k + 5) (kn_ne (i := 5) (j := 0) (by decide))).trans h_98
  have h_108 := (hu_100.2 (k + 6) (kn_ne (i := 6) (j := 0) (by decide))).trans h_99
  have h_109 := (hu_100.2 (k + 7) (kn_ne (i := 7) (j := 0) (by decide))).trans a_92n
  have hwl := (x_upd.len h_93 hu_100).trans hwl
  have hlow : ∀ j, j < k → ws_101[j]? = ws[j]? := fun j z9 => (hu_100.2 j (Nat.ne_of_lt (Nat.lt_of_lt_of_le z9 (Nat.le_add_right k 0)))).trans (hlow j z9)
  refine lv_aload_n hx hb dG_init_61 rfl (lv_at hl 0 rfl) ?_
  refine lv_bipush (v := 30) hx hb dG_init_62 (by decide) ?_
  refine va_newa (atype := .int) (ty := .int) (a0 := (30, .inl (fun _ => 0))) hx hb (hts _ tw_57) rfl hK hP hD hS hA (fun _ => rfl) (by decide) (by decide) (by decide) (by decide) (by decide) dG_init_64 (fun q_110 cA9 H hK9 hP hD hS => ?_)
  rw [x_ci hI hK hK9] at hP hD
  obtain ⟨ws_111, a_112l, a_112o, a_112n, hP, hD⟩ := x_app hP hD
  rw [hwl] at a_112l a_112n
  have h_113 := (a_112o k (by rw [hwl]; exact kn_lt (i := 0) (j := 8) (by decide))).trans h_102
  have h_114 := (a_112o (k + 1) (by rw [hwl]; exact kn_lt (i := 1) (j := 8) (by decide))).trans h_103
  have h_115 := (a_112o (k + 2) (by rw [hwl]; exact kn_lt (i := 2) (j := 8) (by decide))).trans h_104
  have h_116 := (a_112o (k + 3) (by rw [hwl]; exact kn_lt (i := 3) (j := 8) (by decide))).trans h_105
  have h_117 := (a_112o (k + 4) (by rw [hwl]; exact kn_lt (i := 4) (j := 8) (by decide))).trans h_106
  have h_118 := (a_112o (k + 5) (by rw [hwl]; exact kn_lt (i := 5) (j := 8) (by decide))).trans h_107
  have h_119 := (a_112o (k + 6) (by rw [hwl]; exact kn_lt (i := 6) (j := 8) (by decide))).trans h_108
  have h_120 := (a_112o (k + 7) (by rw [hwl]; exact kn_lt (i := 7) (j := 8) (by decide))).trans h_109
  have hlow : ∀ j, j < k → ws_111[j]? = ws[j]? := fun j z9 => (a_112o j (by rw [hwl]; exact Nat.lt_of_lt_of_le z9 (Nat.le_add_right k _))).trans (hlow j z9)
  have hwl : ws_111.length = k + 9 := a_112l
  refine va_putF (D := D) (cl := xCl) (ci := 0) (v := .ref q_110) (ty := .array .int) (C := rnG) (T := tbG) (N := 9) hx hb hts inG tyG toG nmG hown hK hP hD hS k h_113 rfl 7 (by decide) (hts _ tw_36) (fun _ h9 => h9) rfl hnm rfl (by decide +kernel) rfl rfl (Nat.le_of_ble_eq_true rfl) dG_init_66 (fun H locs hP hD hS => ?_)
  obtain ⟨ws_122, hu_121, hP, hD⟩ := x_gen h_113 hP hD
  have h_123 : ws_122[k]? = some (a, .inr (0, [.ref q_12, .ref q_20, .ref q_30, .ref q_42, .ref q_56, .ref q_72, .ref q_90, .ref q_110, .int 0])) := hu_121.1
  have h_124 := (hu_121.2 (k + 1) (kn_ne (i := 1) (j := 0) (by decide))).trans h_114
  have h_125 := (hu_121.2 (k + 2) (kn_ne (i := 2) (j := 0) (by decide))).trans h_115
  have h_126 := (hu_121.2 (k + 3) (kn_ne (i := 3) (j := 0) (by decide))).trans h_116
  have h_127 := (hu_121.2 (k + 4) (kn_ne (i := 4) (j := 0) (by decide))).trans h_117
  have h_128 := (hu_121.2 (k + 5) (kn_ne (i := 5) (j := 0) (by decide))).trans h_118
  have h_129 := (hu_121.2 (k + 6) (kn_ne (i := 6) (j := 0) (by decide))).trans h_119
  have h_130 := (hu_121.2 (k + 7) (kn_ne (i := 7) (j := 0) (by decide))).trans h_120
  have h_131 := (hu_121.2 (k + 8) (kn_ne (i := 8) (j := 0) (by decide))).trans a_112n
  have hwl := (x_upd.len h_113 hu_121).trans hwl
  have hlow : ∀ j, j < k → ws_122[j]? = ws[j]? := fun j z9 => (hu_121.2 j (Nat.ne_of_lt (Nat.lt_of_lt_of_le z9 (Nat.le_add_right k 0)))).trans (hlow j z9)
  refine lv_aload_n hx hb dG_init_69 rfl (lv_at hl 0 rfl) ?_
  refine lv_iconst (v := 0) hx hb dG_init_70 (by decide) ?_
  refine va_put (D := D) (cl := xCl) (ci := 0) (v := .int 0) (ty := .int) (C := rnG) (T := tbG) (N := 9) hx hb hts inG tyG toG nmG hown hK hP hD hS k h_123 rfl 8 (by decide) (hts _ tw_37) (fun _ h9 => h9) rfl (by decide +kernel) rfl rfl (Nat.le_of_ble_eq_true rfl) dG_init_71 (fun H locs hP hD hS => ?_)
  obtain ⟨ws_133, hu_132, hP, hD⟩ := x_gen h_123 hP hD
  have h_134 : ws_133[k]? = some (a, .inr (0, [.ref q_12, .ref q_20, .ref q_30, .ref q_42, .ref q_56, .ref q_72, .ref q_90, .ref q_110, .int 0])) := hu_132.1
  have h_135 := (hu_132.2 (k + 1) (kn_ne (i := 1) (j := 0) (by decide))).trans h_124
  have h_136 := (hu_132.2 (k + 2) (kn_ne (i := 2) (j := 0) (by decide))).trans h_125
  have h_137 := (hu_132.2 (k + 3) (kn_ne (i := 3) (j := 0) (by decide))).trans h_126
  have h_138 := (hu_132.2 (k + 4) (kn_ne (i := 4) (j := 0) (by decide))).trans h_127
  have h_139 := (hu_132.2 (k + 5) (kn_ne (i := 5) (j := 0) (by decide))).trans h_128
  have h_140 := (hu_132.2 (k + 6) (kn_ne (i := 6) (j := 0) (by decide))).trans h_129
  have h_141 := (hu_132.2 (k + 7) (kn_ne (i := 7) (j := 0) (by decide))).trans h_130
  have h_142 := (hu_132.2 (k + 8) (kn_ne (i := 8) (j := 0) (by decide))).trans h_131
  have hwl := (x_upd.len h_123 hu_132).trans hwl
  have hlow : ∀ j, j < k → ws_133[j]? = ws[j]? := fun j z9 => (hu_132.2 j (Nat.ne_of_lt (Nat.lt_of_lt_of_le z9 (Nat.le_add_right k 0)))).trans (hlow j z9)
  refine lv_iconst (v := 0) hx hb dG_init_74 (by decide) ?_
  refine lv_istore_n (lv' := [(1, .int 0), (0, .ref a)]) hx hb dG_init_75 rfl hl (by decide) rfl (fun ls hl => ?_)
  exact loop_76 _ q_12 q_20 q_30 q_42 q_56 q_72 q_90 q_110 0 _ (Nat.zero_le _) ws_133 _ _ _ hwl hlow h_134 h_135 h_136 h_137 h_138 h_139 h_140 h_141 h_142 (fun j z9 => absurd z9 (Nat.not_lt_zero _)) (Nat.lt_succ_self _) hP hD hS (lv_sub hl [1, 0] rfl)
