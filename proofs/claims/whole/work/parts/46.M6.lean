theorem setF_2 (F : Nat → Nat → Int32) (p : Nat) (a b : Nat → Int32) : setF (setF F p a) p b = setF F p b := by
  funext j
  unfold setF
  by_cases e : j = p
  · rw [if_pos e, if_pos e]
  · rw [if_neg e, if_neg e, if_neg e]
theorem MLs.repl {v v1 : Nat → Int32} {F F1 : Nat → Nat → Int32} {n to : Nat} {S : Nat → List Nat} (h : MLs v F n S) (hn : to + 1 < n) (ev : v1 28 = nI (to + 1)) (e1 : F1 15 = upd (F 15) to (nI (S (n - 1)).length)) (e2 : ∀ (j : Nat) (hj : j < (S (n - 1)).length), F1 14 (30 * to + j) = nI (S (n - 1))[j]) (e3 : ∀ x, (x < 30 * to ∨ 30 * to + 30 ≤ x) → F1 14 x = F 14 x) : MLs v1 F1 (to + 1) (updJ S to (S (n - 1))) := by
  refine ⟨ev, by have := h.2.1; omega, fun i hi => ?_⟩
  obtain ⟨h1, h2, h3, h4⟩ := h.2.2 i (by omega)
  obtain ⟨k1, k2, k3, k4⟩ := h.2.2 (n - 1) (by omega)
  unfold updJ
  rw [e1]
  unfold upd
  by_cases e : i = to
  · subst e
    rw [if_pos rfl, if_pos rfl]
    exact ⟨k1, rfl, k3, fun j hj => e2 j hj⟩
  · rw [if_neg e, if_neg e]
    exact ⟨h1, h2, h3, fun j hj => by rw [e3 _ (by omega)]; exact h4 j hj⟩

set_option maxHeartbeats 4000000 in
set_option maxRecDepth 100000 in
theorem cM_replace (l : Launch) (D : va_G) (tys : List (ClassId × FieldType)) (A : Nat → Prop) (ws : va_W) (cI : ClassId) (hI : tys[0]? = some (cI, .int)) (ad : Nat → Nat) (km : Nat) (v : Nat → Int32) (F : Nat → Nat → Int32) (n : Nat) (S : Nat → List Nat) (hS0 : MLs v F n S) (be : Nat) (hbe : 1 ≤ be) (hbn : be < n) (hM : ModF cI ad ws km v F) : x_Mv l yM_replace wM_replace (xR 0) D xCl tys A [.ref (ad km), .int (nI be)] ws (fun ws1 => x_fr km (km + 24) ws ws1 ∧ ∃ v1 F1, ModF cI ad ws1 km v1 F1 ∧ MLs v1 F1 (n - 1 - be + 1) (updJ S (n - 1 - be) (S (n - 1))) ∧ v1 30 = v 30 + nI (S (n - 1)).length ∧ vk [28, 30] v v1 ∧ fk [14, 15] F F1) := by
  have hF : x_fr km (km + 24) ws ws := x_fr.rf
  obtain ⟨hv28, hn60, hSi⟩ := id hS0
  have hln := (hSi (n - 1) (by omega)).1
  refine x_enter (by decide) rfl (Nat.le_of_ble_eq_true rfl) (fun p e s m args below meth c ls hx hb hr hlk hml hown hnm hts hK hP hD hS hA hN hl => ?_)
  have hl : lv_has ls 4 [(0, .ref (ad km)), (1, .int (nI be))] := hl
  have loop_11 : ∀ (fu9 : Nat) (i : Nat) (G14 : Nat → Int32) (hi : i ≤ (S (n - 1)).length) (ws1 : va_W) (H : Heap) (locs : List Loc) (ls : Array Slot), (∀ (j : Nat), j < i → ∀ (h : j < (S (n - 1)).length), G14 (30 * (n - 1 - be) + j) = nI (S (n - 1))[j]) → (∀ x, (x < 30 * (n - 1 - be) ∨ 30 * (n - 1 - be) + 30 ≤ x) → G14 x = F 14 x) → x_fr km (km + 24) ws ws1 → ModF cI ad ws1 km v (setF F 14 G14) → (S (n - 1)).length - i < fu9 → va_P D xCl ws1 H → va_D A ws1 → va_S A s.heap H locs → lv_has ls 4 [(0, .ref (ad km)), (2, .int (nI (n - 1 - be))), (3, .int (nI i))] → W p l e (xR 0) s m args below meth c H locs 0 0 (MQ below (va_Qv (fun ws1 => x_fr km (km + 24) ws ws1 ∧ ∃ v1 F1, ModF cI ad ws1 km v1 F1 ∧ MLs v1 F1 (n - 1 - be + 1) (updJ S (n - 1 - be) (S (n - 1))) ∧ v1 30 = v 30 + nI (S (n - 1)).length ∧ vk [28, 30] v v1 ∧ fk [14, 15] F F1) (x_B D xCl tys A) A) args s 0 0 A) (F0 m 11 ls []) := by
    intro fu9
    induction fu9 with
    | zero => intro i G14 hi ws1 H locs ls hG1 hG2 hF hM hme; exact absurd hme (Nat.not_lt_zero _)
    | succ fu9 ih =>
      intro i G14 hi ws1 H locs ls hG1 hG2 hF hM hme hP hD hS hl
      refine lv_iload_n hx hb dM_replace_11 rfl (lv_at hl 2 rfl) ?_
      refine lv_aload_n hx hb dM_replace_12 rfl (lv_at hl 0 rfl) ?_
      refine va_get (D := D) (cl := xCl) (ci := 7) (v := .ref (ad (km + 15))) (C := rnM) (T := tbM) (N := 39) hx hb hts inM hown hK hP km hM.1 rfl 24 (by decide) (hts _ tw_641) (fun _ h9 => h9) rfl dM_replace_13 ?_
      refine lv_aload_n hx hb dM_replace_16 rfl (lv_at hl 0 rfl) ?_
      refine va_get (D := D) (cl := xCl) (ci := 7) (v := .int (v 28)) (C := rnM) (T := tbM) (N := 39) hx hb hts inM hown hK hP km hM.1 rfl 28 (by decide) (hts _ tw_645) (fun _ h9 => h9) rfl dM_replace_17 ?_
      refine lv_iconst (v := 1) hx hb dM_replace_20 (by decide) ?_
      refine lv_isub hx hb dM_replace_21 ?_
      refine lv_topi (fun v_1 ev_1 => ?_)
      obtain rfl : v_1 = nI (n - 1) := by rw [ev_1, hv28, show (1 : Int32) = nI 1 from rfl, pk_sub (by omega)]
      refine va_iald hx hb hK hP (km + 15) 0 (hM.a 15 60 rfl (by omega) (by omega)) hI (vp_in_nI (by omega) (by omega)) dM_replace_22 ?_
      refine lv_topi (fun v_2 ev_2 => ?_)
      obtain rfl : v_2 = nI ((S (n - 1)).length) := by rw [ev_2]; show F 15 _ = _; rw [nI_clamp (by omega), (hSi _ (by omega)).2.1]
      refine lv_icmp_ge (tgt := 59) hx hb dM_replace_23 (by decide) (fun c23 => ?_) (fun c23 => ?_)
      · refine lv_aload_n hx hb dM_replace_59 rfl (lv_at hl 0 rfl) ?_
        refine va_get (D := D) (cl := xCl) (ci := 7) (v := .ref (ad (km + 15))) (C := rnM) (T := tbM) (N := 39) hx hb hts inM hown hK hP km hM.1 rfl 24 (by decide) (hts _ tw_641) (fun _ h9 => h9) rfl dM_replace_60 ?_
        refine lv_iload_n hx hb dM_replace_63 rfl (lv_at hl 1 rfl) ?_
        refine lv_aload_n hx hb dM_replace_64 rfl (lv_at hl 0 rfl) ?_
        refine va_get (D := D) (cl := xCl) (ci := 7) (v := .ref (ad (km + 15))) (C := rnM) (T := tbM) (N := 39) hx hb hts inM hown hK hP km hM.1 rfl 24 (by decide) (hts _ tw_641) (fun _ h9 => h9) rfl dM_replace_65 ?_
        refine lv_aload_n hx hb dM_replace_68 rfl (lv_at hl 0 rfl) ?_
        refine va_get (D := D) (cl := xCl) (ci := 7) (v := .int (v 28)) (C := rnM) (T := tbM) (N := 39) hx hb hts inM hown hK hP km hM.1 rfl 28 (by decide) (hts _ tw_645) (fun _ h9 => h9) rfl dM_replace_69 ?_
        refine lv_iconst (v := 1) hx hb dM_replace_72 (by decide) ?_
        refine lv_isub hx hb dM_replace_73 ?_
        refine lv_topi (fun v_3 ev_3 => ?_)
        obtain rfl : v_3 = nI (n - 1) := by rw [ev_3, hv28, show (1 : Int32) = nI 1 from rfl, pk_sub (by omega)]
        refine va_iald hx hb hK hP (km + 15) 0 (hM.a 15 60 rfl (by omega) (by omega)) hI (vp_in_nI (by omega) (by omega)) dM_replace_74 ?_
        refine lv_topi (fun v_4 ev_4 => ?_)
        obtain rfl : v_4 = nI ((S (n - 1)).length) := by rw [ev_4]; show F 15 _ = _; rw [nI_clamp (by omega), (hSi _ (by omega)).2.1]
        refine va_iast hx hb hK hP hD hS (km + 15) 0 (hM.a 15 60 rfl (by omega) (by omega)) hI (vp_in_nI (by omega) (by omega)) dM_replace_75 (fun H locs hP hD hS => ?_)
        obtain ⟨ws_6, hu_5, hP, hD⟩ := x_gen (hM.a 15 60 rfl (by omega) (by omega)) hP hD
        have hM : ModF cI ad ws_6 km v (setF (setF F 14 G14) 15 ((upd (F 15) ((nI (n - 1 - be))).toNatClampNeg ((nI ((S (n - 1)).length)))))) := hM.arr 15 60 rfl (by omega) (by omega) hu_5
        have hF := hF.tr (hu_5.fr (a := km) (b := km + 24) (by omega) (by omega))
        refine lv_aload_n hx hb dM_replace_76 rfl (lv_at hl 0 rfl) ?_
        refine lv_iload_n hx hb dM_replace_77 rfl (lv_at hl 1 rfl) ?_
        refine lv_iconst (v := 1) hx hb dM_replace_78 (by decide) ?_
        refine lv_iadd hx hb dM_replace_79 ?_
        refine lv_topi (fun v_7 ev_7 => ?_)
        obtain rfl : v_7 = nI ((n - 1 - be) + 1) := by rw [ev_7, nI_1]
        refine va_put (D := D) (cl := xCl) (ci := 7) (v := .int (nI ((n - 1 - be) + 1))) (ty := .int) (C := rnM) (T := tbM) (N := 39) hx hb hts inM tyM toM nmM hown hK hP hD hS km hM.1 rfl 28 (by decide) (hts _ tw_645) (fun _ h9 => h9) rfl (by decide +kernel) rfl rfl (Nat.le_of_ble_eq_true rfl) dM_replace_80 (fun H locs hP hD hS => ?_)
        obtain ⟨ws_9, hu_8, hP, hD⟩ := x_gen hM.1 hP hD
        have hM : ModF cI ad ws_9 km (setV v 28 ((nI ((n - 1 - be) + 1)))) (setF (setF F 14 G14) 15 ((upd (F 15) ((nI (n - 1 - be))).toNatClampNeg ((nI ((S (n - 1)).length)))))) := hM.fld_28 hu_8
        have hF := hF.tr (hu_8.fr (a := km) (b := km + 24) (by omega) (by omega))
        refine lv_aload_n hx hb dM_replace_83 rfl (lv_at hl 0 rfl) ?_
        refine lv_dup hx hb dM_replace_84 rfl ?_
        refine va_get (D := D) (cl := xCl) (ci := 7) (v := .int (v 30)) (C := rnM) (T := tbM) (N := 39) hx hb hts inM hown hK hP km hM.1 rfl 30 (by decide) (hts _ tw_647) (fun _ h9 => h9) rfl dM_replace_85 ?_
        refine lv_aload_n hx hb dM_replace_88 rfl (lv_at hl 0 rfl) ?_
        refine va_get (D := D) (cl := xCl) (ci := 7) (v := .ref (ad (km + 15))) (C := rnM) (T := tbM) (N := 39) hx hb hts inM hown hK hP km hM.1 rfl 24 (by decide) (hts _ tw_641) (fun _ h9 => h9) rfl dM_replace_89 ?_
        refine lv_iload_n hx hb dM_replace_92 rfl (lv_at hl 1 rfl) ?_
        refine va_iald hx hb hK hP (km + 15) 0 (hM.a 15 60 rfl (by omega) (by omega)) hI (vp_in_nI (by omega) (by omega)) dM_replace_93 ?_
        refine lv_topi (fun v_10 ev_10 => ?_)
        obtain rfl : v_10 = nI ((S (n - 1)).length) := by rw [ev_10]; show upd _ _ _ _ = _; unfold upd; rw [if_pos rfl]
        refine lv_iadd hx hb dM_replace_94 ?_
        refine lv_topi (fun v_11 ev_11 => ?_)
        obtain rfl := ev_11
        refine va_put (D := D) (cl := xCl) (ci := 7) (v := .int (v 30 + nI ((S (n - 1)).length))) (ty := .int) (C := rnM) (T := tbM) (N := 39) hx hb hts inM tyM toM nmM hown hK hP hD hS km hM.1 rfl 30 (by decide) (hts _ tw_647) (fun _ h9 => h9) rfl (by decide +kernel) rfl rfl (Nat.le_of_ble_eq_true rfl) dM_replace_95 (fun H locs hP hD hS => ?_)
        obtain ⟨ws_13, hu_12, hP, hD⟩ := x_gen hM.1 hP hD
        have hM : ModF cI ad ws_13 km (setV (setV v 28 ((nI ((n - 1 - be) + 1)))) 30 ((v 30 + nI ((S (n - 1)).length)))) (setF (setF F 14 G14) 15 ((upd (F 15) ((nI (n - 1 - be))).toNatClampNeg ((nI ((S (n - 1)).length)))))) := hM.fld_30 hu_12
        have hF := hF.tr (hu_12.fr (a := km) (b := km + 24) (by omega) (by omega))
        exact x_vret hx hb hr hlk hK hP hD hS dM_replace_98 ⟨hF, _, _, hM, hS0.repl (by omega) (by show _ = nI (n - 1 - be + 1); rfl) (by show upd _ _ _ = _; rw [nI_clamp (by omega)]) (fun j hj => hG1 j (by rw [nI_leI (by omega) (by omega)] at c23; omega) hj) (fun x hx => hG2 x hx), rfl, (vk.set (by simp)).tr (vk.set (by simp)), (fk.set (by simp)).tr (fk.set (by simp))⟩
      · have hi2 : i < (S (n - 1)).length := by rw [nI_leI (by omega) (by omega)] at c23; omega
        refine lv_aload_n hx hb dM_replace_26 rfl (lv_at hl 0 rfl) ?_
        refine va_get (D := D) (cl := xCl) (ci := 7) (v := .ref (ad (km + 14))) (C := rnM) (T := tbM) (N := 39) hx hb hts inM hown hK hP km hM.1 rfl 23 (by decide) (hts _ tw_640) (fun _ h9 => h9) rfl dM_replace_27 ?_
        refine lv_bipush (v := 30) hx hb dM_replace_30 (by decide) ?_
        refine lv_iload_n hx hb dM_replace_32 rfl (lv_at hl 1 rfl) ?_
        refine lv_imul hx hb dM_replace_33 ?_
        refine lv_topi (fun v_14 ev_14 => ?_)
        obtain rfl : v_14 = nI (30 * (n - 1 - be)) := by rw [ev_14, show (30 : Int32) = nI 30 from rfl, pk_mul]
        refine lv_iload_n hx hb dM_replace_34 rfl (lv_at hl 2 rfl) ?_
        refine lv_iadd hx hb dM_replace_35 ?_
        refine lv_topi (fun v_15 ev_15 => ?_)
        obtain rfl : v_15 = nI (30 * (n - 1 - be) + i) := by rw [ev_15, nI_add]
        refine lv_aload_n hx hb dM_replace_36 rfl (lv_at hl 0 rfl) ?_
        refine va_get (D := D) (cl := xCl) (ci := 7) (v := .ref (ad (km + 14))) (C := rnM) (T := tbM) (N := 39) hx hb hts inM hown hK hP km hM.1 rfl 23 (by decide) (hts _ tw_640) (fun _ h9 => h9) rfl dM_replace_37 ?_
        refine lv_bipush (v := 30) hx hb dM_replace_40 (by decide) ?_
        refine lv_aload_n hx hb dM_replace_42 rfl (lv_at hl 0 rfl) ?_
        refine va_get (D := D) (cl := xCl) (ci := 7) (v := .int (v 28)) (C := rnM) (T := tbM) (N := 39) hx hb hts inM hown hK hP km hM.1 rfl 28 (by decide) (hts _ tw_645) (fun _ h9 => h9) rfl dM_replace_43 ?_
        refine lv_iconst (v := 1) hx hb dM_replace_46 (by decide) ?_
        refine lv_isub hx hb dM_replace_47 ?_
        refine lv_topi (fun v_16 ev_16 => ?_)
        obtain rfl : v_16 = nI (n - 1) := by rw [ev_16, hv28, show (1 : Int32) = nI 1 from rfl, pk_sub (by omega)]
        refine lv_imul hx hb dM_replace_48 ?_
        refine lv_topi (fun v_17 ev_17 => ?_)
        obtain rfl : v_17 = nI (30 * (n - 1)) := by rw [ev_17, show (30 : Int32) = nI 30 from rfl, pk_mul]
        refine lv_iload_n hx hb dM_replace_49 rfl (lv_at hl 2 rfl) ?_
        refine lv_iadd hx hb dM_replace_50 ?_
        refine lv_topi (fun v_18 ev_18 => ?_)
        obtain rfl : v_18 = nI (30 * (n - 1) + i) := by rw [ev_18, nI_add]
        refine va_iald hx hb hK hP (km + 14) 0 (hM.a 14 1800 rfl (by omega) (by omega)) hI (vp_in_nI (by omega) (by omega)) dM_replace_51 ?_
        refine lv_topi (fun v_19 ev_19 => ?_)
        obtain rfl : v_19 = nI (S (n - 1))[i] := by rw [ev_19]; show G14 _ = _; rw [nI_clamp (by omega), hG2 _ (by omega)]; exact (hSi _ (by omega)).2.2.2 i hi2
        refine va_iast hx hb hK hP hD hS (km + 14) 0 (hM.a 14 1800 rfl (by omega) (by omega)) hI (vp_in_nI (by omega) (by omega)) dM_replace_52 (fun H locs hP hD hS => ?_)
        obtain ⟨ws_21, hu_20, hP, hD⟩ := x_gen (hM.a 14 1800 rfl (by omega) (by omega)) hP hD
        have hM : ModF cI ad ws_21 km v (setF (setF F 14 G14) 14 ((upd G14 ((nI (30 * (n - 1 - be) + i))).toNatClampNeg ((nI (S (n - 1))[i]))))) := hM.arr 14 1800 rfl (by omega) (by omega) hu_20
        have hF := hF.tr (hu_20.fr (a := km) (b := km + 24) (by omega) (by omega))
        refine lv_iinc (v := (nI (i + 1))) (lv' := [(3, .int (nI (i + 1))), (0, .ref (ad km)), (2, .int (nI (n - 1 - be)))]) hx hb dM_replace_53 hl (k := 2) rfl (nI_1 _) (by decide) rfl (fun ls hl => ?_)
        refine lv_goto (tgt := 11) hx hb dM_replace_56 (by decide) ?_
        exact ih (i + 1) (upd G14 (nI (30 * (n - 1 - be) + i)).toNatClampNeg (nI (S (n - 1))[i])) (by omega) ws_21 _ _ _ (fun j hj hj2 => by rw [nI_clamp (by omega)]; unfold upd; by_cases e : j = i; (subst e; rw [if_pos rfl]); (rw [if_neg (by omega)]; exact hG1 j (by omega) hj2)) (fun x hx => by rw [nI_clamp (by omega)]; unfold upd; rw [if_neg (by omega)]; exact hG2 x hx) hF (by rw [setF_2] at hM; exact hM) (by omega) hP hD hS (lv_sub hl [1, 2, 0] rfl)
  refine lv_aload_n hx hb dM_replace_0 rfl (lv_at hl 0 rfl) ?_
  refine va_get (D := D) (cl := xCl) (ci := 7) (v := .int (v 28)) (C := rnM) (T := tbM) (N := 39) hx hb hts inM hown hK hP km hM.1 rfl 28 (by decide) (hts _ tw_645) (fun _ h9 => h9) rfl dM_replace_1 ?_
  refine lv_iconst (v := 1) hx hb dM_replace_4 (by decide) ?_
  refine lv_isub hx hb dM_replace_5 ?_
  refine lv_topi (fun v_22 ev_22 => ?_)
  obtain rfl : v_22 = nI (n - 1) := by rw [ev_22, hv28, show (1 : Int32) = nI 1 from rfl, pk_sub (by omega)]
  refine lv_iload_n hx hb dM_replace_6 rfl (lv_at hl 1 rfl) ?_
  refine lv_isub hx hb dM_replace_7 ?_
  refine lv_topi (fun v_23 ev_23 => ?_)
  obtain rfl : v_23 = nI ((n - 1 - be)) := by rw [ev_23, pk_sub (by omega)]
  refine lv_istore_n (lv' := [(2, .int (nI ((n - 1 - be)))), (0, .ref (ad km)), (1, .int (nI be))]) hx hb dM_replace_8 rfl hl (by decide) rfl (fun ls hl => ?_)
  refine lv_iconst (v := 0) hx hb dM_replace_9 (by decide) ?_
  refine lv_istore_n (lv' := [(3, .int 0), (2, .int (nI ((n - 1 - be)))), (0, .ref (ad km)), (1, .int (nI be))]) hx hb dM_replace_10 rfl hl (by decide) rfl (fun ls hl => ?_)
  exact loop_11 _ 0 (F 14) (Nat.zero_le _) ws _ _ _ (fun j hj => absurd hj (Nat.not_lt_zero j)) (fun x _ => rfl) hF (by have e : setF F 14 (F 14) = F := (by funext j; unfold setF; by_cases z : j = 14; (rw [if_pos z, z]); (rw [if_neg z])); rw [e]; exact hM) (Nat.lt_succ_self _) hP hD hS (lv_sub hl [2, 1, 0] rfl)
