/-- what the letters stand for -/
def MBs (v : Nat → Int32) (F : Nat → Nat → Int32) (ls : List Nat) (B : Nat → List Nat) : Prop := v 29 = nI ls.length ∧ ls.length ≤ 12 ∧ ∀ (k : Nat) (h : k < ls.length), F 18 k = nI ls[k] ∧ ls[k] < 26 ∧ F 17 k = nI (B k).length ∧ (B k).length ≤ 30 ∧ (∀ t ∈ B k, t < 30) ∧ ∀ (j : Nat) (h2 : j < (B k).length), F 16 (30 * k + j) = nI (B k)[j]
theorem MBs.c2 {v v1 : Nat → Int32} {F F1 : Nat → Nat → Int32} {ls : List Nat} {B : Nat → List Nat} (h : MBs v F ls B) (e1 : v1 29 = v 29) (e2 : F1 16 = F 16) (e3 : F1 17 = F 17) (e4 : F1 18 = F 18) : MBs v1 F1 ls B := by
  obtain ⟨h1, h2, h3⟩ := h
  refine ⟨e1.trans h1, h2, fun i hi => ?_⟩
  rw [e2, e3, e4]
  exact h3 i hi
theorem MLs.dn {v v1 : Nat → Int32} {F F1 : Nat → Nat → Int32} {n m : Nat} {S : Nat → List Nat} (h : MLs v F n S) (hm : m ≤ n) (e1 : v1 28 = nI m) (e2 : F1 14 = F 14) (e3 : F1 15 = F 15) : MLs v1 F1 m S := by
  obtain ⟨h1, h2, h3⟩ := h
  refine ⟨e1, by omega, fun i hi => ?_⟩
  rw [e2, e3]
  exact h3 i (by omega)
theorem lix_tk {ls : List Nat} {c k s : Nat} (hk : k < ls.length) (hl : ls.length ≤ 12) (h : lix (ls.take (k + 1)) c = nI s) (hs : s < 1000) : (ls[k] = c → s = k) ∧ (¬ ls[k] = c → lix (ls.take k) c = nI s ∧ 0 < k) := by
  rw [List.take_succ_eq_append_getElem hk, lix_app] at h
  have hlen : (ls.take k).length = k := by rw [List.length_take]; omega
  refine ⟨fun e => ?_, fun e => ?_⟩
  · rw [if_pos e.symm, hlen, nI_eq (by omega) (by omega)] at h
    exact h.symm
  · rw [if_neg (fun z => e z.symm)] at h
    refine ⟨h, Nat.pos_of_ne_zero (fun z => ?_)⟩
    rw [z, List.take_zero] at h
    have h2 : (-1 : Int32) = nI s := h
    have := congrArg Int32.toInt h2
    rw [nI_toInt (by omega)] at this
    have : (-1 : Int32).toInt = -1 := by decide
    omega

theorem MBs.push {v v1 : Nat → Int32} {F F1 : Nat → Nat → Int32} {ls : List Nat} {B : Nat → List Nat} {L : List Nat} {c : Nat} (h : MBs v F ls B) (hc : c < 26) (hl : ls.length < 12) (hL : L.length ≤ 30 ∧ ∀ t ∈ L, t < 30) (e1 : v1 29 = nI (ls.length + 1)) (e17 : F1 17 = upd (F 17) ls.length (nI L.length)) (e18 : F1 18 = upd (F 18) ls.length (nI c)) (hlow : ∀ j, j < 30 * ls.length → F1 16 j = F 16 j) (hnew : ∀ (j : Nat) (h : j < L.length), F1 16 (30 * ls.length + j) = nI L[j]) : MBs v1 F1 (ls ++ [c]) (updJ B ls.length L) := by
  obtain ⟨h1, h2, h3⟩ := h
  refine ⟨by rw [e1, List.length_append]; rfl, by rw [List.length_append, List.length_singleton]; omega, fun k hk => ?_⟩
  rw [List.length_append, List.length_singleton] at hk
  rw [e17, e18]
  by_cases z : k = ls.length
  · subst z
    rw [upd_s9, upd_s9, updJ_s]
    refine ⟨?_, ?_, rfl, hL.1, hL.2, hnew⟩
    · rw [List.getElem_append_right (Nat.le_refl _)]; simp
    · rw [List.getElem_append_right (Nat.le_refl _)]; simpa using hc
  · have hk2 : k < ls.length := by omega
    obtain ⟨a, a2, b, c2, d, e⟩ := h3 k hk2
    rw [upd_o z, upd_o z, updJ_o9 z, List.getElem_append_left hk2]
    exact ⟨a, a2, b, c2, d, fun j hj => by rw [hlow _ (by omega)]; exact e j hj⟩

set_option maxHeartbeats 4000000 in
set_option maxRecDepth 100000 in
/-- bind(letter) -/
theorem cM_bind (l : Launch) (D : va_G) (tys : List (ClassId × FieldType)) (A : Nat → Prop) (ws : va_W) (cI : ClassId) (hI : tys[0]? = some (cI, .int)) (ad : Nat → Nat) (km : Nat) (v : Nat → Int32) (F : Nat → Nat → Int32) (n : Nat) (S : Nat → List Nat) (hS0 : MLs v F n S) (ls9 : List Nat) (B : Nat → List Nat) (hB0 : MBs v F ls9 B) (c9 : Nat) (hc9 : c9 < 26) (hn1 : 1 ≤ n) (hl12 : ls9.length < 12) (hM : ModF cI ad ws km v F) : x_Mv l yM_bind wM_bind (xR 0) D xCl tys A [.ref (ad km), .int (nI c9)] ws (fun ws1 => x_fr km (km + 24) ws ws1 ∧ ∃ v9 F9, ModF cI ad ws1 km v9 F9 ∧ MLs v9 F9 (n - 1) S ∧ MBs v9 F9 (ls9 ++ [c9]) (updJ B ls9.length (S (n - 1))) ∧ vk [28, 29] v v9 ∧ fk [16, 17, 18] F F9) := by
  have hF : x_fr km (km + 24) ws ws := x_fr.rf
  obtain ⟨hv28, hn60, hSi⟩ := id hS0
  have huL := hSi (n - 1) (by omega)
  have hb29 := hB0.1
  refine x_enter (by decide) rfl (Nat.le_of_ble_eq_true rfl) (fun p e s m args below meth c ls hx hb hr hlk hml hown hnm hts hK hP hD hS hA hN hl => ?_)
  have hl : lv_has ls 3 [(0, .ref (ad km)), (1, .int (nI c9))] := hl
  have loop_12 : ∀ (fu9 : Nat) (i : Nat) (F1 : Nat → Nat → Int32) (ws1 : va_W) (H : Heap) (locs : List Loc) (ls : Array Slot), x_fr km (km + 24) ws ws1 → ModF cI ad ws1 km (setV v 28 (nI (n - 1))) F1 → fk [16] F F1 → i ≤ (S (n - 1)).length → (∀ j, j < 30 * ls9.length → F1 16 j = F 16 j) → (∀ (j : Nat), j < i → ∀ (h2 : j < (S (n - 1)).length), F1 16 (30 * ls9.length + j) = nI (S (n - 1))[j]) → (S (n - 1)).length - i < fu9 → va_P D xCl ws1 H → va_D A ws1 → va_S A s.heap H locs → lv_has ls 3 [(0, .ref (ad km)), (1, .int (nI c9)), (2, .int (nI i))] → W p l e (xR 0) s m args below meth c H locs 0 0 (MQ below (va_Qv (fun ws1 => x_fr km (km + 24) ws ws1 ∧ ∃ v9 F9, ModF cI ad ws1 km v9 F9 ∧ MLs v9 F9 (n - 1) S ∧ MBs v9 F9 (ls9 ++ [c9]) (updJ B ls9.length (S (n - 1))) ∧ vk [28, 29] v v9 ∧ fk [16, 17, 18] F F9) (x_B D xCl tys A) A) args s 0 0 A) (F0 m 12 ls []) := by
    intro fu9
    induction fu9 with
    | zero => intro i F1 ws1 H locs ls hF hM hfk hi hlow hnew hme; exact absurd hme (Nat.not_lt_zero _)
    | succ fu9 ih =>
      intro i F1 ws1 H locs ls hF hM hfk hi hlow hnew hme hP hD hS hl
      have hfk17 : F1 17 = F 17 := hfk 17 (by simp)
      have hfk18 : F1 18 = F 18 := hfk 18 (by simp)
      refine lv_iload_n hx hb dM_bind_12 rfl (lv_at hl 2 rfl) ?_
      refine lv_aload_n hx hb dM_bind_13 rfl (lv_at hl 0 rfl) ?_
      refine va_get (D := D) (cl := xCl) (ci := 7) (v := .ref (ad (km + 15))) (C := rnM) (T := tbM) (N := 39) hx hb hts inM hown hK hP km hM.1 rfl 24 (by decide) (hts _ tw_641) (fun _ h9 => h9) rfl dM_bind_14 ?_
      refine lv_aload_n hx hb dM_bind_17 rfl (lv_at hl 0 rfl) ?_
      refine va_get (D := D) (cl := xCl) (ci := 7) (v := .int ((setV v 28 (nI (n - 1))) 28)) (C := rnM) (T := tbM) (N := 39) hx hb hts inM hown hK hP km hM.1 rfl 28 (by decide) (hts _ tw_645) (fun _ h9 => h9) rfl dM_bind_18 ?_
      refine va_iald hx hb hK hP (km + 15) 0 (hM.a 15 60 rfl (by omega) (by omega)) hI (vp_in_nI (by omega) (by omega)) dM_bind_21 ?_
      refine lv_topi (fun v_1 ev_1 => ?_)
      obtain rfl : v_1 = nI (S (n - 1)).length := by rw [ev_1]; show F1 15 (nI (n - 1)).toNatClampNeg = _; rw [nI_clamp (by omega), hfk 15 (by simp)]; exact huL.2.1
      refine lv_icmp_ge (tgt := 59) hx hb dM_bind_22 (by decide) (fun c22 => ?_) (fun c22 => ?_)
      · refine lv_aload_n hx hb dM_bind_59 rfl (lv_at hl 0 rfl) ?_
        refine va_get (D := D) (cl := xCl) (ci := 7) (v := .ref (ad (km + 17))) (C := rnM) (T := tbM) (N := 39) hx hb hts inM hown hK hP km hM.1 rfl 26 (by decide) (hts _ tw_643) (fun _ h9 => h9) rfl dM_bind_60 ?_
        refine lv_aload_n hx hb dM_bind_63 rfl (lv_at hl 0 rfl) ?_
        refine va_get (D := D) (cl := xCl) (ci := 7) (v := .int ((setV v 28 (nI (n - 1))) 29)) (C := rnM) (T := tbM) (N := 39) hx hb hts inM hown hK hP km hM.1 rfl 29 (by decide) (hts _ tw_646) (fun _ h9 => h9) rfl dM_bind_64 ?_
        refine lv_aload_n hx hb dM_bind_67 rfl (lv_at hl 0 rfl) ?_
        refine va_get (D := D) (cl := xCl) (ci := 7) (v := .ref (ad (km + 15))) (C := rnM) (T := tbM) (N := 39) hx hb hts inM hown hK hP km hM.1 rfl 24 (by decide) (hts _ tw_641) (fun _ h9 => h9) rfl dM_bind_68 ?_
        refine lv_aload_n hx hb dM_bind_71 rfl (lv_at hl 0 rfl) ?_
        refine va_get (D := D) (cl := xCl) (ci := 7) (v := .int ((setV v 28 (nI (n - 1))) 28)) (C := rnM) (T := tbM) (N := 39) hx hb hts inM hown hK hP km hM.1 rfl 28 (by decide) (hts _ tw_645) (fun _ h9 => h9) rfl dM_bind_72 ?_
        refine va_iald hx hb hK hP (km + 15) 0 (hM.a 15 60 rfl (by omega) (by omega)) hI (vp_in_nI (by omega) (by omega)) dM_bind_75 ?_
        refine lv_topi (fun v_2 ev_2 => ?_)
        obtain rfl : v_2 = nI (S (n - 1)).length := by rw [ev_2]; show F1 15 (nI (n - 1)).toNatClampNeg = _; rw [nI_clamp (by omega), hfk 15 (by simp)]; exact huL.2.1
        refine va_iast hx hb hK hP hD hS (km + 17) 0 (hM.a 17 20 rfl (by omega) (by omega)) hI (by show vp_in (v 29) 20; rw [hb29]; exact vp_in_nI (by omega) (by omega)) dM_bind_76 (fun H locs hP hD hS => ?_)
        obtain ⟨ws_4, hu_3, hP, hD⟩ := x_gen (hM.a 17 20 rfl (by omega) (by omega)) hP hD
        have hM : ModF cI ad ws_4 km (setV v 28 (nI (n - 1))) (setF F1 17 ((upd (F1 17) (((setV v 28 (nI (n - 1))) 29)).toNatClampNeg ((nI (S (n - 1)).length))))) := hM.arr 17 20 rfl (by omega) (by omega) hu_3
        have hF := hF.tr (hu_3.fr (a := km) (b := km + 24) (by omega) (by omega))
        refine lv_aload_n hx hb dM_bind_77 rfl (lv_at hl 0 rfl) ?_
        refine va_get (D := D) (cl := xCl) (ci := 7) (v := .ref (ad (km + 18))) (C := rnM) (T := tbM) (N := 39) hx hb hts inM hown hK hP km hM.1 rfl 27 (by decide) (hts _ tw_644) (fun _ h9 => h9) rfl dM_bind_78 ?_
        refine lv_aload_n hx hb dM_bind_81 rfl (lv_at hl 0 rfl) ?_
        refine va_get (D := D) (cl := xCl) (ci := 7) (v := .int ((setV v 28 (nI (n - 1))) 29)) (C := rnM) (T := tbM) (N := 39) hx hb hts inM hown hK hP km hM.1 rfl 29 (by decide) (hts _ tw_646) (fun _ h9 => h9) rfl dM_bind_82 ?_
        refine lv_iload_n hx hb dM_bind_85 rfl (lv_at hl 1 rfl) ?_
        refine va_iast hx hb hK hP hD hS (km + 18) 0 (hM.a 18 20 rfl (by omega) (by omega)) hI (by show vp_in (v 29) 20; rw [hb29]; exact vp_in_nI (by omega) (by omega)) dM_bind_86 (fun H locs hP hD hS => ?_)
        obtain ⟨ws_6, hu_5, hP, hD⟩ := x_gen (hM.a 18 20 rfl (by omega) (by omega)) hP hD
        have hM : ModF cI ad ws_6 km (setV v 28 (nI (n - 1))) (setF (setF F1 17 ((upd (F1 17) (((setV v 28 (nI (n - 1))) 29)).toNatClampNeg ((nI (S (n - 1)).length))))) 18 ((upd (F1 18) (((setV v 28 (nI (n - 1))) 29)).toNatClampNeg ((nI c9))))) := hM.arr 18 20 rfl (by omega) (by omega) hu_5
        have hF := hF.tr (hu_5.fr (a := km) (b := km + 24) (by omega) (by omega))
        refine lv_aload_n hx hb dM_bind_87 rfl (lv_at hl 0 rfl) ?_
        refine lv_dup hx hb dM_bind_88 rfl ?_
        refine va_get (D := D) (cl := xCl) (ci := 7) (v := .int ((setV v 28 (nI (n - 1))) 29)) (C := rnM) (T := tbM) (N := 39) hx hb hts inM hown hK hP km hM.1 rfl 29 (by decide) (hts _ tw_646) (fun _ h9 => h9) rfl dM_bind_89 ?_
        refine lv_iconst (v := 1) hx hb dM_bind_92 (by decide) ?_
        refine lv_iadd hx hb dM_bind_93 ?_
        refine lv_topi (fun v_7 ev_7 => ?_)
        refine va_put (D := D) (cl := xCl) (ci := 7) (v := .int v_7) (ty := .int) (C := rnM) (T := tbM) (N := 39) hx hb hts inM tyM toM nmM hown hK hP hD hS km hM.1 rfl 29 (by decide) (hts _ tw_646) (fun _ h9 => h9) rfl (by decide +kernel) rfl rfl (Nat.le_of_ble_eq_true rfl) dM_bind_94 (fun H locs hP hD hS => ?_)
        obtain ⟨ws_9, hu_8, hP, hD⟩ := x_gen hM.1 hP hD
        have hM : ModF cI ad ws_9 km (setV (setV v 28 (nI (n - 1))) 29 v_7) (setF (setF F1 17 ((upd (F1 17) (((setV v 28 (nI (n - 1))) 29)).toNatClampNeg ((nI (S (n - 1)).length))))) 18 ((upd (F1 18) (((setV v 28 (nI (n - 1))) 29)).toNatClampNeg ((nI c9))))) := hM.fld_29 hu_8
        have hF := hF.tr (hu_8.fr (a := km) (b := km + 24) (by omega) (by omega))
        have hx9 : v_7 = nI (ls9.length + 1) := by rw [ev_7]; show v 29 + 1 = _; rw [hb29, nI_1]
        exact x_vret hx hb hr hlk hK hP hD hS dM_bind_97 ⟨hF, _, _, hM, hS0.dn (by omega) rfl (hfk 14 (by simp)) (hfk 15 (by simp)), hB0.push hc9 (by omega) ⟨huL.1, huL.2.2.1⟩ hx9 (by show upd (F1 17) (v 29).toNatClampNeg (nI (S (n - 1)).length) = _; rw [show v 29 = nI ls9.length from hb29, nI_clamp (by omega), hfk17]) (by show upd (F1 18) (v 29).toNatClampNeg (nI c9) = _; rw [show v 29 = nI ls9.length from hb29, nI_clamp (by omega), hfk18]) hlow (fun j hj => hnew j (by rw [nI_leI (by omega) (by omega)] at c22; omega) hj), (vk_s (by simp)).tr (vk_s (by simp)), (hfk.wd (by simp)).tr ((fk_s (by simp)).tr (fk_s (by simp)))⟩
      · have hi2 : i < (S (n - 1)).length := by rw [nI_leI (by omega) (by omega)] at c22; omega
        refine lv_aload_n hx hb dM_bind_25 rfl (lv_at hl 0 rfl) ?_
        refine va_get (D := D) (cl := xCl) (ci := 7) (v := .ref (ad (km + 16))) (C := rnM) (T := tbM) (N := 39) hx hb hts inM hown hK hP km hM.1 rfl 25 (by decide) (hts _ tw_642) (fun _ h9 => h9) rfl dM_bind_26 ?_
        refine lv_bipush (v := 30) hx hb dM_bind_29 (by decide) ?_
        refine lv_aload_n hx hb dM_bind_31 rfl (lv_at hl 0 rfl) ?_
        refine va_get (D := D) (cl := xCl) (ci := 7) (v := .int ((setV v 28 (nI (n - 1))) 29)) (C := rnM) (T := tbM) (N := 39) hx hb hts inM hown hK hP km hM.1 rfl 29 (by decide) (hts _ tw_646) (fun _ h9 => h9) rfl dM_bind_32 ?_
        refine lv_imul hx hb dM_bind_35 ?_
        refine lv_topi (fun v_10 ev_10 => ?_)
        obtain rfl : v_10 = nI (30 * ls9.length) := by rw [ev_10, show (setV v 28 (nI (n - 1))) 29 = v 29 from rfl, hb29, show (30 : Int32) = nI 30 from rfl, pk_mul]
        refine lv_iload_n hx hb dM_bind_36 rfl (lv_at hl 2 rfl) ?_
        refine lv_iadd hx hb dM_bind_37 ?_
        refine lv_topi (fun v_11 ev_11 => ?_)
        obtain rfl : v_11 = nI (30 * ls9.length + i) := by rw [ev_11, nI_add]
        refine lv_aload_n hx hb dM_bind_38 rfl (lv_at hl 0 rfl) ?_
        refine va_get (D := D) (cl := xCl) (ci := 7) (v := .ref (ad (km + 14))) (C := rnM) (T := tbM) (N := 39) hx hb hts inM hown hK hP km hM.1 rfl 23 (by decide) (hts _ tw_640) (fun _ h9 => h9) rfl dM_bind_39 ?_
        refine lv_bipush (v := 30) hx hb dM_bind_42 (by decide) ?_
        refine lv_aload_n hx hb dM_bind_44 rfl (lv_at hl 0 rfl) ?_
        refine va_get (D := D) (cl := xCl) (ci := 7) (v := .int ((setV v 28 (nI (n - 1))) 28)) (C := rnM) (T := tbM) (N := 39) hx hb hts inM hown hK hP km hM.1 rfl 28 (by decide) (hts _ tw_645) (fun _ h9 => h9) rfl dM_bind_45 ?_
        refine lv_imul hx hb dM_bind_48 ?_
        refine lv_topi (fun v_12 ev_12 => ?_)
        obtain rfl : v_12 = nI (30 * (n - 1)) := by rw [ev_12, show (30 : Int32) = nI 30 from rfl]; exact pk_mul 30 (n - 1)
        refine lv_iload_n hx hb dM_bind_49 rfl (lv_at hl 2 rfl) ?_
        refine lv_iadd hx hb dM_bind_50 ?_
        refine lv_topi (fun v_13 ev_13 => ?_)
        obtain rfl : v_13 = nI (30 * (n - 1) + i) := by rw [ev_13, nI_add]
        refine va_iald hx hb hK hP (km + 14) 0 (hM.a 14 1800 rfl (by omega) (by omega)) hI (vp_in_nI (by omega) (by omega)) dM_bind_51 ?_
        refine lv_topi (fun v_14 ev_14 => ?_)
        obtain rfl : v_14 = nI (S (n - 1))[i] := by rw [ev_14, nI_clamp (by omega), hfk 14 (by simp)]; exact huL.2.2.2 i hi2
        refine va_iast hx hb hK hP hD hS (km + 16) 0 (hM.a 16 600 rfl (by omega) (by omega)) hI (vp_in_nI (by omega) (by omega)) dM_bind_52 (fun H locs hP hD hS => ?_)
        obtain ⟨ws_16, hu_15, hP, hD⟩ := x_gen (hM.a 16 600 rfl (by omega) (by omega)) hP hD
        have hM : ModF cI ad ws_16 km (setV v 28 (nI (n - 1))) (setF F1 16 ((upd (F1 16) ((nI (30 * ls9.length + i))).toNatClampNeg ((nI (S (n - 1))[i]))))) := hM.arr 16 600 rfl (by omega) (by omega) hu_15
        have hF := hF.tr (hu_15.fr (a := km) (b := km + 24) (by omega) (by omega))
        refine lv_iinc (v := (nI (i + 1))) (lv' := [(2, .int (nI (i + 1))), (0, .ref (ad km)), (1, .int (nI c9))]) hx hb dM_bind_53 hl (k := 2) rfl (nI_1 _) (by decide) rfl (fun ls hl => ?_)
        refine lv_goto (tgt := 12) hx hb dM_bind_56 (by decide) ?_
        exact ih (i + 1) (setF F1 16 ((upd (F1 16) ((nI (30 * ls9.length + i))).toNatClampNeg ((nI (S (n - 1))[i]))))) ws_16 _ _ _ hF hM (hfk.tr (fk_s (by simp))) (by omega) (fun j hj => by show upd (F1 16) (nI (30 * ls9.length + i)).toNatClampNeg (nI (S (n - 1))[i]) j = F 16 j; rw [nI_clamp (by omega), upd_o (by omega)]; exact hlow j hj) (fun j hj hj2 => by show upd (F1 16) (nI (30 * ls9.length + i)).toNatClampNeg (nI (S (n - 1))[i]) (30 * ls9.length + j) = _; rw [nI_clamp (by omega)]; by_cases z9 : j = i; (subst z9; rw [upd_s9]); (rw [upd_o (by omega)]; exact hnew j (by omega) hj2)) (by omega) hP hD hS (lv_sub hl [1, 2, 0] rfl)
  refine lv_aload_n hx hb dM_bind_0 rfl (lv_at hl 0 rfl) ?_
  refine lv_dup hx hb dM_bind_1 rfl ?_
  refine va_get (D := D) (cl := xCl) (ci := 7) (v := .int (v 28)) (C := rnM) (T := tbM) (N := 39) hx hb hts inM hown hK hP km hM.1 rfl 28 (by decide) (hts _ tw_645) (fun _ h9 => h9) rfl dM_bind_2 ?_
  refine lv_iconst (v := 1) hx hb dM_bind_5 (by decide) ?_
  refine lv_isub hx hb dM_bind_6 ?_
  refine lv_topi (fun v_17 ev_17 => ?_)
  obtain rfl : v_17 = nI (n - 1) := by rw [ev_17, hv28, show (1 : Int32) = nI 1 from rfl, pk_sub (by omega)]
  refine va_put (D := D) (cl := xCl) (ci := 7) (v := .int (nI (n - 1))) (ty := .int) (C := rnM) (T := tbM) (N := 39) hx hb hts inM tyM toM nmM hown hK hP hD hS km hM.1 rfl 28 (by decide) (hts _ tw_645) (fun _ h9 => h9) rfl (by decide +kernel) rfl rfl (Nat.le_of_ble_eq_true rfl) dM_bind_7 (fun H locs hP hD hS => ?_)
  obtain ⟨ws_19, hu_18, hP, hD⟩ := x_gen hM.1 hP hD
  have hM : ModF cI ad ws_19 km (setV v 28 ((nI (n - 1)))) F := hM.fld_28 hu_18
  have hF := hF.tr (hu_18.fr (a := km) (b := km + 24) (by omega) (by omega))
  refine lv_iconst (v := 0) hx hb dM_bind_10 (by decide) ?_
  refine lv_istore_n (lv' := [(2, .int 0), (0, .ref (ad km)), (1, .int (nI c9))]) hx hb dM_bind_11 rfl hl (by decide) rfl (fun ls hl => ?_)
  exact loop_12 _ 0 F ws_19 _ _ _ hF hM fk.rf (Nat.zero_le _) (fun _ _ => rfl) (fun j hj => absurd hj (Nat.not_lt_zero _)) (Nat.lt_succ_self _) hP hD hS (lv_sub hl [1, 2, 0] rfl)

set_option maxHeartbeats 4000000 in
set_option maxRecDepth 100000 in
/-- recall(letter) -/
theorem cM_recall (l : Launch) (D : va_G) (tys : List (ClassId × FieldType)) (A : Nat → Prop) (ws : va_W) (cI : ClassId) (hI : tys[0]? = some (cI, .int)) (ad : Nat → Nat) (km : Nat) (v : Nat → Int32) (F : Nat → Nat → Int32) (n : Nat) (S : Nat → List Nat) (hS0 : MLs v F n S) (ls9 : List Nat) (B : Nat → List Nat) (hB0 : MBs v F ls9 B) (c9 s9 : Nat) (hc9 : c9 < 26) (hs9 : s9 < ls9.length) (hlix : lix ls9 c9 = nI s9) (hn1 : 1 ≤ n) (hrow : S (n - 1) = []) (hM : ModF cI ad ws km v F) : x_Mv l yM_recall wM_recall (xR 1) D xCl tys A [.ref (ad km), .int (nI c9)] ws (fun ws1 => x_fr km (km + 24) ws ws1 ∧ ∃ v9 F9, ModF cI ad ws1 km v9 F9 ∧ MLs v9 F9 n (updJ S (n - 1) (B s9)) ∧ vk [28] v v9 ∧ fk [14, 15] F F9) := by
  have hF : x_fr km (km + 24) ws ws := x_fr.rf
  obtain ⟨hv28, hn60, hSi⟩ := id hS0
  have hbs := hB0.2.2 s9 hs9
  have hb29 := hB0.1
  have hb12 := hB0.2.1
  have hb30 := hbs.2.2.2.1
  refine x_enter (by decide) rfl (Nat.le_of_ble_eq_true rfl) (fun p e s m args below meth c ls hx hb hr hlk hml hown hnm hts hK hP hD hS hA hN hl => ?_)
  have hl : lv_has ls 4 [(0, .ref (ad km)), (1, .int (nI c9))] := hl
  have loop_25 : ∀ (fu9 : Nat) (i : Nat) (v1 : Nat → Int32) (F1 : Nat → Nat → Int32) (ws1 : va_W) (H : Heap) (locs : List Loc) (ls : Array Slot), x_fr km (km + 24) ws ws1 → ModF cI ad ws1 km v1 F1 → vk [28] v v1 → fk [14, 15] F F1 → i ≤ (B s9).length → MLs v1 F1 n (updJ S (n - 1) ((B s9).take i)) → (B s9).length - i < fu9 → va_P D xCl ws1 H → va_D A ws1 → va_S A s.heap H locs → lv_has ls 4 [(0, .ref (ad km)), (1, .int (nI c9)), (2, .int (nI s9)), (3, .int (nI i))] → W p l e (xR 1) s m args below meth c H locs 0 0 (MQ below (va_Qv (fun ws1 => x_fr km (km + 24) ws ws1 ∧ ∃ v9 F9, ModF cI ad ws1 km v9 F9 ∧ MLs v9 F9 n (updJ S (n - 1) (B s9)) ∧ vk [28] v v9 ∧ fk [14, 15] F F9) (x_B D xCl tys A) A) args s 0 0 A) (F0 m 25 ls []) := by
    intro fu9
    induction fu9 with
    | zero => intro i v1 F1 ws1 H locs ls hF hM hvk hfk hi hS1 hme; exact absurd hme (Nat.not_lt_zero _)
    | succ fu9 ih =>
      intro i v1 F1 ws1 H locs ls hF hM hvk hfk hi hS1 hme hP hD hS hl
      refine lv_iload_n hx hb dM_recall_25 rfl (lv_at hl 3 rfl) ?_
      refine lv_aload_n hx hb dM_recall_26 rfl (lv_at hl 0 rfl) ?_
      refine va_get (D := D) (cl := xCl) (ci := 7) (v := .ref (ad (km + 17))) (C := rnM) (T := tbM) (N := 39) hx hb hts inM hown hK hP km hM.1 rfl 26 (by decide) (hts _ tw_643) (fun _ h9 => h9) rfl dM_recall_27 ?_
      refine lv_iload_n hx hb dM_recall_30 rfl (lv_at hl 2 rfl) ?_
      refine va_iald hx hb hK hP (km + 17) 0 (hM.a 17 20 rfl (by omega) (by omega)) hI (vp_in_nI (by omega) (by omega)) dM_recall_31 ?_
      refine lv_topi (fun v_1 ev_1 => ?_)
      obtain rfl : v_1 = nI (B s9).length := by rw [ev_1, nI_clamp (by omega), hfk 17 (by simp)]; exact hbs.2.2.1
      refine lv_icmp_ge (tgt := 56) hx hb dM_recall_32 (by decide) (fun c32 => ?_) (fun c32 => ?_)
      · exact x_vret hx hb hr hlk hK hP hD hS dM_recall_56 ⟨hF, _, _, hM, (by have z9 : (B s9).take i = (B s9) := List.take_of_length_le (by rw [nI_leI (by omega) (by omega)] at c32; exact c32); rw [z9] at hS1; exact hS1), hvk, hfk⟩
      · have hi2 : i < (B s9).length := by rw [nI_leI (by omega) (by omega)] at c32; omega
        have hcap : ((B s9).take i).length < 30 := by rw [List.length_take]; omega
        have ht30 : (B s9)[i] < 30 := hbs.2.2.2.2.1 _ (List.getElem_mem hi2)
        refine lv_aload_n hx hb dM_recall_35 rfl (lv_at hl 0 rfl) ?_
        refine lv_aload_n hx hb dM_recall_36 rfl (lv_at hl 0 rfl) ?_
        refine va_get (D := D) (cl := xCl) (ci := 7) (v := .ref (ad (km + 16))) (C := rnM) (T := tbM) (N := 39) hx hb hts inM hown hK hP km hM.1 rfl 25 (by decide) (hts _ tw_642) (fun _ h9 => h9) rfl dM_recall_37 ?_
        refine lv_bipush (v := 30) hx hb dM_recall_40 (by decide) ?_
        refine lv_iload_n hx hb dM_recall_42 rfl (lv_at hl 2 rfl) ?_
        refine lv_imul hx hb dM_recall_43 ?_
        refine lv_topi (fun v_2 ev_2 => ?_)
        obtain rfl : v_2 = nI (30 * s9) := by rw [ev_2, show (30 : Int32) = nI 30 from rfl, pk_mul]
        refine lv_iload_n hx hb dM_recall_44 rfl (lv_at hl 3 rfl) ?_
        refine lv_iadd hx hb dM_recall_45 ?_
        refine lv_topi (fun v_3 ev_3 => ?_)
        obtain rfl : v_3 = nI (30 * s9 + i) := by rw [ev_3, nI_add]
        refine va_iald hx hb hK hP (km + 16) 0 (hM.a 16 600 rfl (by omega) (by omega)) hI (vp_in_nI (by omega) (by omega)) dM_recall_46 ?_
        refine lv_topi (fun v_4 ev_4 => ?_)
        obtain rfl : v_4 = nI (B s9)[i] := by rw [ev_4, nI_clamp (by omega), hfk 16 (by simp)]; exact hbs.2.2.2.2.2 i hi2
        refine x_callv (x_runV (n := 1) (As := [.int (nI (B s9)[i])]) (rest := []) ⟨hx, hb, hml, hown, hts⟩ (cM_add l D tys A ws1 cI hI ad km v1 F1 n (updJ S (n - 1) ((B s9).take i)) hS1 (B s9)[i] (by omega) (by omega) (by rw [updJ_s]; exact hcap) hM) tw_837 tw_839 ts_M_add tw_8 tw_840 (by decide +kernel) rfl rfl ⟨by decide, by decide⟩ ⟨Nat.zero_le _, Nat.zero_le _⟩ (va_recv hK hP (ci := 7) (q0 := km) rfl hM.1) hK hP hD hS hA hN rfl hl.1 rfl (lv_room (Nat.le_of_ble_eq_true rfl)) dM_recall_47) hS (fun ws_5 H locs had hP hD hS => ?_)
        obtain ⟨hF9, v2, F2, hM, hS2, hvk2, hfk2⟩ := had
        have hF := hF.tr hF9
        rw [updJ_s, updJ_2] at hS2
        refine lv_iinc (v := (nI (i + 1))) (lv' := [(3, .int (nI (i + 1))), (0, .ref (ad km)), (1, .int (nI c9)), (2, .int (nI s9))]) hx hb dM_recall_50 hl (k := 3) rfl (nI_1 _) (by decide) rfl (fun ls hl => ?_)
        refine lv_goto (tgt := 25) hx hb dM_recall_53 (by decide) ?_
        exact ih (i + 1) v2 F2 ws_5 _ _ _ hF hM (hvk.tr hvk2) (hfk.tr hfk2) (by omega) (by rw [List.take_succ_eq_append_getElem hi2]; exact hS2) (by omega) hP hD hS (lv_sub hl [1, 2, 3, 0] rfl)
  have loop_7 : ∀ (fu9 : Nat) (k : Nat) (hkl : k < ls9.length) (ws1 : va_W) (H : Heap) (locs : List Loc) (ls : Array Slot), lix (ls9.take (k + 1)) c9 = nI s9 → ws = ws1 → k < fu9 → va_P D xCl ws1 H → va_D A ws1 → va_S A s.heap H locs → lv_has ls 4 [(0, .ref (ad km)), (1, .int (nI c9)), (2, .int (nI k))] → W p l e (xR 1) s m args below meth c H locs 0 0 (MQ below (va_Qv (fun ws1 => x_fr km (km + 24) ws ws1 ∧ ∃ v9 F9, ModF cI ad ws1 km v9 F9 ∧ MLs v9 F9 n (updJ S (n - 1) (B s9)) ∧ vk [28] v v9 ∧ fk [14, 15] F F9) (x_B D xCl tys A) A) args s 0 0 A) (F0 m 7 ls []) := by
    intro fu9
    induction fu9 with
    | zero => intro k hkl ws1 H locs ls hlx hws hme; exact absurd hme (Nat.not_lt_zero _)
    | succ fu9 ih =>
      intro k hkl ws1 H locs ls hlx hws hme hP hD hS hl
      subst hws
      refine lv_aload_n hx hb dM_recall_7 rfl (lv_at hl 0 rfl) ?_
      refine va_get (D := D) (cl := xCl) (ci := 7) (v := .ref (ad (km + 18))) (C := rnM) (T := tbM) (N := 39) hx hb hts inM hown hK hP km hM.1 rfl 27 (by decide) (hts _ tw_644) (fun _ h9 => h9) rfl dM_recall_8 ?_
      refine lv_iload_n hx hb dM_recall_11 rfl (lv_at hl 2 rfl) ?_
      refine va_iald hx hb hK hP (km + 18) 0 (hM.a 18 20 rfl (by omega) (by omega)) hI (vp_in_nI (by omega) (by omega)) dM_recall_12 ?_
      refine lv_topi (fun v_6 ev_6 => ?_)
      have hbk := hB0.2.2 k hkl
      obtain rfl : v_6 = nI ls9[k] := by rw [ev_6, nI_clamp (by omega)]; exact hbk.1
      have hlt := lix_tk hkl hB0.2.1 hlx (by omega)
      have hbk26 := hbk.2.1
      refine lv_iload_n hx hb dM_recall_13 rfl (lv_at hl 1 rfl) ?_
      refine lv_icmp_eq (tgt := 23) hx hb dM_recall_14 (by decide) (fun c14 => ?_) (fun c14 => ?_)
      · obtain rfl : s9 = k := hlt.1 (by rw [nI_eq (by omega) (by omega)] at c14; exact c14)
        have hbs := hbk
        refine lv_iconst (v := 0) hx hb dM_recall_23 (by decide) ?_
        refine lv_istore_n (lv' := [(3, .int 0), (0, .ref (ad km)), (1, .int (nI c9)), (2, .int (nI s9))]) hx hb dM_recall_24 rfl hl (by decide) rfl (fun ls hl => ?_)
        exact loop_25 _ 0 v F ws _ _ _ hF hM vk.rf fk.rf (Nat.zero_le _) (by rw [List.take_zero]; exact hS0.cg (fun j hj => by by_cases z9 : j = n - 1; (rw [z9, updJ_s, hrow]); (rw [updJ_o9 z9]))) (Nat.lt_succ_self _) hP hD hS (lv_sub hl [1, 2, 3, 0] rfl)
      · obtain ⟨v_7, ev_7⟩ : ∃ y : Int32, y = (nI k) + (-1) := ⟨_, rfl⟩
        refine lv_iinc (v := v_7) (lv' := [(2, .int v_7), (0, .ref (ad km)), (1, .int (nI c9))]) hx hb dM_recall_17 hl (k := 2) rfl (by rw [ev_7]; rfl) (by decide) rfl (fun ls hl => ?_)
        have hne : ¬ ls9[k] = c9 := fun z9 => c14 (by rw [z9])
        have hl2 := hlt.2 hne
        have hl : lv_has ls 4 [(2, .int (nI (k - 1))), (0, .ref (ad km)), (1, .int (nI c9))] := by have z9 : v_7 = nI (k - 1) := (by obtain ⟨k2, rfl⟩ : ∃ k2, k = k2 + 1 := ⟨k - 1, by omega⟩; rw [ev_7]; exact pk_m1 _); rw [← z9]; exact hl
        refine lv_goto (tgt := 7) hx hb dM_recall_20 (by decide) ?_
        exact ih (k - 1) (by omega) ws _ _ _ (by rw [show k - 1 + 1 = k by omega]; exact hl2.1) rfl (by omega) hP hD hS (lv_sub hl [1, 2, 0] rfl)
  refine lv_aload_n hx hb dM_recall_0 rfl (lv_at hl 0 rfl) ?_
  refine va_get (D := D) (cl := xCl) (ci := 7) (v := .int (v 29)) (C := rnM) (T := tbM) (N := 39) hx hb hts inM hown hK hP km hM.1 rfl 29 (by decide) (hts _ tw_646) (fun _ h9 => h9) rfl dM_recall_1 ?_
  refine lv_iconst (v := 1) hx hb dM_recall_4 (by decide) ?_
  refine lv_isub hx hb dM_recall_5 ?_
  refine lv_topi (fun v_8 ev_8 => ?_)
  obtain rfl : v_8 = nI (ls9.length - 1) := by rw [ev_8, hb29, show (1 : Int32) = nI 1 from rfl, pk_sub (by omega)]
  refine lv_istore_n (lv' := [(2, .int (nI (ls9.length - 1))), (0, .ref (ad km)), (1, .int (nI c9))]) hx hb dM_recall_6 rfl hl (by decide) rfl (fun ls hl => ?_)
  exact loop_7 _ (ls9.length - 1) (by omega) ws _ _ _ (by rw [show ls9.length - 1 + 1 = ls9.length by omega, List.take_length]; exact hlix) rfl (Nat.lt_succ_self _) hP hD hS (lv_sub hl [1, 2, 0] rfl)
