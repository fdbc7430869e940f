theorem MR_mk {g : Gr} {L : List Nat} {lk : Nat} {mi : Int32} {v v1 : Nat → Int32} {F F1 : Nat → Nat → Int32} (h : MGr g v F) (e1 : v1 1 = v 1) (eF : ∀ j ∈ [1, 2, 3, 4, 5], F1 j = F j) (h8 : v1 8 = 0) (h34 : v1 34 = nI L.length) (hL : L.length ≤ 30) (hA : ∀ (i : Nat) (h : i < L.length), F1 19 i = nI L[i]) (h35 : v1 35 = nI lk) (h36 : v1 36 = mi) (hmi : mi = -1 ∨ ∃ n : Nat, n < 60 ∧ mi = nI n) : MR (g, [], L, lk, mi) v1 F1 :=
  ⟨h.c2 e1 (eF 1 (by simp)) (eF 2 (by simp)) (eF 3 (by simp)) (eF 4 (by simp)) (eF 5 (by simp)), ⟨h8, Nat.zero_le _, fun i hi => absurd hi (Nat.not_lt_zero _), fun c hc => by cases hc⟩, ⟨h34, hL, hA⟩, h35, h36, hmi⟩
theorem zs_nm {a b : Za} {z : Zt} (h : zs a b z) (h2 : z.2.1 = 2) : ∃ w, w < 60 ∧ z.2.2.1 = nI w := by
  rcases h with ⟨-, -, h⟩ | ⟨-, -, -, h⟩ | ⟨-, -, -, K, pl, hK, h⟩ | ⟨-, -, c, pl, -, -, h, -⟩ | ⟨c, ls, -, -, h, -⟩
  · rcases h with ⟨w, pl, hw, h⟩ | ⟨w, pl, h⟩ | ⟨s, c, pl, pl2, -, -, -, h⟩
    · subst h; exact ⟨w, hw, rfl⟩
    · subst h; exact absurd h2 (show ¬ (5 : Int32) = 2 by decide)
    · subst h; exact absurd h2 (show ¬ (3 : Int32) = 2 by decide)
  · rcases h with ⟨K, R, pl, hK, -, h | ⟨-, h⟩⟩ | ⟨w, pl, h⟩ | ⟨K, pl, hK, h⟩
    · subst h; exact absurd h2 (show ¬ K = 2 by rcases hK with rfl | rfl <;> decide)
    · subst h; exact absurd h2 (show ¬ K = 2 by rcases hK with rfl | rfl <;> decide)
    · subst h; exact absurd h2 (show ¬ (9 : Int32) = 2 by decide)
    · subst h; exact absurd h2 (show ¬ K = 2 by rcases hK with rfl | rfl <;> decide)
  · subst h; exact absurd h2 (show ¬ K = 2 by rcases hK with rfl | rfl | rfl | rfl <;> decide)
  · subst h; exact absurd h2 (show ¬ (20 : Int32) = 2 by decide)
  · subst h; exact absurd h2 (show ¬ (21 : Int32) = 2 by decide)
theorem zrun_nm : ∀ {Z : List Zt} {a b : Za}, zrun a Z b → ∀ t ∈ mz Z, t.1 = 2 → ∃ w, w < 60 ∧ t.2.1 = nI w := by
  intro Z
  induction Z with
  | nil => intro a b _ t ht; cases ht
  | cons z Z ih =>
    intro a b h t ht h2
    obtain ⟨m, h3, h4⟩ := h
    rcases List.mem_cons.mp ht with e | e
    · rw [e] at h2 ⊢; exact zs_nm h3 h2
    · exact ih h4 t e h2
theorem find_at {g : Gr} {O : List Tok} {k : Nat} (hk : k < O.length) (hno : ∀ (j : Nat) (h : j < O.length), j < k → unk g O[j] = false) (h : unk g O[k] = true) : O.find? (unk g) = some O[k] := by
  rw [List.find?_eq_some_iff_append]
  refine ⟨h, O.take k, O.drop (k + 1), ?_, ?_⟩
  · rw [← List.drop_eq_getElem_cons hk, List.take_append_drop]
  · intro a ha
    obtain ⟨j, hj, ej⟩ := List.getElem_of_mem ha
    rw [List.length_take] at hj
    rw [List.getElem_take] at ej
    rw [← ej, hno j (by omega) (by omega)]; rfl
theorem find_no {g : Gr} {O : List Tok} (hno : ∀ (j : Nat) (h : j < O.length), unk g O[j] = false) : O.find? (unk g) = none := by
  rw [List.find?_eq_none]
  intro a ha
  obtain ⟨j, hj, ej⟩ := List.getElem_of_mem ha
  rw [← ej, hno j hj]; decide
theorem mz_at {Z : List Zt} {k : Nat} (h : k < (mz Z).length) : ∃ h2 : k < Z.length, (mz Z)[k] = Z[k].2 := by
  have h2 : k < Z.length := by unfold mz at h; rw [List.length_map] at h; exact h
  exact ⟨h2, List.getElem_map (fun z : Zt => z.2)⟩
theorem zrun_at {Z : List Zt} {a b : Za} {k : Nat} (hk : k < Z.length) (h : zrun a (Z.drop k) b) : ∃ m, zs a m Z[k] ∧ zrun m (Z.drop (k + 1)) b := by
  rw [List.drop_eq_getElem_cons hk] at h
  exact h

set_option maxHeartbeats 4000000 in
set_option maxRecDepth 100000 in
/-- ask() -/
theorem cM_ask (l : Launch) (D : va_G) (tys : List (ClassId × FieldType)) (A : Nat → Prop) (ws : va_W) (cI : ClassId) (hI : tys[0]? = some (cI, .int)) (ad : Nat → Nat) (km : Nat) (v : Nat → Int32) (F : Nat → Nat → Int32) (q : QS) (hR : MR q v F) (sl : Nat → Int32) (J B : Nat → List Nat) (hsl : ∀ c, c < 26 → sl c = -1) (hM : ModF cI ad ws km v F) : x_Mi l yM_ask wM_ask (xR 8) D xCl tys A [.ref (ad km)] ws (fun r ws1 => r = (askF q sl J B).1 ∧ x_fr km (km + 24) ws ws1 ∧ ModelAt cI ad ws1 km (askF q sl J B).2) := by
  have hF : x_fr km (km + 24) ws ws := x_fr.rf
  refine x_enter (by decide) rfl (Nat.le_of_ble_eq_true rfl) (fun p e s m args below meth c ls hx hb hr hlk hml hown hnm hts hK hP hD hS hA hN hl => ?_)
  have hl : lv_has ls 2 [(0, .ref (ad km))] := hl
  have loop_171 : ∀ (fu9 : Nat) (Z : List Zt) (v1 : Nat → Int32) (F1 : Nat → Nat → Int32) (vf : Nat → Int32) (i : Nat) (F3 : Nat → Nat → Int32) (ws1 : va_W) (H : Heap) (locs : List Loc) (ls : Array Slot), x_fr km (km + 24) ws ws1 → kpR (setV v 0 0) F v1 F1 → (((pS9 (spT q.2.1 0) sl).1 = true ∧ (tkAt (spT q.2.1 0) (pS9 (spT q.2.1 0) sl).2).1 = 0)) → (pS9 (spT q.2.1 0) sl).2.2.1 = cz Z → zrun (0, []) Z (1, []) → OrS v1 F1 (mz Z) → ModF cI ad ws1 km vf F3 → i ≤ ((Z.foldl (zex q.1) (0, J, B, 0)).2.1 0).length → vf 34 = nI ((Z.foldl (zex q.1) (0, J, B, 0)).2.1 0).length → vf 35 = nI (Z.foldl (zex q.1) (0, J, B, 0)).2.2.2 → vf 36 = q.2.2.2.2 → vf 1 = v1 1 → vf 8 = 0 → fk [14, 15, 16, 17, 18, 19, 20, 21] F1 F3 → (((Z.foldl (zex q.1) (0, J, B, 0)).2.1 0).length ≤ 30 ∧ F3 15 0 = nI ((Z.foldl (zex q.1) (0, J, B, 0)).2.1 0).length ∧ (∀ t ∈ ((Z.foldl (zex q.1) (0, J, B, 0)).2.1 0), t < 30) ∧ ∀ (j : Nat) (h : j < ((Z.foldl (zex q.1) (0, J, B, 0)).2.1 0).length), F3 14 (30 * 0 + j) = nI ((Z.foldl (zex q.1) (0, J, B, 0)).2.1 0)[j]) → (∀ (j : Nat), j < i → ∀ (h2 : j < ((Z.foldl (zex q.1) (0, J, B, 0)).2.1 0).length), F3 19 j = nI ((Z.foldl (zex q.1) (0, J, B, 0)).2.1 0)[j]) → (cz Z).find? (unk q.1) = none → ((Z.foldl (zex q.1) (0, J, B, 0)).2.1 0).length - i < fu9 → va_P D xCl ws1 H → va_D A ws1 → va_S A s.heap H locs → lv_has ls 2 [(0, .ref (ad km)), (1, .int (nI i))] → W p l e (xR 8) s m args below meth c H locs 0 0 (MQ below (va_Qi (fun r ws1 => r = (askF q sl J B).1 ∧ x_fr km (km + 24) ws ws1 ∧ ModelAt cI ad ws1 km (askF q sl J B).2) (x_B D xCl tys A) A) args s 0 0 A) (F0 m 171 ls []) := by
    intro fu9
    induction fu9 with
    | zero => intro Z v1 F1 vf i F3 ws1 H locs ls hF hkp hy eZ hz0 hO hM hi h34 h35 h36 h1f h8 hfkf hrow han hnz hme; exact absurd hme (Nat.not_lt_zero _)
    | succ fu9 ih =>
      intro Z v1 F1 vf i F3 ws1 H locs ls hF hkp hy eZ hz0 hO hM hi h34 h35 h36 h1f h8 hfkf hrow han hnz hme hP hD hS hl
      have hgl : q.1.length ≤ 30 := hR.1.1.1
      have hO150 := hO.2.1
      have hvk1 : ∀ j, j ∉ [9, 10, 11, 12, 13, 18, 22] → v1 j = setV v 0 0 j := hkp.1
      have hfk1 : ∀ j, j ∉ [7, 8, 9, 10, 11, 12, 13] → F1 j = F j := hkp.2
      have hg1 : MGr q.1 v1 F1 := hR.1.c2 (by rw [hvk1 1 (by simp)]; rfl) (hfk1 1 (by simp)) (hfk1 2 (by simp)) (hfk1 3 (by simp)) (hfk1 4 (by simp)) (hfk1 5 (by simp))
      have hfkM : ∀ j ∈ [1, 2, 3, 4, 5], F3 j = F1 j := fun j hj => hfkf j (by simp at hj; rcases hj with rfl | rfl | rfl | rfl | rfl <;> simp)
      have hr30 := hrow.1
      refine lv_iload_n hx hb dM_ask_171 rfl (lv_at hl 1 rfl) ?_
      refine lv_aload_n hx hb dM_ask_172 rfl (lv_at hl 0 rfl) ?_
      refine va_get (D := D) (cl := xCl) (ci := 7) (v := .int (vf 34)) (C := rnM) (T := tbM) (N := 39) hx hb hts inM hown hK hP km hM.1 rfl 34 (by decide) (hts _ tw_651) (fun _ h9 => h9) rfl dM_ask_173 ?_
      refine lv_icmp_ge (tgt := 197) hx hb dM_ask_176 (by decide) (fun c176 => ?_) (fun c176 => ?_)
      · refine lv_aload_n hx hb dM_ask_197 rfl (lv_at hl 0 rfl) ?_
        refine va_get (D := D) (cl := xCl) (ci := 7) (v := .int (vf 34)) (C := rnM) (T := tbM) (N := 39) hx hb hts inM hown hK hP km hM.1 rfl 34 (by decide) (hts _ tw_651) (fun _ h9 => h9) rfl dM_ask_198 ?_
        exact x_iret hx hb hr hlk hK hP hD hS dM_ask_201 (by have hnone : (cz Z).find? (unk q.1) = none := hnz; have ea : askF q sl J B = askR q J B (cz Z) := (by rw [askF_yes hy, eZ]); rw [ea, askR_none hnone, ← zex_fold]; exact ⟨h34, hF, _, _, hM, MR_mk hg1 h1f hfkM h8 h34 hrow.1 (fun j hj => han j (by rw [h34, nI_leI (by omega) (by omega)] at c176; omega) hj) h35 h36 hR.2.2.2.2.2⟩)
      · have hi2 : i < ((Z.foldl (zex q.1) (0, J, B, 0)).2.1 0).length := by rw [h34, nI_leI (by omega) (by omega)] at c176; omega
        refine lv_aload_n hx hb dM_ask_179 rfl (lv_at hl 0 rfl) ?_
        refine va_get (D := D) (cl := xCl) (ci := 7) (v := .ref (ad (km + 19))) (C := rnM) (T := tbM) (N := 39) hx hb hts inM hown hK hP km hM.1 rfl 31 (by decide) (hts _ tw_648) (fun _ h9 => h9) rfl dM_ask_180 ?_
        refine lv_iload_n hx hb dM_ask_183 rfl (lv_at hl 1 rfl) ?_
        refine lv_aload_n hx hb dM_ask_184 rfl (lv_at hl 0 rfl) ?_
        refine va_get (D := D) (cl := xCl) (ci := 7) (v := .ref (ad (km + 14))) (C := rnM) (T := tbM) (N := 39) hx hb hts inM hown hK hP km hM.1 rfl 23 (by decide) (hts _ tw_640) (fun _ h9 => h9) rfl dM_ask_185 ?_
        refine lv_iload_n hx hb dM_ask_188 rfl (lv_at hl 1 rfl) ?_
        refine va_iald hx hb hK hP (km + 14) 0 (hM.a 14 1800 rfl (by omega) (by omega)) hI (vp_in_nI (by omega) (by omega)) dM_ask_189 ?_
        refine lv_topi (fun v_1 ev_1 => ?_)
        obtain rfl : v_1 = nI ((Z.foldl (zex q.1) (0, J, B, 0)).2.1 0)[i] := by rw [ev_1, nI_clamp (by omega)]; have z9 := hrow.2.2.2 i hi2; rw [Nat.mul_zero, Nat.zero_add] at z9; exact z9
        refine va_iast hx hb hK hP hD hS (km + 19) 0 (hM.a 19 30 rfl (by omega) (by omega)) hI (vp_in_nI (by omega) (by omega)) dM_ask_190 (fun H locs hP hD hS => ?_)
        obtain ⟨ws_3, hu_2, hP, hD⟩ := x_gen (hM.a 19 30 rfl (by omega) (by omega)) hP hD
        have hM : ModF cI ad ws_3 km vf (setF F3 19 ((upd (F3 19) ((nI i)).toNatClampNeg ((nI ((Z.foldl (zex q.1) (0, J, B, 0)).2.1 0)[i]))))) := hM.arr 19 30 rfl (by omega) (by omega) hu_2
        have hF := hF.tr (hu_2.fr (a := km) (b := km + 24) (by omega) (by omega))
        refine lv_iinc (v := (nI (i + 1))) (lv' := [(1, .int (nI (i + 1))), (0, .ref (ad km))]) hx hb dM_ask_191 hl (k := 1) rfl (nI_1 _) (by decide) rfl (fun ls hl => ?_)
        refine lv_goto (tgt := 171) hx hb dM_ask_194 (by decide) ?_
        exact ih Z v1 F1 vf (i + 1) (setF F3 19 ((upd (F3 19) ((nI i)).toNatClampNeg ((nI ((Z.foldl (zex q.1) (0, J, B, 0)).2.1 0)[i]))))) ws_3 _ _ _ hF hkp hy eZ hz0 hO hM (by omega) h34 h35 h36 h1f h8 (hfkf.tr (fk_s (by simp))) hrow (fun j hj hj2 => by show upd (F3 19) (nI i).toNatClampNeg (nI ((Z.foldl (zex q.1) (0, J, B, 0)).2.1 0)[i]) j = _; rw [nI_clamp (by omega)]; by_cases z9 : j = i; (subst z9; rw [upd_s9]); (rw [upd_o z9]; exact han j (by omega) hj2)) hnz (by omega) hP hD hS (lv_sub hl [1, 0] rfl)
  have loop_121 : ∀ (fu9 : Nat) (Z : List Zt) (v1 : Nat → Int32) (F1 : Nat → Nat → Int32) (k : Nat) (a9 : Za) (v2 : Nat → Int32) (F2 : Nat → Nat → Int32) (ws1 : va_W) (H : Heap) (locs : List Loc) (ls : Array Slot), x_fr km (km + 24) ws ws1 → kpR (setV v 0 0) F v1 F1 → (((pS9 (spT q.2.1 0) sl).1 = true ∧ (tkAt (spT q.2.1 0) (pS9 (spT q.2.1 0) sl).2).1 = 0)) → (pS9 (spT q.2.1 0) sl).2.2.1 = cz Z → zrun (0, []) Z (1, []) → OrS v1 F1 (mz Z) → ModF cI ad ws1 km v2 F2 → k ≤ 150 → zrun a9 (Z.drop k) (1, []) → RI q.1 ((Z.take k).foldl (zex q.1) (0, J, B, 0)) a9 → XM v2 F2 ((Z.take k).foldl (zex q.1) (0, J, B, 0)) a9.2 → kpX (setV (setV (setV (setV v1 8 0) 28 0) 29 0) 30 0) F1 v2 F2 → (cz Z).find? (unk q.1) = none → (mz Z).length - k < fu9 → va_P D xCl ws1 H → va_D A ws1 → va_S A s.heap H locs → lv_has ls 2 [(0, .ref (ad km)), (1, .int (nI k))] → W p l e (xR 8) s m args below meth c H locs 0 0 (MQ below (va_Qi (fun r ws1 => r = (askF q sl J B).1 ∧ x_fr km (km + 24) ws ws1 ∧ ModelAt cI ad ws1 km (askF q sl J B).2) (x_B D xCl tys A) A) args s 0 0 A) (F0 m 121 ls []) := by
    intro fu9
    induction fu9 with
    | zero => intro Z v1 F1 k a9 v2 F2 ws1 H locs ls hF hkp hy eZ hz0 hO hM hk9 hzr hri hX hkx hnz hme; exact absurd hme (Nat.not_lt_zero _)
    | succ fu9 ih =>
      intro Z v1 F1 k a9 v2 F2 ws1 H locs ls hF hkp hy eZ hz0 hO hM hk9 hzr hri hX hkx hnz hme hP hD hS hl
      have hgl : q.1.length ≤ 30 := hR.1.1.1
      have hO150 := hO.2.1
      have hvk1 : ∀ j, j ∉ [9, 10, 11, 12, 13, 18, 22] → v1 j = setV v 0 0 j := hkp.1
      have hfk1 : ∀ j, j ∉ [7, 8, 9, 10, 11, 12, 13] → F1 j = F j := hkp.2
      have hg1 : MGr q.1 v1 F1 := hR.1.c2 (by rw [hvk1 1 (by simp)]; rfl) (hfk1 1 (by simp)) (hfk1 2 (by simp)) (hfk1 3 (by simp)) (hfk1 4 (by simp)) (hfk1 5 (by simp))
      have hfkx : ∀ j, j ∉ [14, 15, 16, 17, 18, 20, 21] → F2 j = F1 j := hkx.2
      have hv22 : v2 22 = v1 22 := by rw [hkx.1 22 (by simp)]; rfl
      have hg2 : MGr q.1 v2 F2 := hg1.c2 (by rw [hkx.1 1 (by simp)]; rfl) (hfkx 1 (by simp)) (hfkx 2 (by simp)) (hfkx 3 (by simp)) (hfkx 4 (by simp)) (hfkx 5 (by simp))
      have hkn := kn_of (g := q.1) (Z := Z) (by rw [← find_z q.1 Z _ _ hz0]; exact hnz)
      refine lv_iload_n hx hb dM_ask_121 rfl (lv_at hl 1 rfl) ?_
      refine lv_aload_n hx hb dM_ask_122 rfl (lv_at hl 0 rfl) ?_
      refine va_get (D := D) (cl := xCl) (ci := 7) (v := .int (v2 22)) (C := rnM) (T := tbM) (N := 39) hx hb hts inM hown hK hP km hM.1 rfl 22 (by decide) (hts _ tw_639) (fun _ h9 => h9) rfl dM_ask_123 ?_
      refine lv_icmp_ge (tgt := 151) hx hb dM_ask_126 (by decide) (fun c126 => ?_) (fun c126 => ?_)
      · have hkN : (mz Z).length ≤ k := by rw [hv22, hO.1, nI_leI (by omega) (by omega)] at c126; exact c126
        have hZl : Z.length ≤ k := by unfold mz at hkN; rw [List.length_map] at hkN; exact hkN
        rw [List.drop_eq_nil_of_le hZl] at hzr
        obtain rfl : a9 = (1, []) := hzr
        rw [List.take_of_length_le hZl] at hri hX
        have hq1 : (Z.foldl (zex q.1) (0, J, B, 0)).1 = 1 := hri.1
        have hrow0 := hX.1.2.2 0 (by rw [hq1]; omega)
        refine lv_aload_n hx hb dM_ask_151 rfl (lv_at hl 0 rfl) ?_
        refine lv_aload_n hx hb dM_ask_152 rfl (lv_at hl 0 rfl) ?_
        refine va_get (D := D) (cl := xCl) (ci := 7) (v := .int (v2 30)) (C := rnM) (T := tbM) (N := 39) hx hb hts inM hown hK hP km hM.1 rfl 30 (by decide) (hts _ tw_647) (fun _ h9 => h9) rfl dM_ask_153 ?_
        refine va_put (D := D) (cl := xCl) (ci := 7) (v := .int (v2 30)) (ty := .int) (C := rnM) (T := tbM) (N := 39) hx hb hts inM tyM toM nmM hown hK hP hD hS km hM.1 rfl 35 (by decide) (hts _ tw_652) (fun _ h9 => h9) rfl (by decide +kernel) rfl rfl (Nat.le_of_ble_eq_true rfl) dM_ask_156 (fun H locs hP hD hS => ?_)
        obtain ⟨ws_5, hu_4, hP, hD⟩ := x_gen hM.1 hP hD
        have hM : ModF cI ad ws_5 km (setV v2 35 ((v2 30))) F2 := hM.fld_35 hu_4
        have hF := hF.tr (hu_4.fr (a := km) (b := km + 24) (by omega) (by omega))
        refine lv_aload_n hx hb dM_ask_159 rfl (lv_at hl 0 rfl) ?_
        refine lv_aload_n hx hb dM_ask_160 rfl (lv_at hl 0 rfl) ?_
        refine va_get (D := D) (cl := xCl) (ci := 7) (v := .ref (ad (km + 15))) (C := rnM) (T := tbM) (N := 39) hx hb hts inM hown hK hP km hM.1 rfl 24 (by decide) (hts _ tw_641) (fun _ h9 => h9) rfl dM_ask_161 ?_
        refine lv_iconst (v := 0) hx hb dM_ask_164 (by decide) ?_
        refine va_iald hx hb hK hP (km + 15) 0 (hM.a 15 60 rfl (by omega) (by omega)) hI (vp_in_nI (n := 0) (by omega) (by omega)) dM_ask_165 ?_
        refine lv_topi (fun v_6 ev_6 => ?_)
        obtain rfl : v_6 = nI ((Z.foldl (zex q.1) (0, J, B, 0)).2.1 0).length := by rw [ev_6]; exact hrow0.2.1
        refine va_put (D := D) (cl := xCl) (ci := 7) (v := .int (nI ((Z.foldl (zex q.1) (0, J, B, 0)).2.1 0).length)) (ty := .int) (C := rnM) (T := tbM) (N := 39) hx hb hts inM tyM toM nmM hown hK hP hD hS km hM.1 rfl 34 (by decide) (hts _ tw_651) (fun _ h9 => h9) rfl (by decide +kernel) rfl rfl (Nat.le_of_ble_eq_true rfl) dM_ask_166 (fun H locs hP hD hS => ?_)
        obtain ⟨ws_8, hu_7, hP, hD⟩ := x_gen hM.1 hP hD
        have hM : ModF cI ad ws_8 km (setV (setV v2 35 ((v2 30))) 34 ((nI ((Z.foldl (zex q.1) (0, J, B, 0)).2.1 0).length))) F2 := hM.fld_34 hu_7
        have hF := hF.tr (hu_7.fr (a := km) (b := km + 24) (by omega) (by omega))
        refine lv_iconst (v := 0) hx hb dM_ask_169 (by decide) ?_
        refine lv_istore_n (lv' := [(1, .int 0), (0, .ref (ad km))]) hx hb dM_ask_170 rfl hl (by decide) rfl (fun ls hl => ?_)
        exact loop_171 _ Z v1 F1 (setV (setV v2 35 ((v2 30))) 34 ((nI ((Z.foldl (zex q.1) (0, J, B, 0)).2.1 0).length))) 0 F2 ws_8 _ _ _ hF hkp hy eZ hz0 hO hM (Nat.zero_le _) rfl (by show v2 30 = _; exact hX.2.2) (by show v2 36 = _; rw [hkx.1 36 (by simp)]; show v1 36 = _; rw [hvk1 36 (by simp)]; exact hR.2.2.2.2.1) (by show v2 1 = _; rw [hkx.1 1 (by simp)]; rfl) (by show v2 8 = _; rw [hkx.1 8 (by simp)]; rfl) (hkx.2.wd (by simp)) hrow0 (fun j hj => absurd hj (Nat.not_lt_zero _)) hnz (Nat.lt_succ_self _) hP hD hS (lv_sub hl [1, 0] rfl)
      · have hk2 : k < (mz Z).length := by rw [hv22, hO.1, nI_leI (by omega) (by omega)] at c126; omega
        obtain ⟨hkZ, emz⟩ := mz_at hk2
        obtain ⟨hO1, hO2, hO3⟩ := hO.2.2 k hk2
        rw [emz] at hO1 hO2 hO3
        obtain ⟨m9, hzs, hzr2⟩ := zrun_at hkZ hzr
        have ha9 : a9 = (((Z.take k).foldl (zex q.1) (0, J, B, 0)).1, a9.2) := by rw [hri.1]
        refine lv_aload_n hx hb dM_ask_129 rfl (lv_at hl 0 rfl) ?_
        refine lv_aload_n hx hb dM_ask_130 rfl (lv_at hl 0 rfl) ?_
        refine va_get (D := D) (cl := xCl) (ci := 7) (v := .ref (ad (km + 11))) (C := rnM) (T := tbM) (N := 39) hx hb hts inM hown hK hP km hM.1 rfl 19 (by decide) (hts _ tw_636) (fun _ h9 => h9) rfl dM_ask_131 ?_
        refine lv_iload_n hx hb dM_ask_134 rfl (lv_at hl 1 rfl) ?_
        refine va_iald hx hb hK hP (km + 11) 0 (hM.a 11 200 rfl (by omega) (by omega)) hI (vp_in_nI (by omega) (by omega)) dM_ask_135 ?_
        refine lv_topi (fun v_9 ev_9 => ?_)
        obtain rfl : v_9 = Z[k].2.1 := by rw [ev_9, nI_clamp (by omega), hfkx 11 (by simp)]; exact hO1
        refine lv_aload_n hx hb dM_ask_136 rfl (lv_at hl 0 rfl) ?_
        refine va_get (D := D) (cl := xCl) (ci := 7) (v := .ref (ad (km + 12))) (C := rnM) (T := tbM) (N := 39) hx hb hts inM hown hK hP km hM.1 rfl 20 (by decide) (hts _ tw_637) (fun _ h9 => h9) rfl dM_ask_137 ?_
        refine lv_iload_n hx hb dM_ask_140 rfl (lv_at hl 1 rfl) ?_
        refine va_iald hx hb hK hP (km + 12) 0 (hM.a 12 200 rfl (by omega) (by omega)) hI (vp_in_nI (by omega) (by omega)) dM_ask_141 ?_
        refine lv_topi (fun v_10 ev_10 => ?_)
        have hit9 : ¬ Z[k].2.1 = 5 → v_10 = Z[k].2.2.1 := fun z9 => by rw [ev_10, nI_clamp (by omega), hfkx 12 (by simp)]; exact hO2 z9
        refine x_callv (x_runV (n := 2) (As := [.int Z[k].2.1, .int v_10]) (rest := []) ⟨hx, hb, hml, hown, hts⟩ (cM_does l D tys A ws1 cI hI ad km v2 F2 q.1 hg2 ((Z.take k).foldl (zex q.1) (0, J, B, 0)) a9.2 m9 Z[k] (by rw [← ha9]; exact hzs) (by rw [← ha9]; exact hri) (hkn Z[k] (List.getElem_mem hkZ)) hX v_10 hit9 hM) tw_825 tw_827 ts_M_does tw_8 tw_828 (by decide +kernel) rfl rfl ⟨by decide, by decide⟩ ⟨Nat.zero_le _, Nat.zero_le _⟩ (va_recv hK hP (ci := 7) (q0 := km) rfl hM.1) hK hP hD hS hA hN rfl hl.1 rfl (lv_room (Nat.le_of_ble_eq_true rfl)) dM_ask_142) hS (fun ws_11 H locs hdo hP hD hS => ?_)
        obtain ⟨hF9, v3, F3, hM, hX3, hk3⟩ := hdo
        have hF := hF.tr hF9
        have hri3 := (hri.one hR.1.1 hzs (hkn Z[k] (List.getElem_mem hkZ))).1
        refine lv_iinc (v := (nI (k + 1))) (lv' := [(1, .int (nI (k + 1))), (0, .ref (ad km))]) hx hb dM_ask_145 hl (k := 1) rfl (nI_1 _) (by decide) rfl (fun ls hl => ?_)
        refine lv_goto (tgt := 121) hx hb dM_ask_148 (by decide) ?_
        exact ih Z v1 F1 (k + 1) m9 v3 F3 ws_11 _ _ _ hF hkp hy eZ hz0 hO hM (by omega) hzr2 (by rw [take_foldl (zex q.1) (0, J, B, 0) Z hkZ]; exact hri3) (by rw [take_foldl (zex q.1) (0, J, B, 0) Z hkZ]; exact hX3) ⟨hkx.1.tr hk3.1, hkx.2.tr hk3.2⟩ hnz (by omega) hP hD hS (lv_sub hl [1, 0] rfl)
  have loop_31 : ∀ (fu9 : Nat) (Z : List Zt) (v1 : Nat → Int32) (F1 : Nat → Nat → Int32) (k : Nat) (ws1 : va_W) (H : Heap) (locs : List Loc) (ls : Array Slot), x_fr km (km + 24) ws ws1 → kpR (setV v 0 0) F v1 F1 → (((pS9 (spT q.2.1 0) sl).1 = true ∧ (tkAt (spT q.2.1 0) (pS9 (spT q.2.1 0) sl).2).1 = 0)) → (pS9 (spT q.2.1 0) sl).2.2.1 = cz Z → zrun (0, []) Z (1, []) → OrS v1 F1 (mz Z) → ModF cI ad ws1 km (setV v1 8 0) F1 → k ≤ 150 → (∀ (j : Nat) (h : j < (mz Z).length), j < k → unk q.1 (mz Z)[j] = false) → (mz Z).length - k < fu9 → va_P D xCl ws1 H → va_D A ws1 → va_S A s.heap H locs → lv_has ls 2 [(0, .ref (ad km)), (1, .int (nI k))] → W p l e (xR 8) s m args below meth c H locs 0 0 (MQ below (va_Qi (fun r ws1 => r = (askF q sl J B).1 ∧ x_fr km (km + 24) ws ws1 ∧ ModelAt cI ad ws1 km (askF q sl J B).2) (x_B D xCl tys A) A) args s 0 0 A) (F0 m 31 ls []) := by
    intro fu9
    induction fu9 with
    | zero => intro Z v1 F1 k ws1 H locs ls hF hkp hy eZ hz0 hO hM hk9 hno hme; exact absurd hme (Nat.not_lt_zero _)
    | succ fu9 ih =>
      intro Z v1 F1 k ws1 H locs ls hF hkp hy eZ hz0 hO hM hk9 hno hme hP hD hS hl
      have hgl : q.1.length ≤ 30 := hR.1.1.1
      have hO150 := hO.2.1
      have hvk1 : ∀ j, j ∉ [9, 10, 11, 12, 13, 18, 22] → v1 j = setV v 0 0 j := hkp.1
      have hfk1 : ∀ j, j ∉ [7, 8, 9, 10, 11, 12, 13] → F1 j = F j := hkp.2
      have hg1 : MGr q.1 v1 F1 := hR.1.c2 (by rw [hvk1 1 (by simp)]; rfl) (hfk1 1 (by simp)) (hfk1 2 (by simp)) (hfk1 3 (by simp)) (hfk1 4 (by simp)) (hfk1 5 (by simp))
      refine lv_iload_n hx hb dM_ask_31 rfl (lv_at hl 1 rfl) ?_
      refine lv_aload_n hx hb dM_ask_32 rfl (lv_at hl 0 rfl) ?_
      refine va_get (D := D) (cl := xCl) (ci := 7) (v := .int ((setV v1 8 0) 22)) (C := rnM) (T := tbM) (N := 39) hx hb hts inM hown hK hP km hM.1 rfl 22 (by decide) (hts _ tw_639) (fun _ h9 => h9) rfl dM_ask_33 ?_
      refine lv_icmp_ge (tgt := 104) hx hb dM_ask_36 (by decide) (fun c36 => ?_) (fun c36 => ?_)
      · refine lv_aload_n hx hb dM_ask_104 rfl (lv_at hl 0 rfl) ?_
        refine lv_iconst (v := 0) hx hb dM_ask_105 (by decide) ?_
        refine va_put (D := D) (cl := xCl) (ci := 7) (v := .int 0) (ty := .int) (C := rnM) (T := tbM) (N := 39) hx hb hts inM tyM toM nmM hown hK hP hD hS km hM.1 rfl 28 (by decide) (hts _ tw_645) (fun _ h9 => h9) rfl (by decide +kernel) rfl rfl (Nat.le_of_ble_eq_true rfl) dM_ask_106 (fun H locs hP hD hS => ?_)
        obtain ⟨ws_13, hu_12, hP, hD⟩ := x_gen hM.1 hP hD
        have hM : ModF cI ad ws_13 km (setV (setV v1 8 0) 28 0) F1 := hM.fld_28 hu_12
        have hF := hF.tr (hu_12.fr (a := km) (b := km + 24) (by omega) (by omega))
        refine lv_aload_n hx hb dM_ask_109 rfl (lv_at hl 0 rfl) ?_
        refine lv_iconst (v := 0) hx hb dM_ask_110 (by decide) ?_
        refine va_put (D := D) (cl := xCl) (ci := 7) (v := .int 0) (ty := .int) (C := rnM) (T := tbM) (N := 39) hx hb hts inM tyM toM nmM hown hK hP hD hS km hM.1 rfl 29 (by decide) (hts _ tw_646) (fun _ h9 => h9) rfl (by decide +kernel) rfl rfl (Nat.le_of_ble_eq_true rfl) dM_ask_111 (fun H locs hP hD hS => ?_)
        obtain ⟨ws_15, hu_14, hP, hD⟩ := x_gen hM.1 hP hD
        have hM : ModF cI ad ws_15 km (setV (setV (setV v1 8 0) 28 0) 29 0) F1 := hM.fld_29 hu_14
        have hF := hF.tr (hu_14.fr (a := km) (b := km + 24) (by omega) (by omega))
        refine lv_aload_n hx hb dM_ask_114 rfl (lv_at hl 0 rfl) ?_
        refine lv_iconst (v := 0) hx hb dM_ask_115 (by decide) ?_
        refine va_put (D := D) (cl := xCl) (ci := 7) (v := .int 0) (ty := .int) (C := rnM) (T := tbM) (N := 39) hx hb hts inM tyM toM nmM hown hK hP hD hS km hM.1 rfl 30 (by decide) (hts _ tw_647) (fun _ h9 => h9) rfl (by decide +kernel) rfl rfl (Nat.le_of_ble_eq_true rfl) dM_ask_116 (fun H locs hP hD hS => ?_)
        obtain ⟨ws_17, hu_16, hP, hD⟩ := x_gen hM.1 hP hD
        have hM : ModF cI ad ws_17 km (setV (setV (setV (setV v1 8 0) 28 0) 29 0) 30 0) F1 := hM.fld_30 hu_16
        have hF := hF.tr (hu_16.fr (a := km) (b := km + 24) (by omega) (by omega))
        refine lv_iconst (v := 0) hx hb dM_ask_119 (by decide) ?_
        refine lv_istore_n (lv' := [(1, .int 0), (0, .ref (ad km))]) hx hb dM_ask_120 rfl hl (by decide) rfl (fun ls hl => ?_)
        exact loop_121 _ Z v1 F1 0 (0, []) (setV (setV (setV (setV v1 8 0) 28 0) 29 0) 30 0) F1 ws_17 _ _ _ hF hkp hy eZ hz0 hO hM (Nat.zero_le _) hz0 (RI0 q.1 J B) ⟨⟨rfl, Nat.zero_le _, fun i hi => absurd hi (Nat.not_lt_zero _)⟩, ⟨rfl, Nat.zero_le _, fun i hi => absurd hi (Nat.not_lt_zero _)⟩, rfl⟩ ⟨vk.rf, fk.rf⟩ (by rw [find_z q.1 Z _ _ hz0]; exact find_no (fun j hj => hno j hj (by rw [show (setV v1 8 0) 22 = v1 22 from rfl, hO.1, nI_leI (by omega) (by omega)] at c36; omega))) (Nat.lt_succ_self _) hP hD hS (lv_sub hl [1, 0] rfl)
      · have hk2 : k < (mz Z).length := by rw [show (setV v1 8 0) 22 = v1 22 from rfl, hO.1, nI_leI (by omega) (by omega)] at c36; omega
        obtain ⟨hO1, hO2, hO3⟩ := hO.2.2 k hk2
        refine lv_aload_n hx hb dM_ask_39 rfl (lv_at hl 0 rfl) ?_
        refine va_get (D := D) (cl := xCl) (ci := 7) (v := .ref (ad (km + 11))) (C := rnM) (T := tbM) (N := 39) hx hb hts inM hown hK hP km hM.1 rfl 19 (by decide) (hts _ tw_636) (fun _ h9 => h9) rfl dM_ask_40 ?_
        refine lv_iload_n hx hb dM_ask_43 rfl (lv_at hl 1 rfl) ?_
        refine va_iald hx hb hK hP (km + 11) 0 (hM.a 11 200 rfl (by omega) (by omega)) hI (vp_in_nI (by omega) (by omega)) dM_ask_44 ?_
        refine lv_topi (fun v_18 ev_18 => ?_)
        obtain rfl : v_18 = (mz Z)[k].1 := by rw [ev_18, nI_clamp (by omega)]; exact hO1
        refine lv_iconst (v := 2) hx hb dM_ask_45 (by decide) ?_
        refine lv_icmp_ne (tgt := 98) hx hb dM_ask_46 (by decide) (fun c46 => ?_) (fun c46 => ?_)
        · refine lv_iinc (v := (nI (k + 1))) (lv' := [(1, .int (nI (k + 1))), (0, .ref (ad km))]) hx hb dM_ask_98 hl (k := 1) rfl (nI_1 _) (by decide) rfl (fun ls hl => ?_)
          refine lv_goto (tgt := 31) hx hb dM_ask_101 (by decide) ?_
          exact ih Z v1 F1 (k + 1) ws1 _ _ _ hF hkp hy eZ hz0 hO hM (by omega) (fun j hj hjk => by by_cases z9 : j = k; (subst z9; exact decide_eq_false (fun z8 => c46 z8.1)); exact hno j hj (by omega)) (by omega) hP hD hS (lv_sub hl [1, 0] rfl)
        · obtain ⟨n9, hn9, en9⟩ := zrun_nm hz0 (mz Z)[k] (List.getElem_mem hk2) c46
          have hval : F1 12 k = nI n9 := by rw [hO2 (by rw [c46]; decide)]; exact en9
          refine lv_aload_n hx hb dM_ask_49 rfl (lv_at hl 0 rfl) ?_
          refine lv_aload_n hx hb dM_ask_50 rfl (lv_at hl 0 rfl) ?_
          refine va_get (D := D) (cl := xCl) (ci := 7) (v := .ref (ad (km + 12))) (C := rnM) (T := tbM) (N := 39) hx hb hts inM hown hK hP km hM.1 rfl 20 (by decide) (hts _ tw_637) (fun _ h9 => h9) rfl dM_ask_51 ?_
          refine lv_iload_n hx hb dM_ask_54 rfl (lv_at hl 1 rfl) ?_
          refine va_iald hx hb hK hP (km + 12) 0 (hM.a 12 200 rfl (by omega) (by omega)) hI (vp_in_nI (by omega) (by omega)) dM_ask_55 ?_
          refine lv_topi (fun v_19 ev_19 => ?_)
          obtain rfl : v_19 = nI n9 := by rw [ev_19, nI_clamp (by omega)]; exact hval
          refine lv_bipush (v := 10) hx hb dM_ask_56 (by decide) ?_
          refine lv_idiv hx hb dM_ask_58 (by decide) ?_
          refine lv_topi (fun v_20 ev_20 => ?_)
          obtain rfl : v_20 = nI (n9 / 10) := by rw [ev_20, show (10 : Int32) = nI 10 from rfl, pk_div (by omega) (by omega) (by omega)]
          refine lv_aload_n hx hb dM_ask_59 rfl (lv_at hl 0 rfl) ?_
          refine va_get (D := D) (cl := xCl) (ci := 7) (v := .ref (ad (km + 12))) (C := rnM) (T := tbM) (N := 39) hx hb hts inM hown hK hP km hM.1 rfl 20 (by decide) (hts _ tw_637) (fun _ h9 => h9) rfl dM_ask_60 ?_
          refine lv_iload_n hx hb dM_ask_63 rfl (lv_at hl 1 rfl) ?_
          refine va_iald hx hb hK hP (km + 12) 0 (hM.a 12 200 rfl (by omega) (by omega)) hI (vp_in_nI (by omega) (by omega)) dM_ask_64 ?_
          refine lv_topi (fun v_21 ev_21 => ?_)
          obtain rfl : v_21 = nI n9 := by rw [ev_21, nI_clamp (by omega)]; exact hval
          refine lv_bipush (v := 10) hx hb dM_ask_65 (by decide) ?_
          refine lv_irem hx hb dM_ask_67 (by decide) ?_
          refine lv_topi (fun v_22 ev_22 => ?_)
          obtain rfl : v_22 = nI (n9 % 10) := by rw [ev_22, show (10 : Int32) = nI 10 from rfl, pk_rem (by omega) (by omega) (by omega)]
          refine x_calli (x_runV (n := 2) (As := [.int (nI (n9 / 10)), .int (nI (n9 % 10))]) (rest := []) ⟨hx, hb, hml, hown, hts⟩ (cM_find l D tys A ws1 cI hI ad km (setV v1 8 0) F1 q.1 (hg1.c2 rfl rfl rfl rfl rfl rfl) (n9 / 10) (n9 % 10) (by omega) (by omega) hM) tw_739 tw_741 ts_M_find tw_8 tw_742 (by decide +kernel) rfl rfl ⟨by decide, by decide⟩ ⟨Nat.zero_le _, Nat.zero_le _⟩ (va_recv hK hP (ci := 7) (q0 := km) rfl hM.1) hK hP hD hS hA hN rfl hl.1 rfl (lv_room (Nat.le_of_ble_eq_true rfl)) dM_ask_68) hS (fun rfi ws_23 H locs hfi hP hD hS => ?_)
          obtain ⟨hfi, rfl⟩ := hfi
          rw [show n9 / 10 * 10 + n9 % 10 = n9 by omega] at hfi
          refine lv_iconst (v := (-1)) hx hb dM_ask_71 (by decide) ?_
          refine lv_icmp_eq (tgt := 78) hx hb dM_ask_72 (by decide) (fun c72 => ?_) (fun c72 => ?_)
          · refine lv_aload_n hx hb dM_ask_78 rfl (lv_at hl 0 rfl) ?_
            refine lv_aload_n hx hb dM_ask_79 rfl (lv_at hl 0 rfl) ?_
            refine va_get (D := D) (cl := xCl) (ci := 7) (v := .ref (ad (km + 12))) (C := rnM) (T := tbM) (N := 39) hx hb hts inM hown hK hP km hM.1 rfl 20 (by decide) (hts _ tw_637) (fun _ h9 => h9) rfl dM_ask_80 ?_
            refine lv_iload_n hx hb dM_ask_83 rfl (lv_at hl 1 rfl) ?_
            refine va_iald hx hb hK hP (km + 12) 0 (hM.a 12 200 rfl (by omega) (by omega)) hI (vp_in_nI (by omega) (by omega)) dM_ask_84 ?_
            refine lv_topi (fun v_24 ev_24 => ?_)
            obtain rfl : v_24 = nI n9 := by rw [ev_24, nI_clamp (by omega)]; exact hval
            refine va_put (D := D) (cl := xCl) (ci := 7) (v := .int (nI n9)) (ty := .int) (C := rnM) (T := tbM) (N := 39) hx hb hts inM tyM toM nmM hown hK hP hD hS km hM.1 rfl 36 (by decide) (hts _ tw_653) (fun _ h9 => h9) rfl (by decide +kernel) rfl rfl (Nat.le_of_ble_eq_true rfl) dM_ask_85 (fun H locs hP hD hS => ?_)
            obtain ⟨ws_26, hu_25, hP, hD⟩ := x_gen hM.1 hP hD
            have hM : ModF cI ad ws_26 km (setV (setV v1 8 0) 36 ((nI n9))) F1 := hM.fld_36 hu_25
            have hF := hF.tr (hu_25.fr (a := km) (b := km + 24) (by omega) (by omega))
            refine lv_bipush (v := (-101)) hx hb dM_ask_88 (by decide) ?_
            refine lv_aload_n hx hb dM_ask_90 rfl (lv_at hl 0 rfl) ?_
            refine va_get (D := D) (cl := xCl) (ci := 7) (v := .ref (ad (km + 13))) (C := rnM) (T := tbM) (N := 39) hx hb hts inM hown hK hP km hM.1 rfl 21 (by decide) (hts _ tw_638) (fun _ h9 => h9) rfl dM_ask_91 ?_
            refine lv_iload_n hx hb dM_ask_94 rfl (lv_at hl 1 rfl) ?_
            refine va_iald hx hb hK hP (km + 13) 0 (hM.a 13 200 rfl (by omega) (by omega)) hI (vp_in_nI (by omega) (by omega)) dM_ask_95 ?_
            refine lv_topi (fun v_27 ev_27 => ?_)
            refine lv_isub hx hb dM_ask_96 ?_
            refine lv_topi (fun v_28 ev_28 => ?_)
            exact x_iret hx hb hr hlk hK hP hD hS dM_ask_97 (by have hfd : (cz Z).find? (unk q.1) = some (mz Z)[k] := (by rw [find_z q.1 Z _ _ hz0]; exact find_at hk2 (fun j hj hjk => hno j hj hjk) (decide_eq_true (show (mz Z)[k].1 = 2 ∧ gNoI q.1 (mz Z)[k].2.1 = -1 from ⟨c46, by rw [en9, gNoI_nI q.1 hn9, ← hfi]; exact c72⟩))); rw [askF_yes hy, eZ, askR_some hfd]; exact ⟨(by rw [ev_28, ev_27, nI_clamp (by omega)]; show -101 - F1 13 k = _; rw [hO3]), hF, _, _, hM, MR_mk hg1 rfl (fun _ _ => rfl) rfl (by show v1 34 = _; rw [hvk1 34 (by simp)]; exact hR.2.2.1.1) hR.2.2.1.2.1 (fun i hi => by rw [hfk1 19 (by simp)]; exact hR.2.2.1.2.2 i hi) (by show v1 35 = _; rw [hvk1 35 (by simp)]; exact hR.2.2.2.1) (by show nI n9 = _; rw [en9]) (Or.inr ⟨n9, hn9, en9⟩)⟩)
          · refine lv_goto (tgt := 98) hx hb dM_ask_75 (by decide) ?_
            refine lv_iinc (v := (nI (k + 1))) (lv' := [(1, .int (nI (k + 1))), (0, .ref (ad km))]) hx hb dM_ask_98 hl (k := 1) rfl (nI_1 _) (by decide) rfl (fun ls hl => ?_)
            refine lv_goto (tgt := 31) hx hb dM_ask_101 (by decide) ?_
            exact ih Z v1 F1 (k + 1) ws1 _ _ _ hF hkp hy eZ hz0 hO hM (by omega) (fun j hj hjk => by by_cases z9 : j = k; (subst z9; exact decide_eq_false (fun z8 => c72 (by rw [hfi, ← gNoI_nI q.1 hn9, ← en9]; exact z8.2))); exact hno j hj (by omega)) (by omega) hP hD hS (lv_sub hl [1, 0] rfl)
  refine lv_aload_n hx hb dM_ask_0 rfl (lv_at hl 0 rfl) ?_
  refine lv_iconst (v := 0) hx hb dM_ask_1 (by decide) ?_
  refine va_put (D := D) (cl := xCl) (ci := 7) (v := .int 0) (ty := .int) (C := rnM) (T := tbM) (N := 39) hx hb hts inM tyM toM nmM hown hK hP hD hS km hM.1 rfl 0 (by decide) (hts _ tw_617) (fun _ h9 => h9) rfl (by decide +kernel) rfl rfl (Nat.le_of_ble_eq_true rfl) dM_ask_2 (fun H locs hP hD hS => ?_)
  obtain ⟨ws_30, hu_29, hP, hD⟩ := x_gen hM.1 hP hD
  have hM : ModF cI ad ws_30 km (setV v 0 0) F := hM.fld_0 hu_29
  have hF := hF.tr (hu_29.fr (a := km) (b := km + 24) (by omega) (by omega))
  refine lv_aload_n hx hb dM_ask_5 rfl (lv_at hl 0 rfl) ?_
  refine x_callv (x_runV (n := 0) (As := []) (rest := []) ⟨hx, hb, hml, hown, hts⟩ (cM_read l D tys A ws_30 cI hI ad km (setV v 0 0) F q.2.1 (MTx_of hR) hM) tw_767 tw_769 ts_M_read tw_8 tw_770 (by decide +kernel) rfl rfl ⟨by decide, by decide⟩ ⟨Nat.zero_le _, Nat.zero_le _⟩ (va_recv hK hP (ci := 7) (q0 := km) rfl hM.1) hK hP hD hS hA hN rfl hl.1 rfl (lv_room (Nat.le_of_ble_eq_true rfl)) dM_ask_6) hS (fun ws_31 H locs hrd hP hD hS => ?_)
  obtain ⟨hF9, v1, F1, hM, hkp, hRd⟩ := hrd
  have hF := hF.tr hF9
  obtain ⟨hRy, hRn⟩ := hRd sl hsl
  refine lv_aload_n hx hb dM_ask_9 rfl (lv_at hl 0 rfl) ?_
  refine lv_iconst (v := 0) hx hb dM_ask_10 (by decide) ?_
  refine va_put (D := D) (cl := xCl) (ci := 7) (v := .int 0) (ty := .int) (C := rnM) (T := tbM) (N := 39) hx hb hts inM tyM toM nmM hown hK hP hD hS km hM.1 rfl 8 (by decide) (hts _ tw_625) (fun _ h9 => h9) rfl (by decide +kernel) rfl rfl (Nat.le_of_ble_eq_true rfl) dM_ask_11 (fun H locs hP hD hS => ?_)
  obtain ⟨ws_33, hu_32, hP, hD⟩ := x_gen hM.1 hP hD
  have hM : ModF cI ad ws_33 km (setV v1 8 0) F1 := hM.fld_8 hu_32
  have hF := hF.tr (hu_32.fr (a := km) (b := km + 24) (by omega) (by omega))
  refine lv_aload_n hx hb dM_ask_14 rfl (lv_at hl 0 rfl) ?_
  refine va_get (D := D) (cl := xCl) (ci := 7) (v := .int (v1 13)) (C := rnM) (T := tbM) (N := 39) hx hb hts inM hown hK hP km hM.1 rfl 13 (by decide) (hts _ tw_630) (fun _ h9 => h9) rfl dM_ask_15 ?_
  refine lv_iconst (v := (-1)) hx hb dM_ask_18 (by decide) ?_
  refine lv_icmp_eq (tgt := 29) hx hb dM_ask_19 (by decide) (fun c19 => ?_) (fun c19 => ?_)
  · have hy : ((pS9 (spT q.2.1 0) sl).1 = true ∧ (tkAt (spT q.2.1 0) (pS9 (spT q.2.1 0) sl).2).1 = 0) := Classical.byContradiction (fun z9 => pl_n hR.2.1.2.1 _ ((hRn z9).symm.trans c19))
    obtain ⟨-, Z, eZ, hz0, hO⟩ := hRy hy
    refine lv_iconst (v := 0) hx hb dM_ask_29 (by decide) ?_
    refine lv_istore_n (lv' := [(1, .int 0), (0, .ref (ad km))]) hx hb dM_ask_30 rfl hl (by decide) rfl (fun ls hl => ?_)
    exact loop_31 _ Z v1 F1 0 ws_33 _ _ _ hF hkp hy eZ hz0 hO hM (Nat.zero_le _) (fun j hj hjk => absurd hjk (Nat.not_lt_zero _)) (Nat.lt_succ_self _) hP hD hS (lv_sub hl [1, 0] rfl)
  · refine lv_iconst (v := (-1)) hx hb dM_ask_22 (by decide) ?_
    refine lv_aload_n hx hb dM_ask_23 rfl (lv_at hl 0 rfl) ?_
    refine va_get (D := D) (cl := xCl) (ci := 7) (v := .int (v1 13)) (C := rnM) (T := tbM) (N := 39) hx hb hts inM hown hK hP km hM.1 rfl 13 (by decide) (hts _ tw_630) (fun _ h9 => h9) rfl dM_ask_24 ?_
    refine lv_isub hx hb dM_ask_27 ?_
    refine lv_topi (fun v_34 ev_34 => ?_)
    exact x_iret hx hb hr hlk hK hP hD hS dM_ask_28 (by have hn9 : ¬ ((pS9 (spT q.2.1 0) sl).1 = true ∧ (tkAt (spT q.2.1 0) (pS9 (spT q.2.1 0) sl).2).1 = 0) := (fun z9 => c19 (hRy z9).1); have ea : askF q sl J B = (-1 - (tkAt (spT q.2.1 0) (pS9 (spT q.2.1 0) sl).2).2.2, (q.1, [], q.2.2)) := if_neg hn9; have hvk1 : ∀ j, j ∉ [9, 10, 11, 12, 13, 18, 22] → v1 j = setV v 0 0 j := hkp.1; have hfk1 : ∀ j, j ∉ [7, 8, 9, 10, 11, 12, 13] → F1 j = F j := hkp.2; rw [ea]; exact ⟨(by rw [ev_34]; show -1 - v1 13 = _; rw [hRn hn9]), hF, _, _, hM, MR_mk hR.1 (by show v1 1 = _; rw [hvk1 1 (by simp)]; rfl) (fun j hj => hfk1 j (by simp at hj; rcases hj with rfl | rfl | rfl | rfl | rfl <;> simp)) rfl (by show v1 34 = _; rw [hvk1 34 (by simp)]; exact hR.2.2.1.1) hR.2.2.1.2.1 (fun i hi => by rw [hfk1 19 (by simp)]; exact hR.2.2.1.2.2 i hi) (by show v1 35 = _; rw [hvk1 35 (by simp)]; exact hR.2.2.2.1) (by show v1 36 = _; rw [hvk1 36 (by simp)]; exact hR.2.2.2.2.1) hR.2.2.2.2.2⟩)
