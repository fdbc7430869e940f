theorem MLs.c2 {v v1 : Nat → Int32} {F F1 : Nat → Nat → Int32} {n : Nat} {S : Nat → List Nat} (h : MLs v F n S) (e1 : v1 28 = v 28) (e2 : F1 14 = F 14) (e3 : F1 15 = F 15) : MLs v1 F1 n S := by
  obtain ⟨h1, h2, h3⟩ := h
  refine ⟨e1.trans h1, h2, fun i hi => ?_⟩
  rw [e2, e3]
  exact h3 i hi
theorem MGr.c2 {g : Gr} {v v1 : Nat → Int32} {F F1 : Nat → Nat → Int32} (h : MGr g v F) (e1 : v1 1 = v 1) (e2 : F1 1 = F 1) (e3 : F1 2 = F 2) (e4 : F1 3 = F 3) (e5 : F1 4 = F 4) (e6 : F1 5 = F 5) : MGr g v1 F1 := by
  unfold MGr at h ⊢
  rw [e1, e2, e3, e4, e5, e6]
  exact h
theorem gRow.len {g : Gr} (hg : g.length ≤ 30) {L : List Nat} (h : gRow g L) : L.length ≤ 30 := nodup_len 30 L h.1 (fun t ht => Nat.lt_of_lt_of_le (h.2 t ht) hg)
theorem gRow.cap {g : Gr} (hg : g.length ≤ 30) {L : List Nat} (h : gRow g L) {u : Nat} (hu : u < g.length) (hn : u ∉ L) : L.length < 30 := by
  have : gRow g (L ++ [u]) := by
    refine ⟨?_, fun t ht => ?_⟩
    · rw [List.nodup_append]
      refine ⟨h.1, by simp, ?_⟩
      intro a ha b hb e
      rw [List.mem_singleton] at hb
      exact hn (by rw [← hb, ← e]; exact ha)
    · rcases List.mem_append.mp ht with z | z
      · exact h.2 t z
      · rw [List.mem_singleton] at z; rw [z]; exact hu
  have := this.len hg
  rw [List.length_append, List.length_singleton] at this
  omega
/-- the neighbours of t that were looked at, j of them -/
def nbj (bk : Bool) (g : Gr) (t j : Nat) : List Nat := if bk = true then (List.range j).filter (fun u => decide (t ∈ gD g u)) else (gD g t).take j
def nbB (bk : Bool) (g : Gr) : Nat → List Nat := if bk = true then gU g else gD g
theorem nbj_0 (bk : Bool) (g : Gr) (t : Nat) : nbj bk g t 0 = [] := by unfold nbj; split <;> rfl
theorem nbj_f {g : Gr} {t j : Nat} {x : BX} (h : j < (gD g t).length) : bN t x (nbj false g t (j + 1)) = bn t (bN t x (nbj false g t j)) ((gD g t).getD j 0) := by
  show ((gD g t).take (j + 1)).foldl (bn t) x = _
  rw [take_foldl (bn t) x _ h, getD_in h]
  rfl
theorem nbj_t1 {g : Gr} {t j : Nat} {x : BX} (h : t ∈ gD g j) : bN t x (nbj true g t (j + 1)) = bn t (bN t x (nbj true g t j)) j := by
  show ((List.range (j + 1)).filter (fun u => decide (t ∈ gD g u))).foldl (bn t) x = _
  rw [List.range_succ, List.filter_append, List.foldl_append]
  rw [show List.filter (fun u => decide (t ∈ gD g u)) [j] = [j] by simp [h]]
  rfl
theorem nbj_t0 {g : Gr} {t j : Nat} {x : BX} (h : ¬ t ∈ gD g j) : bN t x (nbj true g t (j + 1)) = bN t x (nbj true g t j) := by
  show ((List.range (j + 1)).filter (fun u => decide (t ∈ gD g u))).foldl (bn t) x = _
  rw [List.range_succ, List.filter_append, List.foldl_append]
  rw [show List.filter (fun u => decide (t ∈ gD g u)) [j] = [] by simp [h]]
  rfl
theorem nbj_ef {g : Gr} {t : Nat} : nbj false g t (gD g t).length = nbB false g t := by show (gD g t).take _ = gD g t; rw [List.take_length]
theorem nbj_et {g : Gr} (hg : g.length ≤ 30) {t : Nat} : nbj true g t g.length = nbB true g t := (gU_range hg t).symm
theorem nbB_lt {bk : Bool} {g : Gr} (hg : GrOK g) : ∀ t u, u ∈ nbB bk g t → u < g.length := by
  cases bk
  · exact gD_lt hg
  · exact gU_lt
theorem bN_row {g : Gr} {t : Nat} {x : BX} {R : List Nat} (h : gRow g x.1) (hR : ∀ u ∈ R, u < g.length) : gRow g (bN t x R).1 := by
  rw [bN_1]
  exact ⟨addL_nd _ _ h.1, fun u hu => by rw [addL_mem] at hu; exact hu.elim (h.2 u) (hR u)⟩
theorem bn_in {t : Nat} {x : BX} {u : Nat} (h : u ∈ x.1) : bn t x u = x := if_pos h
theorem bn_out {t : Nat} {x : BX} {u : Nat} (h : u ∉ x.1) : bn t x u = (x.1 ++ [u], upd x.2.1 u (nI t), upd x.2.2 u (x.2.2 t + 1)) := if_neg h
theorem bq_s {nb : Nat → List Nat} {mo : Int32} {k : Nat} {x : BX} (hk : k < x.1.length) (h30 : k < 30) : bq nb mo (30 - k) k x = bq nb mo (30 - (k + 1)) (k + 1) (bst nb mo (x.1.getD k 0) x) := by
  rw [show 30 - k = (30 - (k + 1)) + 1 by omega]
  exact if_pos hk

theorem fk_s {a : List Nat} {F : Nat → Nat → Int32} {j : Nat} {f : Nat → Int32} (h : j ∈ a) : fk a F (setF F j f) := fun i hi => if_neg (fun (e : i = j) => hi (by rw [e]; exact h))
theorem flt_mono {p : Nat → Bool} {a b u : Nat} (h : u ∈ (List.range a).filter p) (hab : a ≤ b) : u ∈ (List.range b).filter p := by
  rw [List.mem_filter, List.mem_range] at h ⊢
  exact ⟨by omega, h.2⟩

set_option maxHeartbeats 4000000 in
set_option maxRecDepth 100000 in
/-- reach(false, most) -/
theorem cM_reach_f (l : Launch) (D : va_G) (tys : List (ClassId × FieldType)) (A : Nat → Prop) (ws : va_W) (cI : ClassId) (hI : tys[0]? = some (cI, .int)) (ad : Nat → Nat) (km : Nat) (v : Nat → Int32) (F : Nat → Nat → Int32) (n : Nat) (S : Nat → List Nat) (hS0 : MLs v F n S) (g : Gr) (hg : MGr g v F) (mo : Int32) (hn1 : 1 ≤ n) (hn58 : n < 59) (hgr : gRow g (S (n - 1))) (hM : ModF cI ad ws km v F) : x_Mv l yM_reach wM_reach (xR 2) D xCl tys A [.ref (ad km), .int 0, .int mo] ws (fun ws1 => x_fr km (km + 24) ws ws1 ∧ ∃ v9 F9 x0, ModF cI ad ws1 km v9 F9 ∧ x0.1 = S (n - 1) ∧ (∀ u ∈ S (n - 1), x0.2.1 u = -1 ∧ x0.2.2 u = 0) ∧ MLs v9 F9 (n + 1) (updJ S n (bq (nbB false g) mo 30 0 x0).1) ∧ F9 20 = (bq (nbB false g) mo 30 0 x0).2.1 ∧ F9 21 = (bq (nbB false g) mo 30 0 x0).2.2 ∧ vk [28] v v9 ∧ fk [14, 15, 20, 21] F F9) := by
  have hF : x_fr km (km + 24) ws ws := x_fr.rf
  obtain ⟨hv28, hn60, hSi⟩ := id hS0
  have hgo := hg.1
  have hgl : g.length ≤ 30 := hgo.1
  refine x_enter (by decide) rfl (Nat.le_of_ble_eq_true rfl) (fun p e s m args below meth c ls hx hb hr hlk hml hown hnm hts hK hP hD hS hA hN hl => ?_)
  have hl : lv_has ls 9 [(0, .ref (ad km)), (1, .int 0), (2, .int mo)] := hl
  have loop_158 : ∀ (fu9 : Nat) (k : Nat) (t : Nat) (j : Nat) (x : BX) (v1 : Nat → Int32) (F1 : Nat → Nat → Int32) (ws1 : va_W) (H : Heap) (locs : List Loc) (ls : Array Slot), x_fr km (km + 24) ws ws1 → ModF cI ad ws1 km v1 F1 → vk [28] v v1 → fk [14, 15, 20, 21] F F1 → MLs v1 F1 (n + 1) (updJ S n (bN t x (nbj false g t j)).1) → F1 20 = (bN t x (nbj false g t j)).2.1 → F1 21 = (bN t x (nbj false g t j)).2.2 → j ≤ (gD g t).length → t < g.length → k < 30 → gRow g x.1 → (gD g t).length - j < fu9 → va_P D xCl ws1 H → va_D A ws1 → va_S A s.heap H locs → lv_has ls 9 [(0, .ref (ad km)), (1, .int 0), (2, .int mo), (3, .int (nI (n - 1))), (4, .int (nI k)), (5, .int (nI t)), (6, .int (nI (gD g t).length)), (7, .int (nI j))] → (∀ (v3 : Nat → Int32) (F3 : Nat → Nat → Int32) (ws2 : va_W) (H2 : Heap) (locs2 : List Loc) (ls2 : Array Slot), MLs v3 F3 (n + 1) (updJ S n (bN t x ((nbB false g) t)).1) → F3 20 = (bN t x ((nbB false g) t)).2.1 → F3 21 = (bN t x ((nbB false g) t)).2.2 → x_fr km (km + 24) ws ws2 → ModF cI ad ws2 km v3 F3 → vk [28] v v3 → fk [14, 15, 20, 21] F F3 → va_P D xCl ws2 H2 → va_D A ws2 → va_S A s.heap H2 locs2 → lv_has ls2 9 [(0, .ref (ad km)), (1, .int 0), (2, .int mo), (3, .int (nI (n - 1))), (4, .int (nI k))] → W p l e (xR 2) s m args below meth c H2 locs2 0 0 (MQ below (va_Qv (fun ws1 => x_fr km (km + 24) ws ws1 ∧ ∃ v9 F9 x0, ModF cI ad ws1 km v9 F9 ∧ x0.1 = S (n - 1) ∧ (∀ u ∈ S (n - 1), x0.2.1 u = -1 ∧ x0.2.2 u = 0) ∧ MLs v9 F9 (n + 1) (updJ S n (bq (nbB false g) mo 30 0 x0).1) ∧ F9 20 = (bq (nbB false g) mo 30 0 x0).2.1 ∧ F9 21 = (bq (nbB false g) mo 30 0 x0).2.2 ∧ vk [28] v v9 ∧ fk [14, 15, 20, 21] F F9) (x_B D xCl tys A) A) args s 0 0 A) (F0 m 254 ls2 [])) → W p l e (xR 2) s m args below meth c H locs 0 0 (MQ below (va_Qv (fun ws1 => x_fr km (km + 24) ws ws1 ∧ ∃ v9 F9 x0, ModF cI ad ws1 km v9 F9 ∧ x0.1 = S (n - 1) ∧ (∀ u ∈ S (n - 1), x0.2.1 u = -1 ∧ x0.2.2 u = 0) ∧ MLs v9 F9 (n + 1) (updJ S n (bq (nbB false g) mo 30 0 x0).1) ∧ F9 20 = (bq (nbB false g) mo 30 0 x0).2.1 ∧ F9 21 = (bq (nbB false g) mo 30 0 x0).2.2 ∧ vk [28] v v9 ∧ fk [14, 15, 20, 21] F F9) (x_B D xCl tys A) A) args s 0 0 A) (F0 m 158 ls []) := by
    intro fu9
    induction fu9 with
    | zero => intro k t j x v1 F1 ws1 H locs ls hF hM hvk hfk hS1 h20 h21 hj ht hk30 hgx hme; exact absurd hme (Nat.not_lt_zero _)
    | succ fu9 ih =>
      intro k t j x v1 F1 ws1 H locs ls hF hM hvk hfk hS1 h20 h21 hj ht hk30 hgx hme hP hD hS hl K
      obtain ⟨hu28, hu60, hui⟩ := id hS1
      have huL := hui (n - 1) (by omega)
      rw [updJ_o9 (by omega)] at huL
      have huM := hui n (by omega)
      rw [updJ_s] at huM
      have hg1 : MGr g v1 F1 := hg.c2 (hvk 1 (by simp)) (hfk 1 (by simp)) (hfk 2 (by simp)) (hfk 3 (by simp)) (hfk 4 (by simp)) (hfk 5 (by simp))
      have hd8 := (hgo.2.2.2 t).2.1
      refine lv_iload hx hb dM_reach_158 (lv_at hl 7 rfl) ?_
      refine lv_iload hx hb dM_reach_160 (lv_at hl 6 rfl) ?_
      refine lv_icmp_ge (tgt := 254) hx hb dM_reach_162 (by decide) (fun c162 => ?_) (fun c162 => ?_)
      · exact K v1 F1 ws1 _ _ _ (by have z9 : j = (gD g t).length := (by rw [nI_leI (by omega) (by omega)] at c162; omega); rw [z9, nbj_ef] at hS1; exact hS1) (by have z9 : j = (gD g t).length := (by rw [nI_leI (by omega) (by omega)] at c162; omega); rw [z9, nbj_ef] at h20; exact h20) (by have z9 : j = (gD g t).length := (by rw [nI_leI (by omega) (by omega)] at c162; omega); rw [z9, nbj_ef] at h21; exact h21) hF hM hvk hfk hP hD hS (lv_sub hl [0, 1, 2, 3, 4] rfl)
      · have hj2 : j < (gD g t).length := by rw [nI_leI (by omega) (by omega)] at c162; omega
        have hul : (gD g t).getD j 0 < g.length := (hgo.2.2.2 t).2.2 _ (getD_mem hj2)
        have hu30 : ((gD g t).getD j 0) < 30 := by omega
        refine lv_iload_n hx hb dM_reach_165 rfl (lv_at hl 1 rfl) ?_
        refine lv_if_eq (tgt := 174) hx hb dM_reach_166 (by decide) (fun c166 => ?_) (fun c166 => ?_)
        · refine lv_aload_n hx hb dM_reach_174 rfl (lv_at hl 0 rfl) ?_
          refine va_get (D := D) (cl := xCl) (ci := 7) (v := .ref (ad (km + 5))) (C := rnM) (T := tbM) (N := 39) hx hb hts inM hown hK hP km hM.1 rfl 6 (by decide) (hts _ tw_623) (fun _ h9 => h9) rfl dM_reach_175 ?_
          refine lv_bipush (v := 8) hx hb dM_reach_178 (by decide) ?_
          refine lv_iload hx hb dM_reach_180 (lv_at hl 5 rfl) ?_
          refine lv_imul hx hb dM_reach_182 ?_
          refine lv_topi (fun v_1 ev_1 => ?_)
          obtain rfl : v_1 = nI (8 * t) := by rw [ev_1, show (8 : Int32) = nI 8 from rfl, pk_mul]
          refine lv_iload hx hb dM_reach_183 (lv_at hl 7 rfl) ?_
          refine lv_iadd hx hb dM_reach_185 ?_
          refine lv_topi (fun v_2 ev_2 => ?_)
          obtain rfl : v_2 = nI (8 * t + j) := by rw [ev_2, nI_add]
          refine va_iald hx hb hK hP (km + 5) 0 (hM.a 5 240 rfl (by omega) (by omega)) hI (vp_in_nI (by omega) (by omega)) dM_reach_186 ?_
          refine lv_topi (fun v_3 ev_3 => ?_)
          obtain rfl : v_3 = nI ((gD g t).getD j 0) := by rw [ev_3, nI_clamp (by omega)]; exact hg1.2.2.2.2 t j (by omega) hj2
          refine lv_istore (lv' := [(8, .int (nI ((gD g t).getD j 0))), (0, .ref (ad km)), (1, .int 0), (2, .int mo), (3, .int (nI (n - 1))), (4, .int (nI k)), (5, .int (nI t)), (6, .int (nI (gD g t).length)), (7, .int (nI j))]) hx hb dM_reach_187 hl (by decide) rfl (fun ls hl => ?_)
          refine lv_iload_n hx hb dM_reach_189 rfl (lv_at hl 2 rfl) ?_
          refine lv_if_eq (tgt := 204) hx hb dM_reach_190 (by decide) (fun c190 => ?_) (fun c190 => ?_)
          · refine lv_aload_n hx hb dM_reach_204 rfl (lv_at hl 1 rfl) ?_
            refine lv_iconst (v := 0) hx hb dM_reach_205 (by decide) ?_
            refine lv_iload hx hb dM_reach_206 (lv_at hl 0 rfl) ?_
            refine x_calli (x_runV (n := 2) (As := [.int 0, .int (nI ((gD g t).getD j 0))]) (rest := []) ⟨hx, hb, hml, hown, hts⟩ (cM_has l D tys A ws1 cI hI ad km v1 F1 (n + 1) (updJ S n (bN t x (nbj false g t j)).1) hS1 0 ((gD g t).getD j 0) (by omega) (by omega) hM) tw_861 tw_863 ts_M_has tw_8 tw_864 (by decide +kernel) rfl rfl ⟨by decide, by decide⟩ ⟨Nat.zero_le _, Nat.zero_le _⟩ (va_recv hK hP (ci := 7) (q0 := km) rfl hM.1) hK hP hD hS hA hN rfl hl.1 rfl (lv_room (Nat.le_of_ble_eq_true rfl)) dM_reach_208) hS (fun rha ws_4 H locs hha hP hD hS => ?_)
            obtain ⟨hha, rfl⟩ := hha
            rw [show n + 1 - 1 - 0 = n by omega, updJ_s] at hha
            refine lv_if_eq (tgt := 217) hx hb dM_reach_211 (by decide) (fun c211 => ?_) (fun c211 => ?_)
            · have hnin : ((gD g t).getD j 0) ∉ (bN t x (nbj false g t j)).1 := of_decide_eq_false (b2i_0.mp (by rw [← hha]; exact c211))
              have hgx1 : gRow g (bN t x (nbj false g t j)).1 := bN_row hgx (fun u hu => nbB_lt (bk := false) hgo t u (List.mem_of_mem_take hu))
              have hcap : (bN t x (nbj false g t j)).1.length < 30 := hgx1.cap hgl hul hnin
              refine lv_aload_n hx hb dM_reach_217 rfl (lv_at hl 1 rfl) ?_
              refine lv_iload hx hb dM_reach_218 (lv_at hl 0 rfl) ?_
              refine x_callv (x_runV (n := 1) (As := [.int (nI ((gD g t).getD j 0))]) (rest := []) ⟨hx, hb, hml, hown, hts⟩ (cM_add l D tys A ws1 cI hI ad km v1 F1 (n + 1) (updJ S n (bN t x (nbj false g t j)).1) hS1 ((gD g t).getD j 0) (by omega) (by omega) (by rw [show n + 1 - 1 = n by omega, updJ_s]; exact hcap) hM) tw_837 tw_839 ts_M_add tw_8 tw_840 (by decide +kernel) rfl rfl ⟨by decide, by decide⟩ ⟨Nat.zero_le _, Nat.zero_le _⟩ (va_recv hK hP (ci := 7) (q0 := km) rfl hM.1) hK hP hD hS hA hN rfl hl.1 rfl (lv_room (Nat.le_of_ble_eq_true rfl)) dM_reach_220) hS (fun ws_5 H locs had hP hD hS => ?_)
              obtain ⟨hF9, v2, F2, hM, hS2, hvk2, hfk2⟩ := had
              have hF := hF.tr hF9
              rw [show n + 1 - 1 = n by omega, updJ_s, updJ_2] at hS2
              have huL2 := hS2.2.2 (n - 1) (by omega)
              rw [updJ_o9 (by omega)] at huL2
              refine lv_aload_n hx hb dM_reach_223 rfl (lv_at hl 1 rfl) ?_
              refine va_get (D := D) (cl := xCl) (ci := 7) (v := .ref (ad (km + 20))) (C := rnM) (T := tbM) (N := 39) hx hb hts inM hown hK hP km hM.1 rfl 32 (by decide) (hts _ tw_649) (fun _ h9 => h9) rfl dM_reach_224 ?_
              refine lv_iload hx hb dM_reach_227 (lv_at hl 0 rfl) ?_
              refine lv_iload hx hb dM_reach_229 (lv_at hl 6 rfl) ?_
              refine va_iast hx hb hK hP hD hS (km + 20) 0 (hM.a 20 30 rfl (by omega) (by omega)) hI (vp_in_nI (by omega) (by omega)) dM_reach_231 (fun H locs hP hD hS => ?_)
              obtain ⟨ws_7, hu_6, hP, hD⟩ := x_gen (hM.a 20 30 rfl (by omega) (by omega)) hP hD
              have hM : ModF cI ad ws_7 km v2 (setF F2 20 ((upd (F2 20) ((nI ((gD g t).getD j 0))).toNatClampNeg ((nI t))))) := hM.arr 20 30 rfl (by omega) (by omega) hu_6
              have hF := hF.tr (hu_6.fr (a := km) (b := km + 24) (by omega) (by omega))
              refine lv_aload_n hx hb dM_reach_232 rfl (lv_at hl 1 rfl) ?_
              refine va_get (D := D) (cl := xCl) (ci := 7) (v := .ref (ad (km + 21))) (C := rnM) (T := tbM) (N := 39) hx hb hts inM hown hK hP km hM.1 rfl 33 (by decide) (hts _ tw_650) (fun _ h9 => h9) rfl dM_reach_233 ?_
              refine lv_iload hx hb dM_reach_236 (lv_at hl 0 rfl) ?_
              refine lv_aload_n hx hb dM_reach_238 rfl (lv_at hl 1 rfl) ?_
              refine va_get (D := D) (cl := xCl) (ci := 7) (v := .ref (ad (km + 21))) (C := rnM) (T := tbM) (N := 39) hx hb hts inM hown hK hP km hM.1 rfl 33 (by decide) (hts _ tw_650) (fun _ h9 => h9) rfl dM_reach_239 ?_
              refine lv_iload hx hb dM_reach_242 (lv_at hl 6 rfl) ?_
              refine va_iald hx hb hK hP (km + 21) 0 (hM.a 21 30 rfl (by omega) (by omega)) hI (vp_in_nI (by omega) (by omega)) dM_reach_244 ?_
              refine lv_topi (fun v_8 ev_8 => ?_)
              refine lv_iconst (v := 1) hx hb dM_reach_245 (by decide) ?_
              refine lv_iadd hx hb dM_reach_246 ?_
              refine lv_topi (fun v_9 ev_9 => ?_)
              refine va_iast hx hb hK hP hD hS (km + 21) 0 (hM.a 21 30 rfl (by omega) (by omega)) hI (vp_in_nI (by omega) (by omega)) dM_reach_247 (fun H locs hP hD hS => ?_)
              obtain ⟨ws_11, hu_10, hP, hD⟩ := x_gen (hM.a 21 30 rfl (by omega) (by omega)) hP hD
              have hM : ModF cI ad ws_11 km v2 (setF (setF F2 20 ((upd (F2 20) ((nI ((gD g t).getD j 0))).toNatClampNeg ((nI t))))) 21 ((upd (F2 21) ((nI ((gD g t).getD j 0))).toNatClampNeg v_9))) := hM.arr 21 30 rfl (by omega) (by omega) hu_10
              have hF := hF.tr (hu_10.fr (a := km) (b := km + 24) (by omega) (by omega))
              refine lv_iinc (v := (nI (j + 1))) (lv' := [(7, .int (nI (j + 1))), (8, .int (nI ((gD g t).getD j 0))), (0, .ref (ad km)), (1, .int 0), (2, .int mo), (3, .int (nI (n - 1))), (4, .int (nI k)), (5, .int (nI t)), (6, .int (nI (gD g t).length))]) hx hb dM_reach_248 hl (k := 8) rfl (nI_1 _) (by decide) rfl (fun ls hl => ?_)
              refine lv_goto (tgt := 158) hx hb dM_reach_251 (by decide) ?_
              exact ih k t (j + 1) x v2 (setF (setF F2 20 ((upd (F2 20) ((nI ((gD g t).getD j 0))).toNatClampNeg ((nI t))))) 21 ((upd (F2 21) ((nI ((gD g t).getD j 0))).toNatClampNeg v_9))) ws_11 _ _ _ hF hM (hvk.tr hvk2) (hfk.tr ((hfk2.wd (by simp)).tr ((fk_s (by simp)).tr (fk_s (by simp))))) (by rw [nbj_f hj2, bn_out hnin]; exact hS2.c2 rfl rfl rfl) (by rw [nbj_f hj2, bn_out hnin]; show upd (F2 20) (nI ((gD g t).getD j 0)).toNatClampNeg (nI t) = _; rw [nI_clamp (by omega), hfk2 20 (by simp), h20]) (by rw [nbj_f hj2, bn_out hnin]; show upd (F2 21) (nI ((gD g t).getD j 0)).toNatClampNeg v_9 = _; rw [ev_9, ev_8]; show upd (F2 21) (nI ((gD g t).getD j 0)).toNatClampNeg (F2 21 (nI t).toNatClampNeg + 1) = _; rw [nI_clamp (by omega), nI_clamp (by omega), hfk2 21 (by simp), h21]) (by omega) ht hk30 hgx (by omega) hP hD hS (lv_sub hl [2, 3, 4, 5, 6, 7, 8, 0] rfl) K
            · refine lv_goto (tgt := 248) hx hb dM_reach_214 (by decide) ?_
              refine lv_iinc (v := (nI (j + 1))) (lv' := [(7, .int (nI (j + 1))), (8, .int (nI ((gD g t).getD j 0))), (0, .ref (ad km)), (1, .int 0), (2, .int mo), (3, .int (nI (n - 1))), (4, .int (nI k)), (5, .int (nI t)), (6, .int (nI (gD g t).length))]) hx hb dM_reach_248 hl (k := 8) rfl (nI_1 _) (by decide) rfl (fun ls hl => ?_)
              refine lv_goto (tgt := 158) hx hb dM_reach_251 (by decide) ?_
              exact ih k t (j + 1) x v1 F1 ws1 _ _ _ hF hM hvk hfk (by rw [nbj_f hj2, bn_in (of_decide_eq_true (b2i_n0.mp (by rw [← hha]; exact c211)))]; exact hS1) (by rw [nbj_f hj2, bn_in (of_decide_eq_true (b2i_n0.mp (by rw [← hha]; exact c211)))]; exact h20) (by rw [nbj_f hj2, bn_in (of_decide_eq_true (b2i_n0.mp (by rw [← hha]; exact c211)))]; exact h21) (by omega) ht hk30 hgx (by omega) hP hD hS (lv_sub hl [2, 3, 4, 5, 6, 7, 8, 0] rfl) K
          · exact absurd rfl c190
        · exact absurd rfl c166
  have loop_86 : ∀ (fu9 : Nat) (x0 : BX) (k : Nat) (x : BX) (v1 : Nat → Int32) (F1 : Nat → Nat → Int32) (ws1 : va_W) (H : Heap) (locs : List Loc) (ls : Array Slot), x_fr km (km + 24) ws ws1 → ModF cI ad ws1 km v1 F1 → vk [28] v v1 → fk [14, 15, 20, 21] F F1 → MLs v1 F1 (n + 1) (updJ S n x.1) → F1 20 = x.2.1 → F1 21 = x.2.2 → x0.1 = S (n - 1) → (∀ u ∈ S (n - 1), x0.2.1 u = -1 ∧ x0.2.2 u = 0) → bq (nbB false g) mo 30 0 x0 = bq (nbB false g) mo (30 - k) k x → gRow g x.1 → k ≤ 30 → 30 - k < fu9 → va_P D xCl ws1 H → va_D A ws1 → va_S A s.heap H locs → lv_has ls 9 [(0, .ref (ad km)), (1, .int 0), (2, .int mo), (3, .int (nI (n - 1))), (4, .int (nI k))] → W p l e (xR 2) s m args below meth c H locs 0 0 (MQ below (va_Qv (fun ws1 => x_fr km (km + 24) ws ws1 ∧ ∃ v9 F9 x0, ModF cI ad ws1 km v9 F9 ∧ x0.1 = S (n - 1) ∧ (∀ u ∈ S (n - 1), x0.2.1 u = -1 ∧ x0.2.2 u = 0) ∧ MLs v9 F9 (n + 1) (updJ S n (bq (nbB false g) mo 30 0 x0).1) ∧ F9 20 = (bq (nbB false g) mo 30 0 x0).2.1 ∧ F9 21 = (bq (nbB false g) mo 30 0 x0).2.2 ∧ vk [28] v v9 ∧ fk [14, 15, 20, 21] F F9) (x_B D xCl tys A) A) args s 0 0 A) (F0 m 86 ls []) := by
    intro fu9
    induction fu9 with
    | zero => intro x0 k x v1 F1 ws1 H locs ls hF hM hvk hfk hS1 h20 h21 hx0 hx1 hbq hgx hk9 hme; exact absurd hme (Nat.not_lt_zero _)
    | succ fu9 ih =>
      intro x0 k x v1 F1 ws1 H locs ls hF hM hvk hfk hS1 h20 h21 hx0 hx1 hbq hgx hk9 hme hP hD hS hl
      obtain ⟨hu28, hu60, hui⟩ := id hS1
      have huL := hui (n - 1) (by omega)
      rw [updJ_o9 (by omega)] at huL
      have huM := hui n (by omega)
      rw [updJ_s] at huM
      have hg1 : MGr g v1 F1 := hg.c2 (hvk 1 (by simp)) (hfk 1 (by simp)) (hfk 2 (by simp)) (hfk 3 (by simp)) (hfk 4 (by simp)) (hfk 5 (by simp))
      refine lv_iload hx hb dM_reach_86 (lv_at hl 4 rfl) ?_
      refine lv_aload_n hx hb dM_reach_88 rfl (lv_at hl 0 rfl) ?_
      refine va_get (D := D) (cl := xCl) (ci := 7) (v := .ref (ad (km + 15))) (C := rnM) (T := tbM) (N := 39) hx hb hts inM hown hK hP km hM.1 rfl 24 (by decide) (hts _ tw_641) (fun _ h9 => h9) rfl dM_reach_89 ?_
      refine lv_aload_n hx hb dM_reach_92 rfl (lv_at hl 0 rfl) ?_
      refine va_get (D := D) (cl := xCl) (ci := 7) (v := .int (v1 28)) (C := rnM) (T := tbM) (N := 39) hx hb hts inM hown hK hP km hM.1 rfl 28 (by decide) (hts _ tw_645) (fun _ h9 => h9) rfl dM_reach_93 ?_
      refine lv_iconst (v := 1) hx hb dM_reach_96 (by decide) ?_
      refine lv_isub hx hb dM_reach_97 ?_
      refine lv_topi (fun v_12 ev_12 => ?_)
      obtain rfl : v_12 = nI (n) := by rw [ev_12, hu28, show (1 : Int32) = nI 1 from rfl, pk_sub (by omega), show n + 1 - 1 = n by omega]
      refine va_iald hx hb hK hP (km + 15) 0 (hM.a 15 60 rfl (by omega) (by omega)) hI (vp_in_nI (by omega) (by omega)) dM_reach_98 ?_
      refine lv_topi (fun v_13 ev_13 => ?_)
      obtain rfl : v_13 = nI x.1.length := by rw [ev_13, nI_clamp (by omega)]; exact huM.2.1
      refine lv_icmp_ge (tgt := 260) hx hb dM_reach_99 (by decide) (fun c99 => ?_) (fun c99 => ?_)
      · exact x_vret hx hb hr hlk hK hP hD hS dM_reach_260 (by have z9 : x.1.length ≤ k := (by rw [nI_leI (by omega) (by omega)] at c99; omega); rw [bq_out z9] at hbq; exact ⟨hF, v1, F1, x0, hM, hx0, hx1, by rw [hbq]; exact hS1, by rw [hbq]; exact h20, by rw [hbq]; exact h21, hvk, hfk⟩)
      · have hk2 : k < x.1.length := by rw [nI_leI (by omega) (by omega)] at c99; omega
        have hk30 : k < 30 := by have := hgx.len hgl; omega
        have htl : x.1.getD k 0 < g.length := hgx.2 _ (getD_mem hk2)
        refine lv_aload_n hx hb dM_reach_102 rfl (lv_at hl 0 rfl) ?_
        refine va_get (D := D) (cl := xCl) (ci := 7) (v := .ref (ad (km + 14))) (C := rnM) (T := tbM) (N := 39) hx hb hts inM hown hK hP km hM.1 rfl 23 (by decide) (hts _ tw_640) (fun _ h9 => h9) rfl dM_reach_103 ?_
        refine lv_bipush (v := 30) hx hb dM_reach_106 (by decide) ?_
        refine lv_aload_n hx hb dM_reach_108 rfl (lv_at hl 0 rfl) ?_
        refine va_get (D := D) (cl := xCl) (ci := 7) (v := .int (v1 28)) (C := rnM) (T := tbM) (N := 39) hx hb hts inM hown hK hP km hM.1 rfl 28 (by decide) (hts _ tw_645) (fun _ h9 => h9) rfl dM_reach_109 ?_
        refine lv_iconst (v := 1) hx hb dM_reach_112 (by decide) ?_
        refine lv_isub hx hb dM_reach_113 ?_
        refine lv_topi (fun v_14 ev_14 => ?_)
        obtain rfl : v_14 = nI (n) := by rw [ev_14, hu28, show (1 : Int32) = nI 1 from rfl, pk_sub (by omega), show n + 1 - 1 = n by omega]
        refine lv_imul hx hb dM_reach_114 ?_
        refine lv_topi (fun v_15 ev_15 => ?_)
        obtain rfl : v_15 = nI (30 * n) := by rw [ev_15, show (30 : Int32) = nI 30 from rfl, pk_mul]
        refine lv_iload hx hb dM_reach_115 (lv_at hl 4 rfl) ?_
        refine lv_iadd hx hb dM_reach_117 ?_
        refine lv_topi (fun v_16 ev_16 => ?_)
        obtain rfl : v_16 = nI (30 * n + k) := by rw [ev_16, nI_add]
        refine va_iald hx hb hK hP (km + 14) 0 (hM.a 14 1800 rfl (by omega) (by omega)) hI (vp_in_nI (by omega) (by omega)) dM_reach_118 ?_
        refine lv_topi (fun v_17 ev_17 => ?_)
        obtain rfl : v_17 = nI (x.1.getD k 0) := by rw [ev_17, nI_clamp (by omega), getD_in hk2]; exact huM.2.2.2 k hk2
        refine lv_istore (lv' := [(5, .int (nI (x.1.getD k 0))), (0, .ref (ad km)), (1, .int 0), (2, .int mo), (3, .int (nI (n - 1))), (4, .int (nI k))]) hx hb dM_reach_119 hl (by decide) rfl (fun ls hl => ?_)
        refine lv_aload_n hx hb dM_reach_121 rfl (lv_at hl 1 rfl) ?_
        refine va_get (D := D) (cl := xCl) (ci := 7) (v := .ref (ad (km + 21))) (C := rnM) (T := tbM) (N := 39) hx hb hts inM hown hK hP km hM.1 rfl 33 (by decide) (hts _ tw_650) (fun _ h9 => h9) rfl dM_reach_122 ?_
        refine lv_iload hx hb dM_reach_125 (lv_at hl 0 rfl) ?_
        refine va_iald hx hb hK hP (km + 21) 0 (hM.a 21 30 rfl (by omega) (by omega)) hI (vp_in_nI (by omega) (by omega)) dM_reach_127 ?_
        refine lv_topi (fun v_18 ev_18 => ?_)
        obtain rfl : v_18 = x.2.2 (x.1.getD k 0) := by rw [ev_18, nI_clamp (by omega), h21]
        refine lv_iload_n hx hb dM_reach_128 rfl (lv_at hl 3 rfl) ?_
        refine lv_icmp_ne (tgt := 135) hx hb dM_reach_129 (by decide) (fun c129 => ?_) (fun c129 => ?_)
        · refine lv_iload_n hx hb dM_reach_135 rfl (lv_at hl 2 rfl) ?_
          refine lv_if_eq (tgt := 146) hx hb dM_reach_136 (by decide) (fun c136 => ?_) (fun c136 => ?_)
          · refine lv_aload_n hx hb dM_reach_146 rfl (lv_at hl 1 rfl) ?_
            refine va_get (D := D) (cl := xCl) (ci := 7) (v := .ref (ad (km + 4))) (C := rnM) (T := tbM) (N := 39) hx hb hts inM hown hK hP km hM.1 rfl 5 (by decide) (hts _ tw_622) (fun _ h9 => h9) rfl dM_reach_147 ?_
            refine lv_iload hx hb dM_reach_150 (lv_at hl 0 rfl) ?_
            refine va_iald hx hb hK hP (km + 4) 0 (hM.a 4 30 rfl (by omega) (by omega)) hI (vp_in_nI (by omega) (by omega)) dM_reach_152 ?_
            refine lv_topi (fun v_19 ev_19 => ?_)
            obtain rfl : v_19 = nI (gD g (x.1.getD k 0)).length := by rw [ev_19, nI_clamp (by omega)]; exact hg1.2.2.2.1 _ (by omega)
            refine lv_istore (lv' := [(6, .int (nI (gD g (x.1.getD k 0)).length)), (5, .int (nI (x.1.getD k 0))), (0, .ref (ad km)), (1, .int 0), (2, .int mo), (3, .int (nI (n - 1))), (4, .int (nI k))]) hx hb dM_reach_153 hl (by decide) rfl (fun ls hl => ?_)
            refine lv_iconst (v := 0) hx hb dM_reach_155 (by decide) ?_
            refine lv_istore (lv' := [(7, .int 0), (6, .int (nI (gD g (x.1.getD k 0)).length)), (5, .int (nI (x.1.getD k 0))), (0, .ref (ad km)), (1, .int 0), (2, .int mo), (3, .int (nI (n - 1))), (4, .int (nI k))]) hx hb dM_reach_156 hl (by decide) rfl (fun ls hl => ?_)
            refine loop_158 _ k (x.1.getD k 0) 0 x v1 F1 ws1 _ _ _ hF hM hvk hfk (by rw [nbj_0]; exact hS1) (by rw [nbj_0]; exact h20) (by rw [nbj_0]; exact h21) (Nat.zero_le _) htl hk30 hgx (Nat.lt_succ_self _) hP hD hS (lv_sub hl [3, 4, 5, 6, 7, 2, 1, 0] rfl) (fun v3 F3 ws_20 H locs ls hS3 h203 h213 hF hM hvk3 hfk3 hP hD hS hl => ?_)
            refine lv_iinc (v := (nI (k + 1))) (lv' := [(4, .int (nI (k + 1))), (0, .ref (ad km)), (1, .int 0), (2, .int mo), (3, .int (nI (n - 1)))]) hx hb dM_reach_254 hl (k := 4) rfl (nI_1 _) (by decide) rfl (fun ls hl => ?_)
            refine lv_goto (tgt := 86) hx hb dM_reach_257 (by decide) ?_
            exact ih x0 (k + 1) _ v3 F3 ws_20 _ _ _ hF hM hvk3 hfk3 hS3 h203 h213 hx0 hx1 (by rw [hbq, bq_s hk2 hk30]; unfold bst; rw [if_neg c129]) (bN_row hgx (nbB_lt hgo _)) (by omega) (by omega) hP hD hS (lv_sub hl [1, 2, 3, 4, 0] rfl)
          · exact absurd rfl c136
        · refine lv_goto (tgt := 254) hx hb dM_reach_132 (by decide) ?_
          refine lv_iinc (v := (nI (k + 1))) (lv' := [(4, .int (nI (k + 1))), (5, .int (nI (x.1.getD k 0))), (0, .ref (ad km)), (1, .int 0), (2, .int mo), (3, .int (nI (n - 1)))]) hx hb dM_reach_254 hl (k := 5) rfl (nI_1 _) (by decide) rfl (fun ls hl => ?_)
          refine lv_goto (tgt := 86) hx hb dM_reach_257 (by decide) ?_
          exact ih x0 (k + 1) x v1 F1 ws1 _ _ _ hF hM hvk hfk hS1 h20 h21 hx0 hx1 (by rw [hbq, bq_s hk2 hk30]; unfold bst; rw [if_pos c129]) hgx (by omega) (by omega) hP hD hS (lv_sub hl [2, 3, 4, 5, 0] rfl)
  have loop_14 : ∀ (fu9 : Nat) (i : Nat) (v1 : Nat → Int32) (F1 : Nat → Nat → Int32) (ws1 : va_W) (H : Heap) (locs : List Loc) (ls : Array Slot), x_fr km (km + 24) ws ws1 → ModF cI ad ws1 km v1 F1 → vk [28] v v1 → fk [14, 15, 20, 21] F F1 → i ≤ (S (n - 1)).length → MLs v1 F1 (n + 1) (updJ S n ((S (n - 1)).take i)) → (∀ u ∈ (S (n - 1)).take i, F1 20 u = -1 ∧ F1 21 u = 0) → (S (n - 1)).length - i < fu9 → va_P D xCl ws1 H → va_D A ws1 → va_S A s.heap H locs → lv_has ls 9 [(0, .ref (ad km)), (1, .int 0), (2, .int mo), (3, .int (nI (n - 1))), (4, .int (nI i))] → W p l e (xR 2) s m args below meth c H locs 0 0 (MQ below (va_Qv (fun ws1 => x_fr km (km + 24) ws ws1 ∧ ∃ v9 F9 x0, ModF cI ad ws1 km v9 F9 ∧ x0.1 = S (n - 1) ∧ (∀ u ∈ S (n - 1), x0.2.1 u = -1 ∧ x0.2.2 u = 0) ∧ MLs v9 F9 (n + 1) (updJ S n (bq (nbB false g) mo 30 0 x0).1) ∧ F9 20 = (bq (nbB false g) mo 30 0 x0).2.1 ∧ F9 21 = (bq (nbB false g) mo 30 0 x0).2.2 ∧ vk [28] v v9 ∧ fk [14, 15, 20, 21] F F9) (x_B D xCl tys A) A) args s 0 0 A) (F0 m 14 ls []) := by
    intro fu9
    induction fu9 with
    | zero => intro i v1 F1 ws1 H locs ls hF hM hvk hfk hi hS1 hz9 hme; exact absurd hme (Nat.not_lt_zero _)
    | succ fu9 ih =>
      intro i v1 F1 ws1 H locs ls hF hM hvk hfk hi hS1 hz9 hme hP hD hS hl
      obtain ⟨hu28, hu60, hui⟩ := id hS1
      have huL := hui (n - 1) (by omega)
      rw [updJ_o9 (by omega)] at huL
      have huM := hui n (by omega)
      rw [updJ_s] at huM
      have hg1 : MGr g v1 F1 := hg.c2 (hvk 1 (by simp)) (hfk 1 (by simp)) (hfk 2 (by simp)) (hfk 3 (by simp)) (hfk 4 (by simp)) (hfk 5 (by simp))
      refine lv_iload hx hb dM_reach_14 (lv_at hl 4 rfl) ?_
      refine lv_aload_n hx hb dM_reach_16 rfl (lv_at hl 0 rfl) ?_
      refine va_get (D := D) (cl := xCl) (ci := 7) (v := .ref (ad (km + 15))) (C := rnM) (T := tbM) (N := 39) hx hb hts inM hown hK hP km hM.1 rfl 24 (by decide) (hts _ tw_641) (fun _ h9 => h9) rfl dM_reach_17 ?_
      refine lv_iload_n hx hb dM_reach_20 rfl (lv_at hl 3 rfl) ?_
      refine va_iald hx hb hK hP (km + 15) 0 (hM.a 15 60 rfl (by omega) (by omega)) hI (vp_in_nI (by omega) (by omega)) dM_reach_21 ?_
      refine lv_topi (fun v_21 ev_21 => ?_)
      obtain rfl : v_21 = nI (S (n - 1)).length := by rw [ev_21, nI_clamp (by omega)]; exact huL.2.1
      refine lv_icmp_ge (tgt := 83) hx hb dM_reach_22 (by decide) (fun c22 => ?_) (fun c22 => ?_)
      · have htk : (S (n - 1)).take i = (S (n - 1)) := List.take_of_length_le (by rw [nI_leI (by omega) (by omega)] at c22; exact c22)
        refine lv_iconst (v := 0) hx hb dM_reach_83 (by decide) ?_
        refine lv_istore (lv' := [(4, .int 0), (0, .ref (ad km)), (1, .int 0), (2, .int mo), (3, .int (nI (n - 1)))]) hx hb dM_reach_84 hl (by decide) rfl (fun ls hl => ?_)
        exact loop_86 _ ((S (n - 1)), F1 20, F1 21) 0 ((S (n - 1)), F1 20, F1 21) v1 F1 ws1 _ _ _ hF hM hvk hfk (by rw [htk] at hS1; exact hS1) rfl rfl rfl (by rw [htk] at hz9; exact hz9) rfl hgr (Nat.zero_le _) (Nat.lt_succ_self _) hP hD hS (lv_sub hl [1, 2, 3, 4, 0] rfl)
      · have hi2 : i < (S (n - 1)).length := by rw [nI_leI (by omega) (by omega)] at c22; omega
        have hcap : ((S (n - 1)).take i).length < 30 := by rw [List.length_take]; have := huL.1; omega
        have ht30 : (S (n - 1))[i] < 30 := huL.2.2.1 _ (List.getElem_mem hi2)
        refine lv_aload_n hx hb dM_reach_25 rfl (lv_at hl 0 rfl) ?_
        refine lv_aload_n hx hb dM_reach_26 rfl (lv_at hl 0 rfl) ?_
        refine va_get (D := D) (cl := xCl) (ci := 7) (v := .ref (ad (km + 14))) (C := rnM) (T := tbM) (N := 39) hx hb hts inM hown hK hP km hM.1 rfl 23 (by decide) (hts _ tw_640) (fun _ h9 => h9) rfl dM_reach_27 ?_
        refine lv_bipush (v := 30) hx hb dM_reach_30 (by decide) ?_
        refine lv_iload_n hx hb dM_reach_32 rfl (lv_at hl 3 rfl) ?_
        refine lv_imul hx hb dM_reach_33 ?_
        refine lv_topi (fun v_22 ev_22 => ?_)
        obtain rfl : v_22 = nI (30 * (n - 1)) := by rw [ev_22, show (30 : Int32) = nI 30 from rfl, pk_mul]
        refine lv_iload hx hb dM_reach_34 (lv_at hl 4 rfl) ?_
        refine lv_iadd hx hb dM_reach_36 ?_
        refine lv_topi (fun v_23 ev_23 => ?_)
        obtain rfl : v_23 = nI (30 * (n - 1) + i) := by rw [ev_23, nI_add]
        refine va_iald hx hb hK hP (km + 14) 0 (hM.a 14 1800 rfl (by omega) (by omega)) hI (vp_in_nI (by omega) (by omega)) dM_reach_37 ?_
        refine lv_topi (fun v_24 ev_24 => ?_)
        obtain rfl : v_24 = nI (S (n - 1))[i] := by rw [ev_24]; show F1 14 (nI (30 * (n - 1) + i)).toNatClampNeg = _; rw [nI_clamp (by omega)]; exact huL.2.2.2 i hi2
        refine x_callv (x_runV (n := 1) (As := [.int (nI (S (n - 1))[i])]) (rest := []) ⟨hx, hb, hml, hown, hts⟩ (cM_add l D tys A ws1 cI hI ad km v1 F1 (n + 1) (updJ S n ((S (n - 1)).take i)) hS1 (S (n - 1))[i] (by omega) (by omega) (by rw [show n + 1 - 1 = n by omega, updJ_s]; exact hcap) hM) tw_837 tw_839 ts_M_add tw_8 tw_840 (by decide +kernel) rfl rfl ⟨by decide, by decide⟩ ⟨Nat.zero_le _, Nat.zero_le _⟩ (va_recv hK hP (ci := 7) (q0 := km) rfl hM.1) hK hP hD hS hA hN rfl hl.1 rfl (lv_room (Nat.le_of_ble_eq_true rfl)) dM_reach_38) hS (fun ws_25 H locs had hP hD hS => ?_)
        obtain ⟨hF9, v2, F2, hM, hS2, hvk2, hfk2⟩ := had
        have hF := hF.tr hF9
        rw [show n + 1 - 1 = n by omega, updJ_s, updJ_2] at hS2
        have huL2 := hS2.2.2 (n - 1) (by omega)
        rw [updJ_o9 (by omega)] at huL2
        refine lv_aload_n hx hb dM_reach_41 rfl (lv_at hl 0 rfl) ?_
        refine va_get (D := D) (cl := xCl) (ci := 7) (v := .ref (ad (km + 20))) (C := rnM) (T := tbM) (N := 39) hx hb hts inM hown hK hP km hM.1 rfl 32 (by decide) (hts _ tw_649) (fun _ h9 => h9) rfl dM_reach_42 ?_
        refine lv_aload_n hx hb dM_reach_45 rfl (lv_at hl 0 rfl) ?_
        refine va_get (D := D) (cl := xCl) (ci := 7) (v := .ref (ad (km + 14))) (C := rnM) (T := tbM) (N := 39) hx hb hts inM hown hK hP km hM.1 rfl 23 (by decide) (hts _ tw_640) (fun _ h9 => h9) rfl dM_reach_46 ?_
        refine lv_bipush (v := 30) hx hb dM_reach_49 (by decide) ?_
        refine lv_iload_n hx hb dM_reach_51 rfl (lv_at hl 3 rfl) ?_
        refine lv_imul hx hb dM_reach_52 ?_
        refine lv_topi (fun v_26 ev_26 => ?_)
        obtain rfl : v_26 = nI (30 * (n - 1)) := by rw [ev_26, show (30 : Int32) = nI 30 from rfl, pk_mul]
        refine lv_iload hx hb dM_reach_53 (lv_at hl 4 rfl) ?_
        refine lv_iadd hx hb dM_reach_55 ?_
        refine lv_topi (fun v_27 ev_27 => ?_)
        obtain rfl : v_27 = nI (30 * (n - 1) + i) := by rw [ev_27, nI_add]
        refine va_iald hx hb hK hP (km + 14) 0 (hM.a 14 1800 rfl (by omega) (by omega)) hI (vp_in_nI (by omega) (by omega)) dM_reach_56 ?_
        refine lv_topi (fun v_28 ev_28 => ?_)
        obtain rfl : v_28 = nI (S (n - 1))[i] := by rw [ev_28]; show F2 14 (nI (30 * (n - 1) + i)).toNatClampNeg = _; rw [nI_clamp (by omega)]; exact huL2.2.2.2 i hi2
        refine lv_iconst (v := (-1)) hx hb dM_reach_57 (by decide) ?_
        refine va_iast hx hb hK hP hD hS (km + 20) 0 (hM.a 20 30 rfl (by omega) (by omega)) hI (vp_in_nI (by omega) (by omega)) dM_reach_58 (fun H locs hP hD hS => ?_)
        obtain ⟨ws_30, hu_29, hP, hD⟩ := x_gen (hM.a 20 30 rfl (by omega) (by omega)) hP hD
        have hM : ModF cI ad ws_30 km v2 (setF F2 20 ((upd (F2 20) ((nI (S (n - 1))[i])).toNatClampNeg ((-1))))) := hM.arr 20 30 rfl (by omega) (by omega) hu_29
        have hF := hF.tr (hu_29.fr (a := km) (b := km + 24) (by omega) (by omega))
        refine lv_aload_n hx hb dM_reach_59 rfl (lv_at hl 0 rfl) ?_
        refine va_get (D := D) (cl := xCl) (ci := 7) (v := .ref (ad (km + 21))) (C := rnM) (T := tbM) (N := 39) hx hb hts inM hown hK hP km hM.1 rfl 33 (by decide) (hts _ tw_650) (fun _ h9 => h9) rfl dM_reach_60 ?_
        refine lv_aload_n hx hb dM_reach_63 rfl (lv_at hl 0 rfl) ?_
        refine va_get (D := D) (cl := xCl) (ci := 7) (v := .ref (ad (km + 14))) (C := rnM) (T := tbM) (N := 39) hx hb hts inM hown hK hP km hM.1 rfl 23 (by decide) (hts _ tw_640) (fun _ h9 => h9) rfl dM_reach_64 ?_
        refine lv_bipush (v := 30) hx hb dM_reach_67 (by decide) ?_
        refine lv_iload_n hx hb dM_reach_69 rfl (lv_at hl 3 rfl) ?_
        refine lv_imul hx hb dM_reach_70 ?_
        refine lv_topi (fun v_31 ev_31 => ?_)
        obtain rfl : v_31 = nI (30 * (n - 1)) := by rw [ev_31, show (30 : Int32) = nI 30 from rfl, pk_mul]
        refine lv_iload hx hb dM_reach_71 (lv_at hl 4 rfl) ?_
        refine lv_iadd hx hb dM_reach_73 ?_
        refine lv_topi (fun v_32 ev_32 => ?_)
        obtain rfl : v_32 = nI (30 * (n - 1) + i) := by rw [ev_32, nI_add]
        refine va_iald hx hb hK hP (km + 14) 0 (hM.a 14 1800 rfl (by omega) (by omega)) hI (vp_in_nI (by omega) (by omega)) dM_reach_74 ?_
        refine lv_topi (fun v_33 ev_33 => ?_)
        obtain rfl : v_33 = nI (S (n - 1))[i] := by rw [ev_33]; show F2 14 (nI (30 * (n - 1) + i)).toNatClampNeg = _; rw [nI_clamp (by omega)]; exact huL2.2.2.2 i hi2
        refine lv_iconst (v := 0) hx hb dM_reach_75 (by decide) ?_
        refine va_iast hx hb hK hP hD hS (km + 21) 0 (hM.a 21 30 rfl (by omega) (by omega)) hI (vp_in_nI (by omega) (by omega)) dM_reach_76 (fun H locs hP hD hS => ?_)
        obtain ⟨ws_35, hu_34, hP, hD⟩ := x_gen (hM.a 21 30 rfl (by omega) (by omega)) hP hD
        have hM : ModF cI ad ws_35 km v2 (setF (setF F2 20 ((upd (F2 20) ((nI (S (n - 1))[i])).toNatClampNeg ((-1))))) 21 ((upd (F2 21) ((nI (S (n - 1))[i])).toNatClampNeg 0))) := hM.arr 21 30 rfl (by omega) (by omega) hu_34
        have hF := hF.tr (hu_34.fr (a := km) (b := km + 24) (by omega) (by omega))
        refine lv_iinc (v := (nI (i + 1))) (lv' := [(4, .int (nI (i + 1))), (0, .ref (ad km)), (1, .int 0), (2, .int mo), (3, .int (nI (n - 1)))]) hx hb dM_reach_77 hl (k := 4) rfl (nI_1 _) (by decide) rfl (fun ls hl => ?_)
        refine lv_goto (tgt := 14) hx hb dM_reach_80 (by decide) ?_
        exact ih (i + 1) v2 (setF (setF F2 20 ((upd (F2 20) ((nI (S (n - 1))[i])).toNatClampNeg ((-1))))) 21 ((upd (F2 21) ((nI (S (n - 1))[i])).toNatClampNeg 0))) ws_35 _ _ _ hF hM (hvk.tr hvk2) (hfk.tr ((hfk2.wd (by simp)).tr ((fk_s (by simp)).tr (fk_s (by simp))))) (by omega) (by rw [List.take_succ_eq_append_getElem hi2]; exact hS2.c2 rfl rfl rfl) (fun u hu => by rw [List.take_succ_eq_append_getElem hi2] at hu; show upd (F2 20) (nI (S (n - 1))[i]).toNatClampNeg (-1) u = -1 ∧ upd (F2 21) (nI (S (n - 1))[i]).toNatClampNeg 0 u = 0; rw [nI_clamp (by omega)]; by_cases z9 : u = (S (n - 1))[i]; (rw [z9, upd_s9, upd_s9]; exact ⟨rfl, rfl⟩); (rw [upd_o z9, upd_o z9, hfk2 20 (by simp), hfk2 21 (by simp)]; exact hz9 u ((List.mem_append.mp hu).resolve_right (fun z8 => z9 (List.mem_singleton.mp z8))))) (by omega) hP hD hS (lv_sub hl [1, 2, 3, 4, 0] rfl)
  refine lv_aload_n hx hb dM_reach_0 rfl (lv_at hl 0 rfl) ?_
  refine va_get (D := D) (cl := xCl) (ci := 7) (v := .int (v 28)) (C := rnM) (T := tbM) (N := 39) hx hb hts inM hown hK hP km hM.1 rfl 28 (by decide) (hts _ tw_645) (fun _ h9 => h9) rfl dM_reach_1 ?_
  refine lv_iconst (v := 1) hx hb dM_reach_4 (by decide) ?_
  refine lv_isub hx hb dM_reach_5 ?_
  refine lv_topi (fun v_36 ev_36 => ?_)
  obtain rfl : v_36 = nI (n - 1) := by rw [ev_36, hv28, show (1 : Int32) = nI 1 from rfl, pk_sub (by omega)]
  refine lv_istore_n (lv' := [(3, .int (nI (n - 1))), (0, .ref (ad km)), (1, .int 0), (2, .int mo)]) hx hb dM_reach_6 rfl hl (by decide) rfl (fun ls hl => ?_)
  refine lv_aload_n hx hb dM_reach_7 rfl (lv_at hl 1 rfl) ?_
  refine x_callv (x_runV (n := 0) (As := []) (rest := []) ⟨hx, hb, hml, hown, hts⟩ (cM_begin l D tys A ws cI hI ad km v F n S hS0 (by omega) hM) tw_833 tw_835 ts_M_begin tw_8 tw_836 (by decide +kernel) rfl rfl ⟨by decide, by decide⟩ ⟨Nat.zero_le _, Nat.zero_le _⟩ (va_recv hK hP (ci := 7) (q0 := km) rfl hM.1) hK hP hD hS hA hN rfl hl.1 rfl (lv_room (Nat.le_of_ble_eq_true rfl)) dM_reach_8) hS (fun ws_37 H locs hbe hP hD hS => ?_)
  obtain ⟨hF9, v1, F1, hM, hS1, hvk, hfk⟩ := hbe
  have hF := hF.tr hF9
  refine lv_iconst (v := 0) hx hb dM_reach_11 (by decide) ?_
  refine lv_istore (lv' := [(4, .int 0), (3, .int (nI (n - 1))), (0, .ref (ad km)), (1, .int 0), (2, .int mo)]) hx hb dM_reach_12 hl (by decide) rfl (fun ls hl => ?_)
  exact loop_14 _ 0 v1 F1 ws_37 _ _ _ hF hM hvk (hfk.wd (by simp)) (Nat.zero_le _) (by rw [List.take_zero]; exact hS1) (fun u hu => by rw [List.take_zero] at hu; cases hu) (Nat.lt_succ_self _) hP hD hS (lv_sub hl [2, 3, 4, 1, 0] rfl)

set_option maxHeartbeats 4000000 in
set_option maxRecDepth 100000 in
/-- reach(true, most) -/
theorem cM_reach_t (l : Launch) (D : va_G) (tys : List (ClassId × FieldType)) (A : Nat → Prop) (ws : va_W) (cI : ClassId) (hI : tys[0]? = some (cI, .int)) (ad : Nat → Nat) (km : Nat) (v : Nat → Int32) (F : Nat → Nat → Int32) (n : Nat) (S : Nat → List Nat) (hS0 : MLs v F n S) (g : Gr) (hg : MGr g v F) (mo : Int32) (hn1 : 1 ≤ n) (hn58 : n < 59) (hgr : gRow g (S (n - 1))) (hM : ModF cI ad ws km v F) : x_Mv l yM_reach wM_reach (xR 2) D xCl tys A [.ref (ad km), .int 1, .int mo] ws (fun ws1 => x_fr km (km + 24) ws ws1 ∧ ∃ v9 F9 x0, ModF cI ad ws1 km v9 F9 ∧ x0.1 = S (n - 1) ∧ (∀ u ∈ S (n - 1), x0.2.1 u = -1 ∧ x0.2.2 u = 0) ∧ MLs v9 F9 (n + 1) (updJ S n (bq (nbB true g) mo 30 0 x0).1) ∧ F9 20 = (bq (nbB true g) mo 30 0 x0).2.1 ∧ F9 21 = (bq (nbB true g) mo 30 0 x0).2.2 ∧ vk [28] v v9 ∧ fk [14, 15, 20, 21] F F9) := by
  have hF : x_fr km (km + 24) ws ws := x_fr.rf
  obtain ⟨hv28, hn60, hSi⟩ := id hS0
  have hgo := hg.1
  have hgl : g.length ≤ 30 := hgo.1
  refine x_enter (by decide) rfl (Nat.le_of_ble_eq_true rfl) (fun p e s m args below meth c ls hx hb hr hlk hml hown hnm hts hK hP hD hS hA hN hl => ?_)
  have hl : lv_has ls 9 [(0, .ref (ad km)), (1, .int 1), (2, .int mo)] := hl
  have loop_158 : ∀ (fu9 : Nat) (k : Nat) (t : Nat) (j : Nat) (x : BX) (v1 : Nat → Int32) (F1 : Nat → Nat → Int32) (ws1 : va_W) (H : Heap) (locs : List Loc) (ls : Array Slot), x_fr km (km + 24) ws ws1 → ModF cI ad ws1 km v1 F1 → vk [28] v v1 → fk [14, 15, 20, 21] F F1 → MLs v1 F1 (n + 1) (updJ S n (bN t x (nbj true g t j)).1) → F1 20 = (bN t x (nbj true g t j)).2.1 → F1 21 = (bN t x (nbj true g t j)).2.2 → j ≤ g.length → t < g.length → k < 30 → gRow g x.1 → g.length - j < fu9 → va_P D xCl ws1 H → va_D A ws1 → va_S A s.heap H locs → lv_has ls 9 [(0, .ref (ad km)), (1, .int 1), (2, .int mo), (3, .int (nI (n - 1))), (4, .int (nI k)), (5, .int (nI t)), (6, .int (nI g.length)), (7, .int (nI j))] → (∀ (v3 : Nat → Int32) (F3 : Nat → Nat → Int32) (ws2 : va_W) (H2 : Heap) (locs2 : List Loc) (ls2 : Array Slot), MLs v3 F3 (n + 1) (updJ S n (bN t x ((nbB true g) t)).1) → F3 20 = (bN t x ((nbB true g) t)).2.1 → F3 21 = (bN t x ((nbB true g) t)).2.2 → x_fr km (km + 24) ws ws2 → ModF cI ad ws2 km v3 F3 → vk [28] v v3 → fk [14, 15, 20, 21] F F3 → va_P D xCl ws2 H2 → va_D A ws2 → va_S A s.heap H2 locs2 → lv_has ls2 9 [(0, .ref (ad km)), (1, .int 1), (2, .int mo), (3, .int (nI (n - 1))), (4, .int (nI k))] → W p l e (xR 2) s m args below meth c H2 locs2 0 0 (MQ below (va_Qv (fun ws1 => x_fr km (km + 24) ws ws1 ∧ ∃ v9 F9 x0, ModF cI ad ws1 km v9 F9 ∧ x0.1 = S (n - 1) ∧ (∀ u ∈ S (n - 1), x0.2.1 u = -1 ∧ x0.2.2 u = 0) ∧ MLs v9 F9 (n + 1) (updJ S n (bq (nbB true g) mo 30 0 x0).1) ∧ F9 20 = (bq (nbB true g) mo 30 0 x0).2.1 ∧ F9 21 = (bq (nbB true g) mo 30 0 x0).2.2 ∧ vk [28] v v9 ∧ fk [14, 15, 20, 21] F F9) (x_B D xCl tys A) A) args s 0 0 A) (F0 m 254 ls2 [])) → W p l e (xR 2) s m args below meth c H locs 0 0 (MQ below (va_Qv (fun ws1 => x_fr km (km + 24) ws ws1 ∧ ∃ v9 F9 x0, ModF cI ad ws1 km v9 F9 ∧ x0.1 = S (n - 1) ∧ (∀ u ∈ S (n - 1), x0.2.1 u = -1 ∧ x0.2.2 u = 0) ∧ MLs v9 F9 (n + 1) (updJ S n (bq (nbB true g) mo 30 0 x0).1) ∧ F9 20 = (bq (nbB true g) mo 30 0 x0).2.1 ∧ F9 21 = (bq (nbB true g) mo 30 0 x0).2.2 ∧ vk [28] v v9 ∧ fk [14, 15, 20, 21] F F9) (x_B D xCl tys A) A) args s 0 0 A) (F0 m 158 ls []) := by
    intro fu9
    induction fu9 with
    | zero => intro k t j x v1 F1 ws1 H locs ls hF hM hvk hfk hS1 h20 h21 hj ht hk30 hgx hme; exact absurd hme (Nat.not_lt_zero _)
    | succ fu9 ih =>
      intro k t j x v1 F1 ws1 H locs ls hF hM hvk hfk hS1 h20 h21 hj ht hk30 hgx hme hP hD hS hl K
      obtain ⟨hu28, hu60, hui⟩ := id hS1
      have huL := hui (n - 1) (by omega)
      rw [updJ_o9 (by omega)] at huL
      have huM := hui n (by omega)
      rw [updJ_s] at huM
      have hg1 : MGr g v1 F1 := hg.c2 (hvk 1 (by simp)) (hfk 1 (by simp)) (hfk 2 (by simp)) (hfk 3 (by simp)) (hfk 4 (by simp)) (hfk 5 (by simp))
      have hd8 := (hgo.2.2.2 t).2.1
      refine lv_iload hx hb dM_reach_158 (lv_at hl 7 rfl) ?_
      refine lv_iload hx hb dM_reach_160 (lv_at hl 6 rfl) ?_
      refine lv_icmp_ge (tgt := 254) hx hb dM_reach_162 (by decide) (fun c162 => ?_) (fun c162 => ?_)
      · exact K v1 F1 ws1 _ _ _ (by have z9 : j = g.length := (by rw [nI_leI (by omega) (by omega)] at c162; omega); rw [z9, nbj_et hgl] at hS1; exact hS1) (by have z9 : j = g.length := (by rw [nI_leI (by omega) (by omega)] at c162; omega); rw [z9, nbj_et hgl] at h20; exact h20) (by have z9 : j = g.length := (by rw [nI_leI (by omega) (by omega)] at c162; omega); rw [z9, nbj_et hgl] at h21; exact h21) hF hM hvk hfk hP hD hS (lv_sub hl [0, 1, 2, 3, 4] rfl)
      · have hj2 : j < g.length := by rw [nI_leI (by omega) (by omega)] at c162; omega
        have hul : j < g.length := hj2
        have hu30 : j < 30 := by omega
        refine lv_iload_n hx hb dM_reach_165 rfl (lv_at hl 1 rfl) ?_
        refine lv_if_eq (tgt := 174) hx hb dM_reach_166 (by decide) (fun c166 => ?_) (fun c166 => ?_)
        · exact absurd c166 (by decide)
        · refine lv_iload hx hb dM_reach_169 (lv_at hl 7 rfl) ?_
          refine lv_goto (tgt := 187) hx hb dM_reach_171 (by decide) ?_
          refine lv_istore (lv' := [(8, .int (nI j)), (0, .ref (ad km)), (1, .int 1), (2, .int mo), (3, .int (nI (n - 1))), (4, .int (nI k)), (5, .int (nI t)), (6, .int (nI g.length)), (7, .int (nI j))]) hx hb dM_reach_187 hl (by decide) rfl (fun ls hl => ?_)
          refine lv_iload_n hx hb dM_reach_189 rfl (lv_at hl 2 rfl) ?_
          refine lv_if_eq (tgt := 204) hx hb dM_reach_190 (by decide) (fun c190 => ?_) (fun c190 => ?_)
          · exact absurd c190 (by decide)
          · refine lv_aload_n hx hb dM_reach_193 rfl (lv_at hl 1 rfl) ?_
            refine lv_iload hx hb dM_reach_194 (lv_at hl 8 rfl) ?_
            refine lv_iload hx hb dM_reach_196 (lv_at hl 6 rfl) ?_
            refine x_calli (x_runV (n := 2) (As := [.int (nI j), .int (nI t)]) (rest := []) ⟨hx, hb, hml, hown, hts⟩ (cM_isNeed l D tys A ws1 cI hI ad km v1 F1 g hg1 j t (by omega) (by omega) hM) tw_751 tw_753 ts_M_isNeed tw_8 tw_754 (by decide +kernel) rfl rfl ⟨by decide, by decide⟩ ⟨Nat.zero_le _, Nat.zero_le _⟩ (va_recv hK hP (ci := 7) (q0 := km) rfl hM.1) hK hP hD hS hA hN rfl hl.1 rfl (lv_room (Nat.le_of_ble_eq_true rfl)) dM_reach_198) hS (fun rin ws_1 H locs hin hP hD hS => ?_)
            obtain ⟨hin, rfl⟩ := hin
            refine lv_if_eq (tgt := 248) hx hb dM_reach_201 (by decide) (fun c201 => ?_) (fun c201 => ?_)
            · refine lv_iinc (v := (nI (j + 1))) (lv' := [(7, .int (nI (j + 1))), (8, .int (nI j)), (0, .ref (ad km)), (1, .int 1), (2, .int mo), (3, .int (nI (n - 1))), (4, .int (nI k)), (5, .int (nI t)), (6, .int (nI g.length))]) hx hb dM_reach_248 hl (k := 8) rfl (nI_1 _) (by decide) rfl (fun ls hl => ?_)
              refine lv_goto (tgt := 158) hx hb dM_reach_251 (by decide) ?_
              exact ih k t (j + 1) x v1 F1 ws1 _ _ _ hF hM hvk hfk (by rw [nbj_t0 (fun z9 => absurd (decide_eq_true z9) (by rw [show decide (t ∈ gD g j) = false from b2i_0.mp (by rw [← hin]; exact c201)]; decide))]; exact hS1) (by rw [nbj_t0 (fun z9 => absurd (decide_eq_true z9) (by rw [show decide (t ∈ gD g j) = false from b2i_0.mp (by rw [← hin]; exact c201)]; decide))]; exact h20) (by rw [nbj_t0 (fun z9 => absurd (decide_eq_true z9) (by rw [show decide (t ∈ gD g j) = false from b2i_0.mp (by rw [← hin]; exact c201)]; decide))]; exact h21) (by omega) ht hk30 hgx (by omega) hP hD hS (lv_sub hl [2, 3, 4, 5, 6, 7, 8, 0] rfl) K
            · refine lv_aload_n hx hb dM_reach_204 rfl (lv_at hl 1 rfl) ?_
              refine lv_iconst (v := 0) hx hb dM_reach_205 (by decide) ?_
              refine lv_iload hx hb dM_reach_206 (lv_at hl 0 rfl) ?_
              refine x_calli (x_runV (n := 2) (As := [.int 0, .int (nI j)]) (rest := []) ⟨hx, hb, hml, hown, hts⟩ (cM_has l D tys A ws1 cI hI ad km v1 F1 (n + 1) (updJ S n (bN t x (nbj true g t j)).1) hS1 0 j (by omega) (by omega) hM) tw_861 tw_863 ts_M_has tw_8 tw_864 (by decide +kernel) rfl rfl ⟨by decide, by decide⟩ ⟨Nat.zero_le _, Nat.zero_le _⟩ (va_recv hK hP (ci := 7) (q0 := km) rfl hM.1) hK hP hD hS hA hN rfl hl.1 rfl (lv_room (Nat.le_of_ble_eq_true rfl)) dM_reach_208) hS (fun rha ws_2 H locs hha hP hD hS => ?_)
              obtain ⟨hha, rfl⟩ := hha
              rw [show n + 1 - 1 - 0 = n by omega, updJ_s] at hha
              refine lv_if_eq (tgt := 217) hx hb dM_reach_211 (by decide) (fun c211 => ?_) (fun c211 => ?_)
              · have hnin : j ∉ (bN t x (nbj true g t j)).1 := of_decide_eq_false (b2i_0.mp (by rw [← hha]; exact c211))
                have hgx1 : gRow g (bN t x (nbj true g t j)).1 := bN_row hgx (fun u hu => nbB_lt (bk := true) hgo t u (by rw [← nbj_et hgl]; exact flt_mono hu (by omega)))
                have hcap : (bN t x (nbj true g t j)).1.length < 30 := hgx1.cap hgl hul hnin
                refine lv_aload_n hx hb dM_reach_217 rfl (lv_at hl 1 rfl) ?_
                refine lv_iload hx hb dM_reach_218 (lv_at hl 0 rfl) ?_
                refine x_callv (x_runV (n := 1) (As := [.int (nI j)]) (rest := []) ⟨hx, hb, hml, hown, hts⟩ (cM_add l D tys A ws1 cI hI ad km v1 F1 (n + 1) (updJ S n (bN t x (nbj true g t j)).1) hS1 j (by omega) (by omega) (by rw [show n + 1 - 1 = n by omega, updJ_s]; exact hcap) hM) tw_837 tw_839 ts_M_add tw_8 tw_840 (by decide +kernel) rfl rfl ⟨by decide, by decide⟩ ⟨Nat.zero_le _, Nat.zero_le _⟩ (va_recv hK hP (ci := 7) (q0 := km) rfl hM.1) hK hP hD hS hA hN rfl hl.1 rfl (lv_room (Nat.le_of_ble_eq_true rfl)) dM_reach_220) hS (fun ws_3 H locs had hP hD hS => ?_)
                obtain ⟨hF9, v2, F2, hM, hS2, hvk2, hfk2⟩ := had
                have hF := hF.tr hF9
                rw [show n + 1 - 1 = n by omega, updJ_s, updJ_2] at hS2
                have huL2 := hS2.2.2 (n - 1) (by omega)
                rw [updJ_o9 (by omega)] at huL2
                refine lv_aload_n hx hb dM_reach_223 rfl (lv_at hl 1 rfl) ?_
                refine va_get (D := D) (cl := xCl) (ci := 7) (v := .ref (ad (km + 20))) (C := rnM) (T := tbM) (N := 39) hx hb hts inM hown hK hP km hM.1 rfl 32 (by decide) (hts _ tw_649) (fun _ h9 => h9) rfl dM_reach_224 ?_
                refine lv_iload hx hb dM_reach_227 (lv_at hl 0 rfl) ?_
                refine lv_iload hx hb dM_reach_229 (lv_at hl 6 rfl) ?_
                refine va_iast hx hb hK hP hD hS (km + 20) 0 (hM.a 20 30 rfl (by omega) (by omega)) hI (vp_in_nI (by omega) (by omega)) dM_reach_231 (fun H locs hP hD hS => ?_)
                obtain ⟨ws_5, hu_4, hP, hD⟩ := x_gen (hM.a 20 30 rfl (by omega) (by omega)) hP hD
                have hM : ModF cI ad ws_5 km v2 (setF F2 20 ((upd (F2 20) ((nI j)).toNatClampNeg ((nI t))))) := hM.arr 20 30 rfl (by omega) (by omega) hu_4
                have hF := hF.tr (hu_4.fr (a := km) (b := km + 24) (by omega) (by omega))
                refine lv_aload_n hx hb dM_reach_232 rfl (lv_at hl 1 rfl) ?_
                refine va_get (D := D) (cl := xCl) (ci := 7) (v := .ref (ad (km + 21))) (C := rnM) (T := tbM) (N := 39) hx hb hts inM hown hK hP km hM.1 rfl 33 (by decide) (hts _ tw_650) (fun _ h9 => h9) rfl dM_reach_233 ?_
                refine lv_iload hx hb dM_reach_236 (lv_at hl 0 rfl) ?_
                refine lv_aload_n hx hb dM_reach_238 rfl (lv_at hl 1 rfl) ?_
                refine va_get (D := D) (cl := xCl) (ci := 7) (v := .ref (ad (km + 21))) (C := rnM) (T := tbM) (N := 39) hx hb hts inM hown hK hP km hM.1 rfl 33 (by decide) (hts _ tw_650) (fun _ h9 => h9) rfl dM_reach_239 ?_
                refine lv_iload hx hb dM_reach_242 (lv_at hl 6 rfl) ?_
                refine va_iald hx hb hK hP (km + 21) 0 (hM.a 21 30 rfl (by omega) (by omega)) hI (vp_in_nI (by omega) (by omega)) dM_reach_244 ?_
                refine lv_topi (fun v_6 ev_6 => ?_)
                refine lv_iconst (v := 1) hx hb dM_reach_245 (by decide) ?_
                refine lv_iadd hx hb dM_reach_246 ?_
                refine lv_topi (fun v_7 ev_7 => ?_)
                refine va_iast hx hb hK hP hD hS (km + 21) 0 (hM.a 21 30 rfl (by omega) (by omega)) hI (vp_in_nI (by omega) (by omega)) dM_reach_247 (fun H locs hP hD hS => ?_)
                obtain ⟨ws_9, hu_8, hP, hD⟩ := x_gen (hM.a 21 30 rfl (by omega) (by omega)) hP hD
                have hM : ModF cI ad ws_9 km v2 (setF (setF F2 20 ((upd (F2 20) ((nI j)).toNatClampNeg ((nI t))))) 21 ((upd (F2 21) ((nI j)).toNatClampNeg v_7))) := hM.arr 21 30 rfl (by omega) (by omega) hu_8
                have hF := hF.tr (hu_8.fr (a := km) (b := km + 24) (by omega) (by omega))
                refine lv_iinc (v := (nI (j + 1))) (lv' := [(7, .int (nI (j + 1))), (8, .int (nI j)), (0, .ref (ad km)), (1, .int 1), (2, .int mo), (3, .int (nI (n - 1))), (4, .int (nI k)), (5, .int (nI t)), (6, .int (nI g.length))]) hx hb dM_reach_248 hl (k := 8) rfl (nI_1 _) (by decide) rfl (fun ls hl => ?_)
                refine lv_goto (tgt := 158) hx hb dM_reach_251 (by decide) ?_
                exact ih k t (j + 1) x v2 (setF (setF F2 20 ((upd (F2 20) ((nI j)).toNatClampNeg ((nI t))))) 21 ((upd (F2 21) ((nI j)).toNatClampNeg v_7))) ws_9 _ _ _ hF hM (hvk.tr hvk2) (hfk.tr ((hfk2.wd (by simp)).tr ((fk_s (by simp)).tr (fk_s (by simp))))) (by rw [nbj_t1 (of_decide_eq_true (b2i_n0.mp (by rw [← hin]; exact c201))), bn_out hnin]; exact hS2.c2 rfl rfl rfl) (by rw [nbj_t1 (of_decide_eq_true (b2i_n0.mp (by rw [← hin]; exact c201))), bn_out hnin]; show upd (F2 20) (nI j).toNatClampNeg (nI t) = _; rw [nI_clamp (by omega), hfk2 20 (by simp), h20]) (by rw [nbj_t1 (of_decide_eq_true (b2i_n0.mp (by rw [← hin]; exact c201))), bn_out hnin]; show upd (F2 21) (nI j).toNatClampNeg v_7 = _; rw [ev_7, ev_6]; show upd (F2 21) (nI j).toNatClampNeg (F2 21 (nI t).toNatClampNeg + 1) = _; rw [nI_clamp (by omega), nI_clamp (by omega), hfk2 21 (by simp), h21]) (by omega) ht hk30 hgx (by omega) hP hD hS (lv_sub hl [2, 3, 4, 5, 6, 7, 8, 0] rfl) K
              · refine lv_goto (tgt := 248) hx hb dM_reach_214 (by decide) ?_
                refine lv_iinc (v := (nI (j + 1))) (lv' := [(7, .int (nI (j + 1))), (8, .int (nI j)), (0, .ref (ad km)), (1, .int 1), (2, .int mo), (3, .int (nI (n - 1))), (4, .int (nI k)), (5, .int (nI t)), (6, .int (nI g.length))]) hx hb dM_reach_248 hl (k := 8) rfl (nI_1 _) (by decide) rfl (fun ls hl => ?_)
                refine lv_goto (tgt := 158) hx hb dM_reach_251 (by decide) ?_
                exact ih k t (j + 1) x v1 F1 ws1 _ _ _ hF hM hvk hfk (by rw [nbj_t1 (of_decide_eq_true (b2i_n0.mp (by rw [← hin]; exact c201))), bn_in (of_decide_eq_true (b2i_n0.mp (by rw [← hha]; exact c211)))]; exact hS1) (by rw [nbj_t1 (of_decide_eq_true (b2i_n0.mp (by rw [← hin]; exact c201))), bn_in (of_decide_eq_true (b2i_n0.mp (by rw [← hha]; exact c211)))]; exact h20) (by rw [nbj_t1 (of_decide_eq_true (b2i_n0.mp (by rw [← hin]; exact c201))), bn_in (of_decide_eq_true (b2i_n0.mp (by rw [← hha]; exact c211)))]; exact h21) (by omega) ht hk30 hgx (by omega) hP hD hS (lv_sub hl [2, 3, 4, 5, 6, 7, 8, 0] rfl) K
  have loop_86 : ∀ (fu9 : Nat) (x0 : BX) (k : Nat) (x : BX) (v1 : Nat → Int32) (F1 : Nat → Nat → Int32) (ws1 : va_W) (H : Heap) (locs : List Loc) (ls : Array Slot), x_fr km (km + 24) ws ws1 → ModF cI ad ws1 km v1 F1 → vk [28] v v1 → fk [14, 15, 20, 21] F F1 → MLs v1 F1 (n + 1) (updJ S n x.1) → F1 20 = x.2.1 → F1 21 = x.2.2 → x0.1 = S (n - 1) → (∀ u ∈ S (n - 1), x0.2.1 u = -1 ∧ x0.2.2 u = 0) → bq (nbB true g) mo 30 0 x0 = bq (nbB true g) mo (30 - k) k x → gRow g x.1 → k ≤ 30 → 30 - k < fu9 → va_P D xCl ws1 H → va_D A ws1 → va_S A s.heap H locs → lv_has ls 9 [(0, .ref (ad km)), (1, .int 1), (2, .int mo), (3, .int (nI (n - 1))), (4, .int (nI k))] → W p l e (xR 2) s m args below meth c H locs 0 0 (MQ below (va_Qv (fun ws1 => x_fr km (km + 24) ws ws1 ∧ ∃ v9 F9 x0, ModF cI ad ws1 km v9 F9 ∧ x0.1 = S (n - 1) ∧ (∀ u ∈ S (n - 1), x0.2.1 u = -1 ∧ x0.2.2 u = 0) ∧ MLs v9 F9 (n + 1) (updJ S n (bq (nbB true g) mo 30 0 x0).1) ∧ F9 20 = (bq (nbB true g) mo 30 0 x0).2.1 ∧ F9 21 = (bq (nbB true g) mo 30 0 x0).2.2 ∧ vk [28] v v9 ∧ fk [14, 15, 20, 21] F F9) (x_B D xCl tys A) A) args s 0 0 A) (F0 m 86 ls []) := by
    intro fu9
    induction fu9 with
    | zero => intro x0 k x v1 F1 ws1 H locs ls hF hM hvk hfk hS1 h20 h21 hx0 hx1 hbq hgx hk9 hme; exact absurd hme (Nat.not_lt_zero _)
    | succ fu9 ih =>
      intro x0 k x v1 F1 ws1 H locs ls hF hM hvk hfk hS1 h20 h21 hx0 hx1 hbq hgx hk9 hme hP hD hS hl
      obtain ⟨hu28, hu60, hui⟩ := id hS1
      have huL := hui (n - 1) (by omega)
      rw [updJ_o9 (by omega)] at huL
      have huM := hui n (by omega)
      rw [updJ_s] at huM
      have hg1 : MGr g v1 F1 := hg.c2 (hvk 1 (by simp)) (hfk 1 (by simp)) (hfk 2 (by simp)) (hfk 3 (by simp)) (hfk 4 (by simp)) (hfk 5 (by simp))
      refine lv_iload hx hb dM_reach_86 (lv_at hl 4 rfl) ?_
      refine lv_aload_n hx hb dM_reach_88 rfl (lv_at hl 0 rfl) ?_
      refine va_get (D := D) (cl := xCl) (ci := 7) (v := .ref (ad (km + 15))) (C := rnM) (T := tbM) (N := 39) hx hb hts inM hown hK hP km hM.1 rfl 24 (by decide) (hts _ tw_641) (fun _ h9 => h9) rfl dM_reach_89 ?_
      refine lv_aload_n hx hb dM_reach_92 rfl (lv_at hl 0 rfl) ?_
      refine va_get (D := D) (cl := xCl) (ci := 7) (v := .int (v1 28)) (C := rnM) (T := tbM) (N := 39) hx hb hts inM hown hK hP km hM.1 rfl 28 (by decide) (hts _ tw_645) (fun _ h9 => h9) rfl dM_reach_93 ?_
      refine lv_iconst (v := 1) hx hb dM_reach_96 (by decide) ?_
      refine lv_isub hx hb dM_reach_97 ?_
      refine lv_topi (fun v_10 ev_10 => ?_)
      obtain rfl : v_10 = nI (n) := by rw [ev_10, hu28, show (1 : Int32) = nI 1 from rfl, pk_sub (by omega), show n + 1 - 1 = n by omega]
      refine va_iald hx hb hK hP (km + 15) 0 (hM.a 15 60 rfl (by omega) (by omega)) hI (vp_in_nI (by omega) (by omega)) dM_reach_98 ?_
      refine lv_topi (fun v_11 ev_11 => ?_)
      obtain rfl : v_11 = nI x.1.length := by rw [ev_11, nI_clamp (by omega)]; exact huM.2.1
      refine lv_icmp_ge (tgt := 260) hx hb dM_reach_99 (by decide) (fun c99 => ?_) (fun c99 => ?_)
      · exact x_vret hx hb hr hlk hK hP hD hS dM_reach_260 (by have z9 : x.1.length ≤ k := (by rw [nI_leI (by omega) (by omega)] at c99; omega); rw [bq_out z9] at hbq; exact ⟨hF, v1, F1, x0, hM, hx0, hx1, by rw [hbq]; exact hS1, by rw [hbq]; exact h20, by rw [hbq]; exact h21, hvk, hfk⟩)
      · have hk2 : k < x.1.length := by rw [nI_leI (by omega) (by omega)] at c99; omega
        have hk30 : k < 30 := by have := hgx.len hgl; omega
        have htl : x.1.getD k 0 < g.length := hgx.2 _ (getD_mem hk2)
        refine lv_aload_n hx hb dM_reach_102 rfl (lv_at hl 0 rfl) ?_
        refine va_get (D := D) (cl := xCl) (ci := 7) (v := .ref (ad (km + 14))) (C := rnM) (T := tbM) (N := 39) hx hb hts inM hown hK hP km hM.1 rfl 23 (by decide) (hts _ tw_640) (fun _ h9 => h9) rfl dM_reach_103 ?_
        refine lv_bipush (v := 30) hx hb dM_reach_106 (by decide) ?_
        refine lv_aload_n hx hb dM_reach_108 rfl (lv_at hl 0 rfl) ?_
        refine va_get (D := D) (cl := xCl) (ci := 7) (v := .int (v1 28)) (C := rnM) (T := tbM) (N := 39) hx hb hts inM hown hK hP km hM.1 rfl 28 (by decide) (hts _ tw_645) (fun _ h9 => h9) rfl dM_reach_109 ?_
        refine lv_iconst (v := 1) hx hb dM_reach_112 (by decide) ?_
        refine lv_isub hx hb dM_reach_113 ?_
        refine lv_topi (fun v_12 ev_12 => ?_)
        obtain rfl : v_12 = nI (n) := by rw [ev_12, hu28, show (1 : Int32) = nI 1 from rfl, pk_sub (by omega), show n + 1 - 1 = n by omega]
        refine lv_imul hx hb dM_reach_114 ?_
        refine lv_topi (fun v_13 ev_13 => ?_)
        obtain rfl : v_13 = nI (30 * n) := by rw [ev_13, show (30 : Int32) = nI 30 from rfl, pk_mul]
        refine lv_iload hx hb dM_reach_115 (lv_at hl 4 rfl) ?_
        refine lv_iadd hx hb dM_reach_117 ?_
        refine lv_topi (fun v_14 ev_14 => ?_)
        obtain rfl : v_14 = nI (30 * n + k) := by rw [ev_14, nI_add]
        refine va_iald hx hb hK hP (km + 14) 0 (hM.a 14 1800 rfl (by omega) (by omega)) hI (vp_in_nI (by omega) (by omega)) dM_reach_118 ?_
        refine lv_topi (fun v_15 ev_15 => ?_)
        obtain rfl : v_15 = nI (x.1.getD k 0) := by rw [ev_15, nI_clamp (by omega), getD_in hk2]; exact huM.2.2.2 k hk2
        refine lv_istore (lv' := [(5, .int (nI (x.1.getD k 0))), (0, .ref (ad km)), (1, .int 1), (2, .int mo), (3, .int (nI (n - 1))), (4, .int (nI k))]) hx hb dM_reach_119 hl (by decide) rfl (fun ls hl => ?_)
        refine lv_aload_n hx hb dM_reach_121 rfl (lv_at hl 1 rfl) ?_
        refine va_get (D := D) (cl := xCl) (ci := 7) (v := .ref (ad (km + 21))) (C := rnM) (T := tbM) (N := 39) hx hb hts inM hown hK hP km hM.1 rfl 33 (by decide) (hts _ tw_650) (fun _ h9 => h9) rfl dM_reach_122 ?_
        refine lv_iload hx hb dM_reach_125 (lv_at hl 0 rfl) ?_
        refine va_iald hx hb hK hP (km + 21) 0 (hM.a 21 30 rfl (by omega) (by omega)) hI (vp_in_nI (by omega) (by omega)) dM_reach_127 ?_
        refine lv_topi (fun v_16 ev_16 => ?_)
        obtain rfl : v_16 = x.2.2 (x.1.getD k 0) := by rw [ev_16, nI_clamp (by omega), h21]
        refine lv_iload_n hx hb dM_reach_128 rfl (lv_at hl 3 rfl) ?_
        refine lv_icmp_ne (tgt := 135) hx hb dM_reach_129 (by decide) (fun c129 => ?_) (fun c129 => ?_)
        · refine lv_iload_n hx hb dM_reach_135 rfl (lv_at hl 2 rfl) ?_
          refine lv_if_eq (tgt := 146) hx hb dM_reach_136 (by decide) (fun c136 => ?_) (fun c136 => ?_)
          · exact absurd c136 (by decide)
          · refine lv_aload_n hx hb dM_reach_139 rfl (lv_at hl 1 rfl) ?_
            refine va_get (D := D) (cl := xCl) (ci := 7) (v := .int (v1 1)) (C := rnM) (T := tbM) (N := 39) hx hb hts inM hown hK hP km hM.1 rfl 1 (by decide) (hts _ tw_618) (fun _ h9 => h9) rfl dM_reach_140 ?_
            refine lv_goto (tgt := 153) hx hb dM_reach_143 (by decide) ?_
            have e9 : v1 1 = nI g.length := hg1.2.1
            refine W.eq (g2 := F0 m 153 ls [.int (nI g.length)]) (by rw [e9]) ?_
            refine lv_istore (lv' := [(6, .int (nI g.length)), (5, .int (nI (x.1.getD k 0))), (0, .ref (ad km)), (1, .int 1), (2, .int mo), (3, .int (nI (n - 1))), (4, .int (nI k))]) hx hb dM_reach_153 hl (by decide) rfl (fun ls hl => ?_)
            refine lv_iconst (v := 0) hx hb dM_reach_155 (by decide) ?_
            refine lv_istore (lv' := [(7, .int 0), (6, .int (nI g.length)), (5, .int (nI (x.1.getD k 0))), (0, .ref (ad km)), (1, .int 1), (2, .int mo), (3, .int (nI (n - 1))), (4, .int (nI k))]) hx hb dM_reach_156 hl (by decide) rfl (fun ls hl => ?_)
            refine loop_158 _ k (x.1.getD k 0) 0 x v1 F1 ws1 _ _ _ hF hM hvk hfk (by rw [nbj_0]; exact hS1) (by rw [nbj_0]; exact h20) (by rw [nbj_0]; exact h21) (Nat.zero_le _) htl hk30 hgx (Nat.lt_succ_self _) hP hD hS (lv_sub hl [3, 4, 5, 6, 7, 2, 1, 0] rfl) (fun v3 F3 ws_17 H locs ls hS3 h203 h213 hF hM hvk3 hfk3 hP hD hS hl => ?_)
            refine lv_iinc (v := (nI (k + 1))) (lv' := [(4, .int (nI (k + 1))), (0, .ref (ad km)), (1, .int 1), (2, .int mo), (3, .int (nI (n - 1)))]) hx hb dM_reach_254 hl (k := 4) rfl (nI_1 _) (by decide) rfl (fun ls hl => ?_)
            refine lv_goto (tgt := 86) hx hb dM_reach_257 (by decide) ?_
            exact ih x0 (k + 1) _ v3 F3 ws_17 _ _ _ hF hM hvk3 hfk3 hS3 h203 h213 hx0 hx1 (by rw [hbq, bq_s hk2 hk30]; unfold bst; rw [if_neg c129]) (bN_row hgx (nbB_lt hgo _)) (by omega) (by omega) hP hD hS (lv_sub hl [1, 2, 3, 4, 0] rfl)
        · refine lv_goto (tgt := 254) hx hb dM_reach_132 (by decide) ?_
          refine lv_iinc (v := (nI (k + 1))) (lv' := [(4, .int (nI (k + 1))), (5, .int (nI (x.1.getD k 0))), (0, .ref (ad km)), (1, .int 1), (2, .int mo), (3, .int (nI (n - 1)))]) hx hb dM_reach_254 hl (k := 5) rfl (nI_1 _) (by decide) rfl (fun ls hl => ?_)
          refine lv_goto (tgt := 86) hx hb dM_reach_257 (by decide) ?_
          exact ih x0 (k + 1) x v1 F1 ws1 _ _ _ hF hM hvk hfk hS1 h20 h21 hx0 hx1 (by rw [hbq, bq_s hk2 hk30]; unfold bst; rw [if_pos c129]) hgx (by omega) (by omega) hP hD hS (lv_sub hl [2, 3, 4, 5, 0] rfl)
  have loop_14 : ∀ (fu9 : Nat) (i : Nat) (v1 : Nat → Int32) (F1 : Nat → Nat → Int32) (ws1 : va_W) (H : Heap) (locs : List Loc) (ls : Array Slot), x_fr km (km + 24) ws ws1 → ModF cI ad ws1 km v1 F1 → vk [28] v v1 → fk [14, 15, 20, 21] F F1 → i ≤ (S (n - 1)).length → MLs v1 F1 (n + 1) (updJ S n ((S (n - 1)).take i)) → (∀ u ∈ (S (n - 1)).take i, F1 20 u = -1 ∧ F1 21 u = 0) → (S (n - 1)).length - i < fu9 → va_P D xCl ws1 H → va_D A ws1 → va_S A s.heap H locs → lv_has ls 9 [(0, .ref (ad km)), (1, .int 1), (2, .int mo), (3, .int (nI (n - 1))), (4, .int (nI i))] → W p l e (xR 2) s m args below meth c H locs 0 0 (MQ below (va_Qv (fun ws1 => x_fr km (km + 24) ws ws1 ∧ ∃ v9 F9 x0, ModF cI ad ws1 km v9 F9 ∧ x0.1 = S (n - 1) ∧ (∀ u ∈ S (n - 1), x0.2.1 u = -1 ∧ x0.2.2 u = 0) ∧ MLs v9 F9 (n + 1) (updJ S n (bq (nbB true g) mo 30 0 x0).1) ∧ F9 20 = (bq (nbB true g) mo 30 0 x0).2.1 ∧ F9 21 = (bq (nbB true g) mo 30 0 x0).2.2 ∧ vk [28] v v9 ∧ fk [14, 15, 20, 21] F F9) (x_B D xCl tys A) A) args s 0 0 A) (F0 m 14 ls []) := by
    intro fu9
    induction fu9 with
    | zero => intro i v1 F1 ws1 H locs ls hF hM hvk hfk hi hS1 hz9 hme; exact absurd hme (Nat.not_lt_zero _)
    | succ fu9 ih =>
      intro i v1 F1 ws1 H locs ls hF hM hvk hfk hi hS1 hz9 hme hP hD hS hl
      obtain ⟨hu28, hu60, hui⟩ := id hS1
      have huL := hui (n - 1) (by omega)
      rw [updJ_o9 (by omega)] at huL
      have huM := hui n (by omega)
      rw [updJ_s] at huM
      have hg1 : MGr g v1 F1 := hg.c2 (hvk 1 (by simp)) (hfk 1 (by simp)) (hfk 2 (by simp)) (hfk 3 (by simp)) (hfk 4 (by simp)) (hfk 5 (by simp))
      refine lv_iload hx hb dM_reach_14 (lv_at hl 4 rfl) ?_
      refine lv_aload_n hx hb dM_reach_16 rfl (lv_at hl 0 rfl) ?_
      refine va_get (D := D) (cl := xCl) (ci := 7) (v := .ref (ad (km + 15))) (C := rnM) (T := tbM) (N := 39) hx hb hts inM hown hK hP km hM.1 rfl 24 (by decide) (hts _ tw_641) (fun _ h9 => h9) rfl dM_reach_17 ?_
      refine lv_iload_n hx hb dM_reach_20 rfl (lv_at hl 3 rfl) ?_
      refine va_iald hx hb hK hP (km + 15) 0 (hM.a 15 60 rfl (by omega) (by omega)) hI (vp_in_nI (by omega) (by omega)) dM_reach_21 ?_
      refine lv_topi (fun v_18 ev_18 => ?_)
      obtain rfl : v_18 = nI (S (n - 1)).length := by rw [ev_18, nI_clamp (by omega)]; exact huL.2.1
      refine lv_icmp_ge (tgt := 83) hx hb dM_reach_22 (by decide) (fun c22 => ?_) (fun c22 => ?_)
      · have htk : (S (n - 1)).take i = (S (n - 1)) := List.take_of_length_le (by rw [nI_leI (by omega) (by omega)] at c22; exact c22)
        refine lv_iconst (v := 0) hx hb dM_reach_83 (by decide) ?_
        refine lv_istore (lv' := [(4, .int 0), (0, .ref (ad km)), (1, .int 1), (2, .int mo), (3, .int (nI (n - 1)))]) hx hb dM_reach_84 hl (by decide) rfl (fun ls hl => ?_)
        exact loop_86 _ ((S (n - 1)), F1 20, F1 21) 0 ((S (n - 1)), F1 20, F1 21) v1 F1 ws1 _ _ _ hF hM hvk hfk (by rw [htk] at hS1; exact hS1) rfl rfl rfl (by rw [htk] at hz9; exact hz9) rfl hgr (Nat.zero_le _) (Nat.lt_succ_self _) hP hD hS (lv_sub hl [1, 2, 3, 4, 0] rfl)
      · have hi2 : i < (S (n - 1)).length := by rw [nI_leI (by omega) (by omega)] at c22; omega
        have hcap : ((S (n - 1)).take i).length < 30 := by rw [List.length_take]; have := huL.1; omega
        have ht30 : (S (n - 1))[i] < 30 := huL.2.2.1 _ (List.getElem_mem hi2)
        refine lv_aload_n hx hb dM_reach_25 rfl (lv_at hl 0 rfl) ?_
        refine lv_aload_n hx hb dM_reach_26 rfl (lv_at hl 0 rfl) ?_
        refine va_get (D := D) (cl := xCl) (ci := 7) (v := .ref (ad (km + 14))) (C := rnM) (T := tbM) (N := 39) hx hb hts inM hown hK hP km hM.1 rfl 23 (by decide) (hts _ tw_640) (fun _ h9 => h9) rfl dM_reach_27 ?_
        refine lv_bipush (v := 30) hx hb dM_reach_30 (by decide) ?_
        refine lv_iload_n hx hb dM_reach_32 rfl (lv_at hl 3 rfl) ?_
        refine lv_imul hx hb dM_reach_33 ?_
        refine lv_topi (fun v_19 ev_19 => ?_)
        obtain rfl : v_19 = nI (30 * (n - 1)) := by rw [ev_19, show (30 : Int32) = nI 30 from rfl, pk_mul]
        refine lv_iload hx hb dM_reach_34 (lv_at hl 4 rfl) ?_
        refine lv_iadd hx hb dM_reach_36 ?_
        refine lv_topi (fun v_20 ev_20 => ?_)
        obtain rfl : v_20 = nI (30 * (n - 1) + i) := by rw [ev_20, nI_add]
        refine va_iald hx hb hK hP (km + 14) 0 (hM.a 14 1800 rfl (by omega) (by omega)) hI (vp_in_nI (by omega) (by omega)) dM_reach_37 ?_
        refine lv_topi (fun v_21 ev_21 => ?_)
        obtain rfl : v_21 = nI (S (n - 1))[i] := by rw [ev_21]; show F1 14 (nI (30 * (n - 1) + i)).toNatClampNeg = _; rw [nI_clamp (by omega)]; exact huL.2.2.2 i hi2
        refine x_callv (x_runV (n := 1) (As := [.int (nI (S (n - 1))[i])]) (rest := []) ⟨hx, hb, hml, hown, hts⟩ (cM_add l D tys A ws1 cI hI ad km v1 F1 (n + 1) (updJ S n ((S (n - 1)).take i)) hS1 (S (n - 1))[i] (by omega) (by omega) (by rw [show n + 1 - 1 = n by omega, updJ_s]; exact hcap) hM) tw_837 tw_839 ts_M_add tw_8 tw_840 (by decide +kernel) rfl rfl ⟨by decide, by decide⟩ ⟨Nat.zero_le _, Nat.zero_le _⟩ (va_recv hK hP (ci := 7) (q0 := km) rfl hM.1) hK hP hD hS hA hN rfl hl.1 rfl (lv_room (Nat.le_of_ble_eq_true rfl)) dM_reach_38) hS (fun ws_22 H locs had hP hD hS => ?_)
        obtain ⟨hF9, v2, F2, hM, hS2, hvk2, hfk2⟩ := had
        have hF := hF.tr hF9
        rw [show n + 1 - 1 = n by omega, updJ_s, updJ_2] at hS2
        have huL2 := hS2.2.2 (n - 1) (by omega)
        rw [updJ_o9 (by omega)] at huL2
        refine lv_aload_n hx hb dM_reach_41 rfl (lv_at hl 0 rfl) ?_
        refine va_get (D := D) (cl := xCl) (ci := 7) (v := .ref (ad (km + 20))) (C := rnM) (T := tbM) (N := 39) hx hb hts inM hown hK hP km hM.1 rfl 32 (by decide) (hts _ tw_649) (fun _ h9 => h9) rfl dM_reach_42 ?_
        refine lv_aload_n hx hb dM_reach_45 rfl (lv_at hl 0 rfl) ?_
        refine va_get (D := D) (cl := xCl) (ci := 7) (v := .ref (ad (km + 14))) (C := rnM) (T := tbM) (N := 39) hx hb hts inM hown hK hP km hM.1 rfl 23 (by decide) (hts _ tw_640) (fun _ h9 => h9) rfl dM_reach_46 ?_
        refine lv_bipush (v := 30) hx hb dM_reach_49 (by decide) ?_
        refine lv_iload_n hx hb dM_reach_51 rfl (lv_at hl 3 rfl) ?_
        refine lv_imul hx hb dM_reach_52 ?_
        refine lv_topi (fun v_23 ev_23 => ?_)
        obtain rfl : v_23 = nI (30 * (n - 1)) := by rw [ev_23, show (30 : Int32) = nI 30 from rfl, pk_mul]
        refine lv_iload hx hb dM_reach_53 (lv_at hl 4 rfl) ?_
        refine lv_iadd hx hb dM_reach_55 ?_
        refine lv_topi (fun v_24 ev_24 => ?_)
        obtain rfl : v_24 = nI (30 * (n - 1) + i) := by rw [ev_24, nI_add]
        refine va_iald hx hb hK hP (km + 14) 0 (hM.a 14 1800 rfl (by omega) (by omega)) hI (vp_in_nI (by omega) (by omega)) dM_reach_56 ?_
        refine lv_topi (fun v_25 ev_25 => ?_)
        obtain rfl : v_25 = nI (S (n - 1))[i] := by rw [ev_25]; show F2 14 (nI (30 * (n - 1) + i)).toNatClampNeg = _; rw [nI_clamp (by omega)]; exact huL2.2.2.2 i hi2
        refine lv_iconst (v := (-1)) hx hb dM_reach_57 (by decide) ?_
        refine va_iast hx hb hK hP hD hS (km + 20) 0 (hM.a 20 30 rfl (by omega) (by omega)) hI (vp_in_nI (by omega) (by omega)) dM_reach_58 (fun H locs hP hD hS => ?_)
        obtain ⟨ws_27, hu_26, hP, hD⟩ := x_gen (hM.a 20 30 rfl (by omega) (by omega)) hP hD
        have hM : ModF cI ad ws_27 km v2 (setF F2 20 ((upd (F2 20) ((nI (S (n - 1))[i])).toNatClampNeg ((-1))))) := hM.arr 20 30 rfl (by omega) (by omega) hu_26
        have hF := hF.tr (hu_26.fr (a := km) (b := km + 24) (by omega) (by omega))
        refine lv_aload_n hx hb dM_reach_59 rfl (lv_at hl 0 rfl) ?_
        refine va_get (D := D) (cl := xCl) (ci := 7) (v := .ref (ad (km + 21))) (C := rnM) (T := tbM) (N := 39) hx hb hts inM hown hK hP km hM.1 rfl 33 (by decide) (hts _ tw_650) (fun _ h9 => h9) rfl dM_reach_60 ?_
        refine lv_aload_n hx hb dM_reach_63 rfl (lv_at hl 0 rfl) ?_
        refine va_get (D := D) (cl := xCl) (ci := 7) (v := .ref (ad (km + 14))) (C := rnM) (T := tbM) (N := 39) hx hb hts inM hown hK hP km hM.1 rfl 23 (by decide) (hts _ tw_640) (fun _ h9 => h9) rfl dM_reach_64 ?_
        refine lv_bipush (v := 30) hx hb dM_reach_67 (by decide) ?_
        refine lv_iload_n hx hb dM_reach_69 rfl (lv_at hl 3 rfl) ?_
        refine lv_imul hx hb dM_reach_70 ?_
        refine lv_topi (fun v_28 ev_28 => ?_)
        obtain rfl : v_28 = nI (30 * (n - 1)) := by rw [ev_28, show (30 : Int32) = nI 30 from rfl, pk_mul]
        refine lv_iload hx hb dM_reach_71 (lv_at hl 4 rfl) ?_
        refine lv_iadd hx hb dM_reach_73 ?_
        refine lv_topi (fun v_29 ev_29 => ?_)
        obtain rfl : v_29 = nI (30 * (n - 1) + i) := by rw [ev_29, nI_add]
        refine va_iald hx hb hK hP (km + 14) 0 (hM.a 14 1800 rfl (by omega) (by omega)) hI (vp_in_nI (by omega) (by omega)) dM_reach_74 ?_
        refine lv_topi (fun v_30 ev_30 => ?_)
        obtain rfl : v_30 = nI (S (n - 1))[i] := by rw [ev_30]; show F2 14 (nI (30 * (n - 1) + i)).toNatClampNeg = _; rw [nI_clamp (by omega)]; exact huL2.2.2.2 i hi2
        refine lv_iconst (v := 0) hx hb dM_reach_75 (by decide) ?_
        refine va_iast hx hb hK hP hD hS (km + 21) 0 (hM.a 21 30 rfl (by omega) (by omega)) hI (vp_in_nI (by omega) (by omega)) dM_reach_76 (fun H locs hP hD hS => ?_)
        obtain ⟨ws_32, hu_31, hP, hD⟩ := x_gen (hM.a 21 30 rfl (by omega) (by omega)) hP hD
        have hM : ModF cI ad ws_32 km v2 (setF (setF F2 20 ((upd (F2 20) ((nI (S (n - 1))[i])).toNatClampNeg ((-1))))) 21 ((upd (F2 21) ((nI (S (n - 1))[i])).toNatClampNeg 0))) := hM.arr 21 30 rfl (by omega) (by omega) hu_31
        have hF := hF.tr (hu_31.fr (a := km) (b := km + 24) (by omega) (by omega))
        refine lv_iinc (v := (nI (i + 1))) (lv' := [(4, .int (nI (i + 1))), (0, .ref (ad km)), (1, .int 1), (2, .int mo), (3, .int (nI (n - 1)))]) hx hb dM_reach_77 hl (k := 4) rfl (nI_1 _) (by decide) rfl (fun ls hl => ?_)
        refine lv_goto (tgt := 14) hx hb dM_reach_80 (by decide) ?_
        exact ih (i + 1) v2 (setF (setF F2 20 ((upd (F2 20) ((nI (S (n - 1))[i])).toNatClampNeg ((-1))))) 21 ((upd (F2 21) ((nI (S (n - 1))[i])).toNatClampNeg 0))) ws_32 _ _ _ hF hM (hvk.tr hvk2) (hfk.tr ((hfk2.wd (by simp)).tr ((fk_s (by simp)).tr (fk_s (by simp))))) (by omega) (by rw [List.take_succ_eq_append_getElem hi2]; exact hS2.c2 rfl rfl rfl) (fun u hu => by rw [List.take_succ_eq_append_getElem hi2] at hu; show upd (F2 20) (nI (S (n - 1))[i]).toNatClampNeg (-1) u = -1 ∧ upd (F2 21) (nI (S (n - 1))[i]).toNatClampNeg 0 u = 0; rw [nI_clamp (by omega)]; by_cases z9 : u = (S (n - 1))[i]; (rw [z9, upd_s9, upd_s9]; exact ⟨rfl, rfl⟩); (rw [upd_o z9, upd_o z9, hfk2 20 (by simp), hfk2 21 (by simp)]; exact hz9 u ((List.mem_append.mp hu).resolve_right (fun z8 => z9 (List.mem_singleton.mp z8))))) (by omega) hP hD hS (lv_sub hl [1, 2, 3, 4, 0] rfl)
  refine lv_aload_n hx hb dM_reach_0 rfl (lv_at hl 0 rfl) ?_
  refine va_get (D := D) (cl := xCl) (ci := 7) (v := .int (v 28)) (C := rnM) (T := tbM) (N := 39) hx hb hts inM hown hK hP km hM.1 rfl 28 (by decide) (hts _ tw_645) (fun _ h9 => h9) rfl dM_reach_1 ?_
  refine lv_iconst (v := 1) hx hb dM_reach_4 (by decide) ?_
  refine lv_isub hx hb dM_reach_5 ?_
  refine lv_topi (fun v_33 ev_33 => ?_)
  obtain rfl : v_33 = nI (n - 1) := by rw [ev_33, hv28, show (1 : Int32) = nI 1 from rfl, pk_sub (by omega)]
  refine lv_istore_n (lv' := [(3, .int (nI (n - 1))), (0, .ref (ad km)), (1, .int 1), (2, .int mo)]) hx hb dM_reach_6 rfl hl (by decide) rfl (fun ls hl => ?_)
  refine lv_aload_n hx hb dM_reach_7 rfl (lv_at hl 1 rfl) ?_
  refine x_callv (x_runV (n := 0) (As := []) (rest := []) ⟨hx, hb, hml, hown, hts⟩ (cM_begin l D tys A ws cI hI ad km v F n S hS0 (by omega) hM) tw_833 tw_835 ts_M_begin tw_8 tw_836 (by decide +kernel) rfl rfl ⟨by decide, by decide⟩ ⟨Nat.zero_le _, Nat.zero_le _⟩ (va_recv hK hP (ci := 7) (q0 := km) rfl hM.1) hK hP hD hS hA hN rfl hl.1 rfl (lv_room (Nat.le_of_ble_eq_true rfl)) dM_reach_8) hS (fun ws_34 H locs hbe hP hD hS => ?_)
  obtain ⟨hF9, v1, F1, hM, hS1, hvk, hfk⟩ := hbe
  have hF := hF.tr hF9
  refine lv_iconst (v := 0) hx hb dM_reach_11 (by decide) ?_
  refine lv_istore (lv' := [(4, .int 0), (3, .int (nI (n - 1))), (0, .ref (ad km)), (1, .int 1), (2, .int mo)]) hx hb dM_reach_12 hl (by decide) rfl (fun ls hl => ?_)
  exact loop_14 _ 0 v1 F1 ws_34 _ _ _ hF hM hvk (hfk.wd (by simp)) (Nat.zero_le _) (by rw [List.take_zero]; exact hS1) (fun u hu => by rw [List.take_zero] at hu; cases hu) (Nat.lt_succ_self _) hP hD hS (lv_sub hl [2, 3, 4, 1, 0] rfl)
