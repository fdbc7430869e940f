-- ===== the model's lists =====
/-- n lists stand in the model's rows: S i is the i-th -/
def MLs (v : Nat → Int32) (F : Nat → Nat → Int32) (n : Nat) (S : Nat → List Nat) : Prop := v 28 = nI n ∧ n ≤ 60 ∧ ∀ i, i < n → (S i).length ≤ 30 ∧ F 15 i = nI (S i).length ∧ (∀ t ∈ S i, t < 30) ∧ ∀ (j : Nat) (h : j < (S i).length), F 14 (30 * i + j) = nI (S i)[j]
/-- numbers but those of the list, and rows but those of the list, stay -/
def vk (a : List Nat) (v v1 : Nat → Int32) : Prop := ∀ j, j ∉ a → v1 j = v j
def fk (a : List Nat) (F F1 : Nat → Nat → Int32) : Prop := ∀ j, j ∉ a → F1 j = F j
theorem vk.rf {a : List Nat} {v : Nat → Int32} : vk a v v := fun _ _ => rfl
theorem fk.rf {a : List Nat} {F : Nat → Nat → Int32} : fk a F F := fun _ _ => rfl
theorem vk.tr {a : List Nat} {u v w : Nat → Int32} (h : vk a u v) (h2 : vk a v w) : vk a u w := fun j hj => (h2 j hj).trans (h j hj)
theorem fk.tr {a : List Nat} {u v w : Nat → Nat → Int32} (h : fk a u v) (h2 : fk a v w) : fk a u w := fun j hj => (h2 j hj).trans (h j hj)
theorem vk.set {a : List Nat} {v : Nat → Int32} {j : Nat} {x : Int32} (h : j ∈ a) : vk a v (setV v j x) := fun i hi => if_neg (fun e : i = j => hi (by rw [e]; exact h))
theorem fk.set {a : List Nat} {F : Nat → Nat → Int32} {j : Nat} {f : Nat → Int32} (h : j ∈ a) : fk a F (setF F j f) := fun i hi => if_neg (fun e : i = j => hi (by rw [e]; exact h))
theorem vk.wd {a b : List Nat} {v w : Nat → Int32} (h : vk a v w) (hs : ∀ x ∈ a, x ∈ b) : vk b v w := fun j hj => h j (fun q => hj (hs j q))
theorem fk.wd {a b : List Nat} {v w : Nat → Nat → Int32} (h : fk a v w) (hs : ∀ x ∈ a, x ∈ b) : fk b v w := fun j hj => h j (fun q => hj (hs j q))

set_option maxHeartbeats 4000000 in
set_option maxRecDepth 100000 in
theorem cM_isIn (l : Launch) (D : va_G) (tys : List (ClassId × FieldType)) (A : Nat → Prop) (ws : va_W) (cI : ClassId) (hI : tys[0]? = some (cI, .int)) (ad : Nat → Nat) (km : Nat) (v : Nat → Int32) (F : Nat → Nat → Int32) (b tt : Nat) (L : List Nat) (hLl : L.length ≤ 30) (hbl : b ≤ 1770) (htt : tt < 2 ^ 31) (hL : ∀ (i : Nat) (h : i < L.length), L[i] < 30) (hrow : ∀ (j : Nat) (h : j < L.length), F 14 (b + j) = nI L[j]) (hM : ModF cI ad ws km v F) : x_Mi l yM_isIn wM_isIn (xR 0) D xCl tys A [.ref (ad km), .int (nI b), .int (nI L.length), .int (nI tt)] ws (fun r ws1 => r = b2i (decide (tt ∈ L)) ∧ ws = ws1) := by
  have hF : x_fr km (km + 24) ws ws := x_fr.rf
  refine x_enter (by decide) rfl (Nat.le_of_ble_eq_true rfl) (fun p e s m args below meth c ls hx hb hr hlk hml hown hnm hts hK hP hD hS hA hN hl => ?_)
  have hl : lv_has ls 6 [(0, .ref (ad km)), (1, .int (nI b)), (2, .int (nI L.length)), (3, .int (nI tt))] := hl
  have loop_6 : ∀ (n : Nat) (i : Nat) (bb : Int32) (hi : i ≤ L.length) (ws1 : va_W) (H : Heap) (locs : List Loc) (ls : Array Slot), bb = b2i (decide (tt ∈ L.take i)) → ws = ws1 → L.length - i < n → va_P D xCl ws1 H → va_D A ws1 → va_S A s.heap H locs → lv_has ls 6 [(0, .ref (ad km)), (1, .int (nI b)), (2, .int (nI L.length)), (3, .int (nI tt)), (4, .int bb), (5, .int (nI i))] → W p l e (xR 0) s m args below meth c H locs 0 0 (MQ below (va_Qi (fun r ws1 => r = b2i (decide (tt ∈ L)) ∧ ws = ws1) (x_B D xCl tys A) A) args s 0 0 A) (F0 m 6 ls []) := by
    intro n
    induction n with
    | zero => intro i bb hi ws1 H locs ls hbb hws hme; exact absurd hme (Nat.not_lt_zero _)
    | succ n ih =>
      intro i bb hi ws1 H locs ls hbb hws hme hP hD hS hl
      subst hws
      refine lv_iload hx hb dM_isIn_6 (lv_at hl 5 rfl) ?_
      refine lv_iload_n hx hb dM_isIn_8 rfl (lv_at hl 2 rfl) ?_
      refine lv_icmp_ge (tgt := 43) hx hb dM_isIn_9 (by decide) (fun c9 => ?_) (fun c9 => ?_)
      · refine lv_iload hx hb dM_isIn_43 (lv_at hl 4 rfl) ?_
        exact x_zret hx hb hr (by rw [hbb]; exact b2i_nar _) hlk hK hP hD hS dM_isIn_45 ⟨by rw [hbb]; have e : L.take i = L := List.take_of_length_le (by rw [nI_leI (by omega) (by omega)] at c9; exact c9); rw [e], rfl⟩
      · have hi2 : i < L.length := by rw [nI_leI (by omega) (by omega)] at c9; omega
        refine lv_iload hx hb dM_isIn_12 (lv_at hl 4 rfl) ?_
        refine lv_if_ne (tgt := 30) hx hb dM_isIn_14 (by decide) (fun c14 => ?_) (fun c14 => ?_)
        · refine lv_iconst (v := 1) hx hb dM_isIn_30 (by decide) ?_
          refine lv_goto (tgt := 35) hx hb dM_isIn_31 (by decide) ?_
          refine lv_istore (lv' := [(4, .int 1), (0, .ref (ad km)), (1, .int (nI b)), (2, .int (nI L.length)), (3, .int (nI tt)), (5, .int (nI i))]) hx hb dM_isIn_35 hl (by decide) rfl (fun ls hl => ?_)
          refine lv_iinc (v := (nI (i + 1))) (lv' := [(5, .int (nI (i + 1))), (4, .int 1), (0, .ref (ad km)), (1, .int (nI b)), (2, .int (nI L.length)), (3, .int (nI tt))]) hx hb dM_isIn_37 hl (k := 5) rfl (nI_1 _) (by decide) rfl (fun ls hl => ?_)
          refine lv_goto (tgt := 6) hx hb dM_isIn_40 (by decide) ?_
          exact ih (i + 1) 1 (by omega) ws _ _ _ (by rw [hbb, b2i_n0, decide_eq_true_eq] at c14; rw [decide_eq_true (p := tt ∈ L.take (i + 1)) (List.mem_of_mem_take9 c14 hi2)]; rfl) rfl (by omega) hP hD hS (lv_sub hl [2, 3, 4, 5, 1, 0] rfl)
        · refine lv_aload_n hx hb dM_isIn_17 rfl (lv_at hl 0 rfl) ?_
          refine va_get (D := D) (cl := xCl) (ci := 7) (v := .ref (ad (km + 14))) (C := rnM) (T := tbM) (N := 39) hx hb hts inM hown hK hP km hM.1 rfl 23 (by decide) (hts _ tw_640) (fun _ h9 => h9) rfl dM_isIn_18 ?_
          refine lv_iload_n hx hb dM_isIn_21 rfl (lv_at hl 1 rfl) ?_
          refine lv_iload hx hb dM_isIn_22 (lv_at hl 5 rfl) ?_
          refine lv_iadd hx hb dM_isIn_24 ?_
          refine lv_topi (fun v_1 ev_1 => ?_)
          refine va_iald hx hb hK hP (km + 14) 0 (hM.a 14 1800 rfl (by omega) (by omega)) hI (by rw [ev_1, nI_add]; exact vp_in_nI (by omega) (by omega)) dM_isIn_25 ?_
          refine lv_topi (fun v_2 ev_2 => ?_)
          refine lv_iload_n hx hb dM_isIn_26 rfl (lv_at hl 3 rfl) ?_
          refine lv_icmp_ne (tgt := 34) hx hb dM_isIn_27 (by decide) (fun c27 => ?_) (fun c27 => ?_)
          · refine lv_iconst (v := 0) hx hb dM_isIn_34 (by decide) ?_
            refine lv_istore (lv' := [(4, .int 0), (0, .ref (ad km)), (1, .int (nI b)), (2, .int (nI L.length)), (3, .int (nI tt)), (5, .int (nI i))]) hx hb dM_isIn_35 hl (by decide) rfl (fun ls hl => ?_)
            refine lv_iinc (v := (nI (i + 1))) (lv' := [(5, .int (nI (i + 1))), (4, .int 0), (0, .ref (ad km)), (1, .int (nI b)), (2, .int (nI L.length)), (3, .int (nI tt))]) hx hb dM_isIn_37 hl (k := 5) rfl (nI_1 _) (by decide) rfl (fun ls hl => ?_)
            refine lv_goto (tgt := 6) hx hb dM_isIn_40 (by decide) ?_
            exact ih (i + 1) 0 (by omega) ws _ _ _ (by rw [hbb, b2i_0, decide_eq_false_iff_not] at c14; rw [ev_2, ev_1, nI_add, nI_clamp (by omega), hrow i hi2, nI_eq (by have := hL i hi2; omega) (by omega)] at c27; rw [decide_eq_false (p := tt ∈ L.take (i + 1)) (take_out hi2 c14 (fun z => c27 (by rw [← z]; simp [hi2])))]; rfl) rfl (by omega) hP hD hS (lv_sub hl [2, 3, 4, 5, 1, 0] rfl)
          · refine lv_iconst (v := 1) hx hb dM_isIn_30 (by decide) ?_
            refine lv_goto (tgt := 35) hx hb dM_isIn_31 (by decide) ?_
            refine lv_istore (lv' := [(4, .int 1), (0, .ref (ad km)), (1, .int (nI b)), (2, .int (nI L.length)), (3, .int (nI tt)), (5, .int (nI i))]) hx hb dM_isIn_35 hl (by decide) rfl (fun ls hl => ?_)
            refine lv_iinc (v := (nI (i + 1))) (lv' := [(5, .int (nI (i + 1))), (4, .int 1), (0, .ref (ad km)), (1, .int (nI b)), (2, .int (nI L.length)), (3, .int (nI tt))]) hx hb dM_isIn_37 hl (k := 5) rfl (nI_1 _) (by decide) rfl (fun ls hl => ?_)
            refine lv_goto (tgt := 6) hx hb dM_isIn_40 (by decide) ?_
            exact ih (i + 1) 1 (by omega) ws _ _ _ (by rw [hbb, b2i_0, decide_eq_false_iff_not] at c14; rw [ev_2, ev_1, nI_add, nI_clamp (by omega), hrow i hi2, nI_eq (by have := hL i hi2; omega) (by omega)] at c27; rw [decide_eq_true (p := tt ∈ L.take (i + 1)) (take_in hi2 (by rw [← c27]; simp [hi2]))]; rfl) rfl (by omega) hP hD hS (lv_sub hl [2, 3, 4, 5, 1, 0] rfl)
  refine lv_iconst (v := 0) hx hb dM_isIn_0 (by decide) ?_
  refine lv_istore (lv' := [(4, .int 0), (0, .ref (ad km)), (1, .int (nI b)), (2, .int (nI L.length)), (3, .int (nI tt))]) hx hb dM_isIn_1 hl (by decide) rfl (fun ls hl => ?_)
  refine lv_iconst (v := 0) hx hb dM_isIn_3 (by decide) ?_
  refine lv_istore (lv' := [(5, .int 0), (4, .int 0), (0, .ref (ad km)), (1, .int (nI b)), (2, .int (nI L.length)), (3, .int (nI tt))]) hx hb dM_isIn_4 hl (by decide) rfl (fun ls hl => ?_)
  exact loop_6 _ 0 0 (Nat.zero_le _) ws _ _ _ (by rw [List.take_zero]; rfl) rfl (Nat.lt_succ_self _) hP hD hS (lv_sub hl [2, 3, 4, 5, 1, 0] rfl)

set_option maxHeartbeats 4000000 in
set_option maxRecDepth 100000 in
theorem cM_has (l : Launch) (D : va_G) (tys : List (ClassId × FieldType)) (A : Nat → Prop) (ws : va_W) (cI : ClassId) (hI : tys[0]? = some (cI, .int)) (ad : Nat → Nat) (km : Nat) (v : Nat → Int32) (F : Nat → Nat → Int32) (n : Nat) (S : Nat → List Nat) (hS0 : MLs v F n S) (kk tt : Nat) (hkk : kk < n) (htt : tt < 2 ^ 31) (hM : ModF cI ad ws km v F) : x_Mi l yM_has wM_has (xR 1) D xCl tys A [.ref (ad km), .int (nI kk), .int (nI tt)] ws (fun r ws1 => r = b2i (decide (tt ∈ S (n - 1 - kk))) ∧ ws = ws1) := by
  have hF : x_fr km (km + 24) ws ws := x_fr.rf
  obtain ⟨hv28, hn60, hSi⟩ := id hS0
  refine x_enter (by decide) rfl (Nat.le_of_ble_eq_true rfl) (fun p e s m args below meth c ls hx hb hr hlk hml hown hnm hts hK hP hD hS hA hN hl => ?_)
  have hl : lv_has ls 3 [(0, .ref (ad km)), (1, .int (nI kk)), (2, .int (nI tt))] := hl
  refine lv_aload_n hx hb dM_has_0 rfl (lv_at hl 0 rfl) ?_
  refine lv_bipush (v := 30) hx hb dM_has_1 (by decide) ?_
  refine lv_aload_n hx hb dM_has_3 rfl (lv_at hl 0 rfl) ?_
  refine va_get (D := D) (cl := xCl) (ci := 7) (v := .int (v 28)) (C := rnM) (T := tbM) (N := 39) hx hb hts inM hown hK hP km hM.1 rfl 28 (by decide) (hts _ tw_645) (fun _ h9 => h9) rfl dM_has_4 ?_
  refine lv_iconst (v := 1) hx hb dM_has_7 (by decide) ?_
  refine lv_isub hx hb dM_has_8 ?_
  refine lv_topi (fun v_1 ev_1 => ?_)
  obtain rfl : v_1 = nI (n - 1) := by rw [ev_1, hv28, show (1 : Int32) = nI 1 from rfl, pk_sub (by omega)]
  refine lv_iload_n hx hb dM_has_9 rfl (lv_at hl 1 rfl) ?_
  refine lv_isub hx hb dM_has_10 ?_
  refine lv_topi (fun v_2 ev_2 => ?_)
  obtain rfl : v_2 = nI (n - 1 - kk) := by rw [ev_2, pk_sub (by omega)]
  refine lv_imul hx hb dM_has_11 ?_
  refine lv_topi (fun v_3 ev_3 => ?_)
  obtain rfl : v_3 = nI (30 * (n - 1 - kk)) := by rw [ev_3, show (30 : Int32) = nI 30 from rfl, pk_mul]
  refine lv_aload_n hx hb dM_has_12 rfl (lv_at hl 0 rfl) ?_
  refine va_get (D := D) (cl := xCl) (ci := 7) (v := .ref (ad (km + 15))) (C := rnM) (T := tbM) (N := 39) hx hb hts inM hown hK hP km hM.1 rfl 24 (by decide) (hts _ tw_641) (fun _ h9 => h9) rfl dM_has_13 ?_
  refine lv_aload_n hx hb dM_has_16 rfl (lv_at hl 0 rfl) ?_
  refine va_get (D := D) (cl := xCl) (ci := 7) (v := .int (v 28)) (C := rnM) (T := tbM) (N := 39) hx hb hts inM hown hK hP km hM.1 rfl 28 (by decide) (hts _ tw_645) (fun _ h9 => h9) rfl dM_has_17 ?_
  refine lv_iconst (v := 1) hx hb dM_has_20 (by decide) ?_
  refine lv_isub hx hb dM_has_21 ?_
  refine lv_topi (fun v_4 ev_4 => ?_)
  obtain rfl : v_4 = nI (n - 1) := by rw [ev_4, hv28, show (1 : Int32) = nI 1 from rfl, pk_sub (by omega)]
  refine lv_iload_n hx hb dM_has_22 rfl (lv_at hl 1 rfl) ?_
  refine lv_isub hx hb dM_has_23 ?_
  refine lv_topi (fun v_5 ev_5 => ?_)
  obtain rfl : v_5 = nI (n - 1 - kk) := by rw [ev_5, pk_sub (by omega)]
  refine va_iald hx hb hK hP (km + 15) 0 (hM.a 15 60 rfl (by omega) (by omega)) hI (vp_in_nI (by omega) (by omega)) dM_has_24 ?_
  refine lv_topi (fun v_6 ev_6 => ?_)
  obtain rfl : v_6 = nI ((S (n - 1 - kk)).length) := by rw [ev_6, nI_clamp (by omega), (hSi _ (by omega)).2.1]
  refine lv_iload_n hx hb dM_has_25 rfl (lv_at hl 2 rfl) ?_
  refine x_calli (x_runV (n := 3) (As := [.int (nI (30 * (n - 1 - kk))), .int (nI ((S (n - 1 - kk)).length)), .int (nI tt)]) (rest := []) ⟨hx, hb, hml, hown, hts⟩ (cM_isIn l D tys A ws cI hI ad km v F (30 * (n - 1 - kk)) tt (S (n - 1 - kk)) (hSi _ (by omega)).1 (by omega) htt (fun i h => (hSi _ (by omega)).2.2.1 _ (List.getElem_mem h)) (fun j h => (hSi _ (by omega)).2.2.2 j h) hM) tw_849 tw_851 ts_M_isIn tw_8 tw_852 (by decide +kernel) rfl rfl ⟨by decide, by decide⟩ ⟨Nat.zero_le _, Nat.zero_le _⟩ (va_recv hK hP (ci := 7) (q0 := km) rfl hM.1) hK hP hD hS hA hN rfl hl.1 rfl (lv_room (Nat.le_of_ble_eq_true rfl)) dM_has_26) hS (fun rii ws_7 H locs hii hP hD hS => ?_)
  obtain ⟨hii, rfl⟩ := hii
  exact x_zret hx hb hr (by rw [hii]; exact b2i_nar _) hlk hK hP hD hS dM_has_29 ⟨hii, rfl⟩

theorem MLs.begin {v v1 : Nat → Int32} {F F1 : Nat → Nat → Int32} {n : Nat} {S : Nat → List Nat} (h : MLs v F n S) (hn : n < 60) (ev : v1 28 = nI (n + 1)) (e1 : F1 15 = upd (F 15) n 0) (e2 : F1 14 = F 14) : MLs v1 F1 (n + 1) (updJ S n []) := by
  refine ⟨ev, by omega, fun i hi => ?_⟩
  unfold updJ
  rw [e1, e2]
  unfold upd
  by_cases e : i = n
  · rw [if_pos e, if_pos e]
    exact ⟨Nat.zero_le _, rfl, fun t ht => absurd ht List.not_mem_nil, fun j hj => absurd hj (Nat.not_lt_zero j)⟩
  · rw [if_neg e, if_neg e]
    exact h.2.2 i (by omega)
theorem MLs.push {v v1 : Nat → Int32} {F F1 : Nat → Nat → Int32} {n tt : Nat} {S : Nat → List Nat} (h : MLs v F n S) (hn : 1 ≤ n) (ht : tt < 30) (hl : (S (n - 1)).length < 30) (ev : v1 28 = v 28) (e1 : F1 15 = upd (F 15) (n - 1) (nI ((S (n - 1)).length + 1))) (e2 : F1 14 = upd (F 14) (30 * (n - 1) + (S (n - 1)).length) (nI tt)) : MLs v1 F1 n (updJ S (n - 1) (S (n - 1) ++ [tt])) := by
  refine ⟨by rw [ev]; exact h.1, h.2.1, fun i hi => ?_⟩
  obtain ⟨h1, h2, h3, h4⟩ := h.2.2 i hi
  unfold updJ
  rw [e1, e2]
  unfold upd
  by_cases e : i = n - 1
  · subst e
    rw [if_pos rfl, if_pos rfl]
    refine ⟨by rw [List.length_append]; exact hl, by rw [List.length_append]; rfl, ?_, ?_⟩
    · intro t h9
      rcases List.mem_append.mp h9 with z | z
      · exact h3 t z
      · rw [List.mem_singleton] at z; omega
    · intro j hj
      by_cases e9 : j = (S (n - 1)).length
      · rw [if_pos (by omega)]; subst e9; simp
      · have hj2 : j < (S (n - 1)).length := by
          have : j < (S (n - 1) ++ [tt]).length := hj
          rw [List.length_append] at this
          simp only [List.length_singleton] at this
          omega
        rw [if_neg (by omega), List.getElem_append_left hj2]
        exact h4 j hj2
  · rw [if_neg e, if_neg e]
    refine ⟨h1, h2, h3, fun j hj => ?_⟩
    rw [if_neg (by omega)]
    exact h4 j hj

set_option maxHeartbeats 4000000 in
set_option maxRecDepth 100000 in
theorem cM_begin (l : Launch) (D : va_G) (tys : List (ClassId × FieldType)) (A : Nat → Prop) (ws : va_W) (cI : ClassId) (hI : tys[0]? = some (cI, .int)) (ad : Nat → Nat) (km : Nat) (v : Nat → Int32) (F : Nat → Nat → Int32) (n : Nat) (S : Nat → List Nat) (hS0 : MLs v F n S) (hn : n < 60) (hM : ModF cI ad ws km v F) : x_Mv l yM_begin wM_begin (xR 0) D xCl tys A [.ref (ad km)] ws (fun ws1 => x_fr km (km + 24) ws ws1 ∧ ∃ v1 F1, ModF cI ad ws1 km v1 F1 ∧ MLs v1 F1 (n + 1) (updJ S n []) ∧ vk [28] v v1 ∧ fk [14, 15] F F1) := by
  have hF : x_fr km (km + 24) ws ws := x_fr.rf
  obtain ⟨hv28, hn60, hSi⟩ := id hS0
  refine x_enter (by decide) rfl (Nat.le_of_ble_eq_true rfl) (fun p e s m args below meth c ls hx hb hr hlk hml hown hnm hts hK hP hD hS hA hN hl => ?_)
  have hl : lv_has ls 1 [(0, .ref (ad km))] := hl
  refine lv_aload_n hx hb dM_begin_0 rfl (lv_at hl 0 rfl) ?_
  refine va_get (D := D) (cl := xCl) (ci := 7) (v := .ref (ad (km + 15))) (C := rnM) (T := tbM) (N := 39) hx hb hts inM hown hK hP km hM.1 rfl 24 (by decide) (hts _ tw_641) (fun _ h9 => h9) rfl dM_begin_1 ?_
  refine lv_aload_n hx hb dM_begin_4 rfl (lv_at hl 0 rfl) ?_
  refine va_get (D := D) (cl := xCl) (ci := 7) (v := .int (v 28)) (C := rnM) (T := tbM) (N := 39) hx hb hts inM hown hK hP km hM.1 rfl 28 (by decide) (hts _ tw_645) (fun _ h9 => h9) rfl dM_begin_5 ?_
  refine lv_iconst (v := 0) hx hb dM_begin_8 (by decide) ?_
  refine va_iast hx hb hK hP hD hS (km + 15) 0 (hM.a 15 60 rfl (by omega) (by omega)) hI (by rw [hv28]; exact vp_in_nI (by omega) (by omega)) dM_begin_9 (fun H locs hP hD hS => ?_)
  obtain ⟨ws_2, hu_1, hP, hD⟩ := x_gen (hM.a 15 60 rfl (by omega) (by omega)) hP hD
  have hM : ModF cI ad ws_2 km v (setF F 15 ((upd (F 15) ((v 28)).toNatClampNeg 0))) := hM.arr 15 60 rfl (by omega) (by omega) hu_1
  have hF := hF.tr (hu_1.fr (a := km) (b := km + 24) (by omega) (by omega))
  refine lv_aload_n hx hb dM_begin_10 rfl (lv_at hl 0 rfl) ?_
  refine lv_dup hx hb dM_begin_11 rfl ?_
  refine va_get (D := D) (cl := xCl) (ci := 7) (v := .int (v 28)) (C := rnM) (T := tbM) (N := 39) hx hb hts inM hown hK hP km hM.1 rfl 28 (by decide) (hts _ tw_645) (fun _ h9 => h9) rfl dM_begin_12 ?_
  refine lv_iconst (v := 1) hx hb dM_begin_15 (by decide) ?_
  refine lv_iadd hx hb dM_begin_16 ?_
  refine lv_topi (fun v_3 ev_3 => ?_)
  obtain rfl := ev_3
  refine va_put (D := D) (cl := xCl) (ci := 7) (v := .int (v 28 + 1)) (ty := .int) (C := rnM) (T := tbM) (N := 39) hx hb hts inM tyM toM nmM hown hK hP hD hS km hM.1 rfl 28 (by decide) (hts _ tw_645) (fun _ h9 => h9) rfl (by decide +kernel) rfl rfl (Nat.le_of_ble_eq_true rfl) dM_begin_17 (fun H locs hP hD hS => ?_)
  obtain ⟨ws_5, hu_4, hP, hD⟩ := x_gen hM.1 hP hD
  have hM : ModF cI ad ws_5 km (setV v 28 ((v 28 + 1))) (setF F 15 ((upd (F 15) ((v 28)).toNatClampNeg 0))) := hM.fld_28 hu_4
  have hF := hF.tr (hu_4.fr (a := km) (b := km + 24) (by omega) (by omega))
  exact x_vret hx hb hr hlk hK hP hD hS dM_begin_20 ⟨hF, _, _, hM, hS0.begin hn (by show v 28 + 1 = _; rw [hv28, nI_1]) (by show upd _ _ _ = _; rw [hv28, nI_clamp (by omega)]) rfl, vk.set (by simp), fk.set (by simp)⟩

set_option maxHeartbeats 4000000 in
set_option maxRecDepth 100000 in
theorem cM_add (l : Launch) (D : va_G) (tys : List (ClassId × FieldType)) (A : Nat → Prop) (ws : va_W) (cI : ClassId) (hI : tys[0]? = some (cI, .int)) (ad : Nat → Nat) (km : Nat) (v : Nat → Int32) (F : Nat → Nat → Int32) (n : Nat) (S : Nat → List Nat) (hS0 : MLs v F n S) (tt : Nat) (hn1 : 1 ≤ n) (htt : tt < 30) (hll : (S (n - 1)).length < 30) (hM : ModF cI ad ws km v F) : x_Mv l yM_add wM_add (xR 0) D xCl tys A [.ref (ad km), .int (nI tt)] ws (fun ws1 => x_fr km (km + 24) ws ws1 ∧ ∃ v1 F1, ModF cI ad ws1 km v1 F1 ∧ MLs v1 F1 n (updJ S (n - 1) (S (n - 1) ++ [tt])) ∧ vk [28] v v1 ∧ fk [14, 15] F F1) := by
  have hF : x_fr km (km + 24) ws ws := x_fr.rf
  obtain ⟨hv28, hn60, hSi⟩ := id hS0
  refine x_enter (by decide) rfl (Nat.le_of_ble_eq_true rfl) (fun p e s m args below meth c ls hx hb hr hlk hml hown hnm hts hK hP hD hS hA hN hl => ?_)
  have hl : lv_has ls 2 [(0, .ref (ad km)), (1, .int (nI tt))] := hl
  refine lv_aload_n hx hb dM_add_0 rfl (lv_at hl 0 rfl) ?_
  refine va_get (D := D) (cl := xCl) (ci := 7) (v := .ref (ad (km + 14))) (C := rnM) (T := tbM) (N := 39) hx hb hts inM hown hK hP km hM.1 rfl 23 (by decide) (hts _ tw_640) (fun _ h9 => h9) rfl dM_add_1 ?_
  refine lv_bipush (v := 30) hx hb dM_add_4 (by decide) ?_
  refine lv_aload_n hx hb dM_add_6 rfl (lv_at hl 0 rfl) ?_
  refine va_get (D := D) (cl := xCl) (ci := 7) (v := .int (v 28)) (C := rnM) (T := tbM) (N := 39) hx hb hts inM hown hK hP km hM.1 rfl 28 (by decide) (hts _ tw_645) (fun _ h9 => h9) rfl dM_add_7 ?_
  refine lv_iconst (v := 1) hx hb dM_add_10 (by decide) ?_
  refine lv_isub hx hb dM_add_11 ?_
  refine lv_topi (fun v_1 ev_1 => ?_)
  obtain rfl : v_1 = nI (n - 1) := by rw [ev_1, hv28, show (1 : Int32) = nI 1 from rfl, pk_sub (by omega)]
  refine lv_imul hx hb dM_add_12 ?_
  refine lv_topi (fun v_2 ev_2 => ?_)
  obtain rfl : v_2 = nI (30 * (n - 1)) := by rw [ev_2, show (30 : Int32) = nI 30 from rfl, pk_mul]
  refine lv_aload_n hx hb dM_add_13 rfl (lv_at hl 0 rfl) ?_
  refine va_get (D := D) (cl := xCl) (ci := 7) (v := .ref (ad (km + 15))) (C := rnM) (T := tbM) (N := 39) hx hb hts inM hown hK hP km hM.1 rfl 24 (by decide) (hts _ tw_641) (fun _ h9 => h9) rfl dM_add_14 ?_
  refine lv_aload_n hx hb dM_add_17 rfl (lv_at hl 0 rfl) ?_
  refine va_get (D := D) (cl := xCl) (ci := 7) (v := .int (v 28)) (C := rnM) (T := tbM) (N := 39) hx hb hts inM hown hK hP km hM.1 rfl 28 (by decide) (hts _ tw_645) (fun _ h9 => h9) rfl dM_add_18 ?_
  refine lv_iconst (v := 1) hx hb dM_add_21 (by decide) ?_
  refine lv_isub hx hb dM_add_22 ?_
  refine lv_topi (fun v_3 ev_3 => ?_)
  obtain rfl : v_3 = nI (n - 1) := by rw [ev_3, hv28, show (1 : Int32) = nI 1 from rfl, pk_sub (by omega)]
  refine va_iald hx hb hK hP (km + 15) 0 (hM.a 15 60 rfl (by omega) (by omega)) hI (vp_in_nI (by omega) (by omega)) dM_add_23 ?_
  refine lv_topi (fun v_4 ev_4 => ?_)
  obtain rfl : v_4 = nI ((S (n - 1)).length) := by rw [ev_4, nI_clamp (by omega), (hSi _ (by omega)).2.1]
  refine lv_iadd hx hb dM_add_24 ?_
  refine lv_topi (fun v_5 ev_5 => ?_)
  obtain rfl : v_5 = nI (30 * (n - 1) + (S (n - 1)).length) := by rw [ev_5, nI_add]
  refine lv_iload_n hx hb dM_add_25 rfl (lv_at hl 1 rfl) ?_
  refine va_iast hx hb hK hP hD hS (km + 14) 0 (hM.a 14 1800 rfl (by omega) (by omega)) hI (vp_in_nI (by omega) (by omega)) dM_add_26 (fun H locs hP hD hS => ?_)
  obtain ⟨ws_7, hu_6, hP, hD⟩ := x_gen (hM.a 14 1800 rfl (by omega) (by omega)) hP hD
  have hM : ModF cI ad ws_7 km v (setF F 14 ((upd (F 14) ((nI (30 * (n - 1) + (S (n - 1)).length))).toNatClampNeg ((nI tt))))) := hM.arr 14 1800 rfl (by omega) (by omega) hu_6
  have hF := hF.tr (hu_6.fr (a := km) (b := km + 24) (by omega) (by omega))
  refine lv_aload_n hx hb dM_add_27 rfl (lv_at hl 0 rfl) ?_
  refine va_get (D := D) (cl := xCl) (ci := 7) (v := .ref (ad (km + 15))) (C := rnM) (T := tbM) (N := 39) hx hb hts inM hown hK hP km hM.1 rfl 24 (by decide) (hts _ tw_641) (fun _ h9 => h9) rfl dM_add_28 ?_
  refine lv_aload_n hx hb dM_add_31 rfl (lv_at hl 0 rfl) ?_
  refine va_get (D := D) (cl := xCl) (ci := 7) (v := .int (v 28)) (C := rnM) (T := tbM) (N := 39) hx hb hts inM hown hK hP km hM.1 rfl 28 (by decide) (hts _ tw_645) (fun _ h9 => h9) rfl dM_add_32 ?_
  refine lv_iconst (v := 1) hx hb dM_add_35 (by decide) ?_
  refine lv_isub hx hb dM_add_36 ?_
  refine lv_topi (fun v_8 ev_8 => ?_)
  obtain rfl : v_8 = nI (n - 1) := by rw [ev_8, hv28, show (1 : Int32) = nI 1 from rfl, pk_sub (by omega)]
  refine lv_dup2_11 hx hb dM_add_37 rfl rfl ?_
  refine va_iald hx hb hK hP (km + 15) 0 (hM.a 15 60 rfl (by omega) (by omega)) hI (vp_in_nI (by omega) (by omega)) dM_add_38 ?_
  refine lv_topi (fun v_9 ev_9 => ?_)
  obtain rfl : v_9 = nI ((S (n - 1)).length) := by rw [ev_9]; show F 15 _ = _; rw [nI_clamp (by omega), (hSi _ (by omega)).2.1]
  refine lv_iconst (v := 1) hx hb dM_add_39 (by decide) ?_
  refine lv_iadd hx hb dM_add_40 ?_
  refine lv_topi (fun v_10 ev_10 => ?_)
  obtain rfl : v_10 = nI ((S (n - 1)).length + 1) := by rw [ev_10, nI_1]
  refine va_iast hx hb hK hP hD hS (km + 15) 0 (hM.a 15 60 rfl (by omega) (by omega)) hI (vp_in_nI (by omega) (by omega)) dM_add_41 (fun H locs hP hD hS => ?_)
  obtain ⟨ws_12, hu_11, hP, hD⟩ := x_gen (hM.a 15 60 rfl (by omega) (by omega)) hP hD
  have hM : ModF cI ad ws_12 km v (setF (setF F 14 ((upd (F 14) ((nI (30 * (n - 1) + (S (n - 1)).length))).toNatClampNeg ((nI tt))))) 15 ((upd (F 15) ((nI (n - 1))).toNatClampNeg ((nI ((S (n - 1)).length + 1)))))) := hM.arr 15 60 rfl (by omega) (by omega) hu_11
  have hF := hF.tr (hu_11.fr (a := km) (b := km + 24) (by omega) (by omega))
  exact x_vret hx hb hr hlk hK hP hD hS dM_add_42 ⟨hF, _, _, hM, hS0.push hn1 htt hll rfl (by show upd _ _ _ = _; rw [nI_clamp (by omega)]) (by show upd _ _ _ = _; rw [nI_clamp (by omega)]), vk.rf, (fk.set (by simp)).tr (fk.set (by simp))⟩
