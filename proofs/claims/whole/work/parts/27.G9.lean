set_option maxHeartbeats 4000000 in
set_option maxRecDepth 100000 in
/-- Integer.bitCount(x) -/
theorem cI_bitCount (l : Launch) (D : va_G) (tys : List (ClassId × FieldType)) (A : Nat → Prop) (ws : va_W) (x : Int32) : x_Mi l yI_bitCount wI_bitCount (xR 0) D xCl tys A [.int x] ws (fun r ws1 => r = nI (pcnt x) ∧ ws = ws1) := by
  refine x_enter (by decide) rfl (Nat.le_of_ble_eq_true rfl) (fun p e s m args below meth c ls hx hb hr hlk hml hown hnm hts hK hP hD hS hA hN hl => ?_)
  have hl : lv_has ls 1 [(0, .int x)] := hl
  refine lv_iload_n hx hb dI_bitCount_0 rfl (lv_at hl 0 rfl) ?_
  refine lv_iload_n hx hb dI_bitCount_1 rfl (lv_at hl 0 rfl) ?_
  refine lv_iconst (v := 1) hx hb dI_bitCount_2 (by decide) ?_
  refine lv_iushr (v := ((x : Int32).toUInt32 >>> ((1 : Int32).toUInt32 &&& Int32.toUInt32 31)).toInt32) hx hb dI_bitCount_3 rfl ?_
  refine lv_ldcw hx hb hown (hts _ tw_604) dI_bitCount_4 ?_
  refine lv_iand hx hb dI_bitCount_7 ?_
  refine lv_isub hx hb dI_bitCount_8 ?_
  refine lv_topi (fun v1 ev1 => ?_)
  refine lv_istore_n (lv' := [(0, .int v1)]) hx hb dI_bitCount_9 rfl hl (by decide) rfl (fun ls hl => ?_)
  refine lv_iload_n hx hb dI_bitCount_10 rfl (lv_at hl 0 rfl) ?_
  refine lv_ldcw hx hb hown (hts _ tw_605) dI_bitCount_11 ?_
  refine lv_iand hx hb dI_bitCount_14 ?_
  refine lv_iload_n hx hb dI_bitCount_15 rfl (lv_at hl 0 rfl) ?_
  refine lv_iconst (v := 2) hx hb dI_bitCount_16 (by decide) ?_
  refine lv_iushr (v := ((v1 : Int32).toUInt32 >>> ((2 : Int32).toUInt32 &&& Int32.toUInt32 31)).toInt32) hx hb dI_bitCount_17 rfl ?_
  refine lv_ldcw hx hb hown (hts _ tw_605) dI_bitCount_18 ?_
  refine lv_iand hx hb dI_bitCount_21 ?_
  refine lv_iadd hx hb dI_bitCount_22 ?_
  refine lv_topi (fun v2 ev2 => ?_)
  refine lv_istore_n (lv' := [(0, .int v2)]) hx hb dI_bitCount_23 rfl hl (by decide) rfl (fun ls hl => ?_)
  refine lv_iload_n hx hb dI_bitCount_24 rfl (lv_at hl 0 rfl) ?_
  refine lv_iload_n hx hb dI_bitCount_25 rfl (lv_at hl 0 rfl) ?_
  refine lv_iconst (v := 4) hx hb dI_bitCount_26 (by decide) ?_
  refine lv_iushr (v := ((v2 : Int32).toUInt32 >>> ((4 : Int32).toUInt32 &&& Int32.toUInt32 31)).toInt32) hx hb dI_bitCount_27 rfl ?_
  refine lv_iadd hx hb dI_bitCount_28 ?_
  refine lv_ldcw hx hb hown (hts _ tw_606) dI_bitCount_29 ?_
  refine lv_iand hx hb dI_bitCount_32 ?_
  refine lv_topi (fun v3 ev3 => ?_)
  refine lv_istore_n (lv' := [(0, .int v3)]) hx hb dI_bitCount_33 rfl hl (by decide) rfl (fun ls hl => ?_)
  refine lv_iload_n hx hb dI_bitCount_34 rfl (lv_at hl 0 rfl) ?_
  refine lv_iload_n hx hb dI_bitCount_35 rfl (lv_at hl 0 rfl) ?_
  refine lv_bipush (v := 8) hx hb dI_bitCount_36 (by decide) ?_
  refine lv_iushr (v := ((v3 : Int32).toUInt32 >>> ((8 : Int32).toUInt32 &&& Int32.toUInt32 31)).toInt32) hx hb dI_bitCount_38 rfl ?_
  refine lv_iadd hx hb dI_bitCount_39 ?_
  refine lv_topi (fun v4 ev4 => ?_)
  refine lv_istore_n (lv' := [(0, .int v4)]) hx hb dI_bitCount_40 rfl hl (by decide) rfl (fun ls hl => ?_)
  refine lv_iload_n hx hb dI_bitCount_41 rfl (lv_at hl 0 rfl) ?_
  refine lv_iload_n hx hb dI_bitCount_42 rfl (lv_at hl 0 rfl) ?_
  refine lv_bipush (v := 16) hx hb dI_bitCount_43 (by decide) ?_
  refine lv_iushr (v := ((v4 : Int32).toUInt32 >>> ((16 : Int32).toUInt32 &&& Int32.toUInt32 31)).toInt32) hx hb dI_bitCount_45 rfl ?_
  refine lv_iadd hx hb dI_bitCount_46 ?_
  refine lv_topi (fun v5 ev5 => ?_)
  refine lv_istore_n (lv' := [(0, .int v5)]) hx hb dI_bitCount_47 rfl hl (by decide) rfl (fun ls hl => ?_)
  refine lv_iload_n hx hb dI_bitCount_48 rfl (lv_at hl 0 rfl) ?_
  refine lv_bipush (v := 63) hx hb dI_bitCount_49 (by decide) ?_
  refine lv_iand hx hb dI_bitCount_51 ?_
  exact x_iret hx hb hr hlk hK hP hD hS dI_bitCount_52 ⟨pcnt_val ev1 ev2 ev3 ev4 ev5, rfl⟩

theorem xR_ok {d d2 mL : Nat} (h : d + 1 ≤ d2) (hm : mL ≤ 21) : (xR d).frames + 1 ≤ (xR d2).frames ∧ 8 + (mL + 11) + (xR d).locals ≤ (xR d2).locals := by
  constructor
  · exact h
  · show 8 + (mL + 11) + 40 * d ≤ 40 * d2
    omega
-- ===== ways =====
theorem flt_or {α : Type} (p q : α → Bool) : ∀ (l : List α), (∀ a ∈ l, ¬ (p a = true ∧ q a = true)) → (l.filter (fun a => p a || q a)).length = (l.filter p).length + (l.filter q).length := by
  intro l
  induction l with
  | nil => intro _; rfl
  | cons a t ih =>
    intro h
    have h1 := ih (fun b hb => h b (List.mem_cons_of_mem _ hb))
    have h2 := h a List.mem_cons_self
    simp only [List.filter_cons]
    cases hp : p a <;> cases hq : q a <;> simp [hp, hq, h1] at * <;> omega
theorem flt_one (p : Nat → Bool) (a : Nat) : ∀ n, a < n → ((List.range n).filter (fun u => decide (u = a) && p u)).length = if p a = true then 1 else 0 := by
  intro n
  induction n with
  | zero => intro h; exact absurd h (Nat.not_lt_zero _)
  | succ n ih =>
    intro h
    rw [List.range_succ, List.filter_append, List.length_append]
    by_cases e : a = n
    · have z : (List.range n).filter (fun u => decide (u = a) && p u) = [] := by
        rw [List.filter_eq_nil_iff]
        intro u hu
        have := List.mem_range.mp hu
        rw [decide_eq_false (by omega)]; simp
      rw [z, e]
      by_cases hp : p n = true <;> simp [List.filter_cons, hp]
    · rw [ih (by omega)]
      have z : [n].filter (fun u => decide (u = a) && p u) = [] := by
        rw [List.filter_cons, decide_eq_false (fun h => e h.symm)]; simp
      rw [z]; rfl
theorem cnt_eq (p : Nat → Bool) : ∀ (L : List Nat), L.Nodup → (∀ t ∈ L, t < 32) → (L.map (fun u => if p u = true then 1 else 0)).sum = ((List.range 32).filter (fun u => decide (u ∈ L) && p u)).length := by
  intro L
  induction L with
  | nil =>
    intro _ _
    have z : (List.range 32).filter (fun u => decide (u ∈ ([] : List Nat)) && p u) = [] := by
      rw [List.filter_eq_nil_iff]
      intro u _
      simp
    rw [z]; rfl
  | cons a t ih =>
    intro hn hl
    have hn2 := List.nodup_cons.mp hn
    have h1 := ih hn2.2 (fun u hu => hl u (List.mem_cons_of_mem _ hu))
    rw [List.map_cons, List.sum_cons, h1, ← flt_one p a 32 (hl a List.mem_cons_self), ← flt_or (fun u => decide (u = a) && p u) (fun u => decide (u ∈ t) && p u) (List.range 32) (fun u _ hc => by
      simp only [Bool.and_eq_true, decide_eq_true_eq] at hc
      obtain ⟨⟨rfl, -⟩, h3, -⟩ := hc
      exact hn2.1 h3)]
    congr 1
    apply List.filter_congr
    intro u _
    by_cases e : u = a <;> by_cases e2 : u ∈ t <;> simp [e, e2]
/-- ways from t to gb of at most so many steps, that pass none of w -/
def wy (g : Gr) (gb : Nat) : Nat → Nat → Int32 → Nat
  | 0, _, _ => 0
  | s + 1, t, w => (if gb ∈ gD g t then 1 else 0) + (if s = 0 then 0 else ((gD g t).map (fun u => if bt w u = true then 0 else wy g gb s u (w ||| ((1 : Int32) <<< (nI u &&& 31))))).sum)
theorem wy_1 (g : Gr) (gb t : Nat) (w : Int32) : wy g gb 1 t w = if gb ∈ gD g t then 1 else 0 := rfl
theorem wy_ss {g : Gr} {gb s t : Nat} {w : Int32} (h : ¬ s = 0) : wy g gb (s + 1) t w = (if gb ∈ gD g t then 1 else 0) + ((gD g t).map (fun u => if bt w u = true then 0 else wy g gb s u (w ||| ((1 : Int32) <<< (nI u &&& 31))))).sum := by
  show _ + (if s = 0 then 0 else _) = _
  rw [if_neg h]
theorem sum_take {L : List Nat} {f : Nat → Nat} {i : Nat} (h : i < L.length) : ((L.take (i + 1)).map f).sum = ((L.take i).map f).sum + f L[i] := by
  rw [List.take_succ_eq_append_getElem h, List.map_append, List.sum_append]; simp
theorem wy2 {g : Gr} (hg : GrOK g) {gb ta : Nat} {w m F6 F7 : Int32} (h6 : ∀ i, i < 32 → bt F6 i = decide (i ∈ gD g ta)) (h7 : ∀ i, i < 32 → bt F7 i = decide (gb ∈ gD g i)) (em : m = (F6 &&& (w ^^^ (-1))) &&& F7) : wy g gb 2 ta w = (if gb ∈ gD g ta then 1 else 0) + pcnt m := by
  rw [wy_ss (s := 1) (by omega)]
  congr 1
  have hn := hg.2.2.2 ta
  have e1 : (gD g ta).map (fun u => if bt w u = true then 0 else wy g gb 1 u (w ||| ((1 : Int32) <<< (nI u &&& 31)))) = (gD g ta).map (fun u => if (!(bt w u) && decide (gb ∈ gD g u)) = true then 1 else 0) := by
    apply List.map_congr_left
    intro u hu
    rw [wy_1]
    by_cases a : bt w u = true <;> by_cases b : gb ∈ gD g u <;> simp [a, b]
  rw [e1, cnt_eq (fun u => !(bt w u) && decide (gb ∈ gD g u)) (gD g ta) hn.1 (fun t ht => by have := hn.2.2 t ht; have := hg.1; omega)]
  unfold pcnt
  congr 1
  apply List.filter_congr
  intro u hu
  have hu := List.mem_range.mp hu
  rw [em, b_and, b_and, h6 u hu, h7 u hu, b_not w hu]
  cases decide (u ∈ gD g ta) <;> cases bt w u <;> cases decide (gb ∈ gD g u) <;> rfl

set_option maxHeartbeats 4000000 in
set_option maxRecDepth 100000 in
theorem cG_waysOn_0 (l : Launch) (D : va_G) (tys : List (ClassId × FieldType)) (A : Nat → Prop) (cI : ClassId) (hI : tys[0]? = some (cI, .int)) (ad : Nat → Nat) (kg : Nat) (g : Gr) (gb : Nat) (hgb : gb < g.length) (ws : va_W) (ta : Nat) (w : Int32) (hG : GraphAt cI ad ws kg g) : x_Mi l yG_waysOn wG_waysOn (xR (2 + 0)) D xCl tys A [.ref (ad kg), .int (nI ta), .int (nI gb), .int (nI 0), .int w] ws (fun r ws1 => r = nI (wy g gb 0 ta w) ∧ ws = ws1) := by
  refine x_enter (by decide) rfl (Nat.le_of_ble_eq_true rfl) (fun p e s m args below meth c ls hx hb hr hlk hml hown hnm hts hK hP hD hS hA hN hl => ?_)
  have hl : lv_has ls 8 [(0, .ref (ad kg)), (1, .int (nI ta)), (2, .int (nI gb)), (3, .int (nI 0)), (4, .int w)] := hl
  refine lv_iload_n hx hb dG_waysOn_0 rfl (lv_at hl 3 rfl) ?_
  refine lv_if_le (tgt := 26) hx hb dG_waysOn_1 (by decide) (fun c1 => ?_) (fun c1 => ?_)
  · refine lv_iconst (v := 0) hx hb dG_waysOn_26 (by decide) ?_
    exact x_iret hx hb hr hlk hK hP hD hS dG_waysOn_27 ⟨rfl, rfl⟩
  · exact absurd (by decide) c1

set_option maxHeartbeats 4000000 in
set_option maxRecDepth 100000 in
theorem cG_waysOn_s (l : Launch) (D : va_G) (tys : List (ClassId × FieldType)) (A : Nat → Prop) (cI : ClassId) (hI : tys[0]? = some (cI, .int)) (ad : Nat → Nat) (kg : Nat) (g : Gr) (gb : Nat) (hgb : gb < g.length) (sp : Nat) (hsp : sp < 6) (IH : ∀ (ws : va_W) (ta : Nat) (w : Int32), ta < g.length → GraphAt cI ad ws kg g → x_Mi l yG_waysOn wG_waysOn (xR (2 + sp)) D xCl tys A [.ref (ad kg), .int (nI ta), .int (nI gb), .int (nI sp), .int w] ws (fun r ws1 => r = nI (wy g gb sp ta w) ∧ ws = ws1)) (ws : va_W) (ta : Nat) (w : Int32) (hta : ta < g.length) (hG : GraphAt cI ad ws kg g) : x_Mi l yG_waysOn wG_waysOn (xR (2 + (sp + 1))) D xCl tys A [.ref (ad kg), .int (nI ta), .int (nI gb), .int (nI (sp + 1)), .int w] ws (fun r ws1 => r = nI (wy g gb (sp + 1) ta w) ∧ ws = ws1) := by
  obtain ⟨FF, ⟨hg0, hg1, hg2, hg3, hg4, hg5, hg6, hg7, hg8⟩, hRR⟩ := id hG
  obtain ⟨hokk, hrr1, hrr2, hrr3, hrr4, hrr5, hrr6, hrr7⟩ := id hRR
  have hle := hG.ok.1
  refine x_enter (by decide) rfl (Nat.le_of_ble_eq_true rfl) (fun p e s m args below meth c ls hx hb hr hlk hml hown hnm hts hK hP hD hS hA hN hl => ?_)
  have hl : lv_has ls 8 [(0, .ref (ad kg)), (1, .int (nI ta)), (2, .int (nI gb)), (3, .int (nI (sp + 1))), (4, .int w)] := hl
  have loop_89 : ∀ (n : Nat) (i : Nat) (sm : Int32) (hi : i ≤ 8) (ws1 : va_W) (H : Heap) (locs : List Loc) (ls : Array Slot), sm = nI ((if gb ∈ gD g ta then 1 else 0) + ((gD g ta).take i |>.map (fun u => if bt w u = true then 0 else wy g gb sp u (w ||| ((1 : Int32) <<< (nI u &&& 31))))).sum) → 1 < sp → ws = ws1 → 8 - i < n → va_P D xCl ws1 H → va_D A ws1 → va_S A s.heap H locs → lv_has ls 8 [(0, .ref (ad kg)), (1, .int (nI ta)), (2, .int (nI gb)), (3, .int (nI (sp + 1))), (4, .int w), (5, .int sm), (6, .int (nI i))] → W p l e (xR (2 + (sp + 1))) s m args below meth c H locs 0 0 (MQ below (va_Qi (fun r ws1 => r = nI (wy g gb (sp + 1) ta w) ∧ ws = ws1) (x_B D xCl tys A) A) args s 0 0 A) (F0 m 89 ls []) := by
    intro n
    induction n with
    | zero => intro i sm hi ws1 H locs ls hsm hsp2 hws hme; exact absurd hme (Nat.not_lt_zero _)
    | succ n ih =>
      intro i sm hi ws1 H locs ls hsm hsp2 hws hme hP hD hS hl
      subst hws
      refine lv_iload hx hb dG_waysOn_89 (lv_at hl 6 rfl) ?_
      refine lv_aload_n hx hb dG_waysOn_91 rfl (lv_at hl 0 rfl) ?_
      refine va_get (D := D) (cl := xCl) (ci := 0) (v := .ref (ad (kg + 5))) (C := rnG) (T := tbG) (N := 9) hx hb hts inG hown hK hP kg hg0 rfl 4 (by decide) (hts _ tw_33) (fun _ h9 => h9) rfl dG_waysOn_92 ?_
      refine lv_iload_n hx hb dG_waysOn_95 rfl (lv_at hl 1 rfl) ?_
      refine va_iald hx hb hK hP (kg + 5) 0 hg5 hI (vp_in_nI (by omega) (by omega)) dG_waysOn_96 ?_
      refine lv_topi (fun v_1 ev_1 => ?_)
      refine lv_icmp_ge (tgt := 154) hx hb dG_waysOn_97 (by decide) (fun c97 => ?_) (fun c97 => ?_)
      · refine lv_iload hx hb dG_waysOn_154 (lv_at hl 5 rfl) ?_
        exact x_iret hx hb hr hlk hK hP hD hS dG_waysOn_156 ⟨by have e : (gD g ta).take i = gD g ta := List.take_of_length_le (by rw [ev_1, nI_clamp (by omega), hrr5 ta (by omega), nI_leI (by have := (hG.ok.2.2.2 ta).2.1; omega) (by omega)] at c97; exact c97); rw [hsm, e, wy_ss (by omega)], rfl⟩
      · refine lv_iload hx hb dG_waysOn_100 (lv_at hl 6 rfl) ?_
        refine lv_bipush (v := 8) hx hb dG_waysOn_102 (by decide) ?_
        refine lv_icmp_ge (tgt := 154) hx hb dG_waysOn_104 (by decide) (fun c104 => ?_) (fun c104 => ?_)
        · refine lv_iload hx hb dG_waysOn_154 (lv_at hl 5 rfl) ?_
          exact x_iret hx hb hr hlk hK hP hD hS dG_waysOn_156 ⟨by have e : (gD g ta).take i = gD g ta := List.take_of_length_le (by have := (hG.ok.2.2.2 ta).2.1; have c104 : nI 8 ≤ nI i := c104; rw [nI_leI (by omega) (by omega)] at c104; omega); rw [hsm, e, wy_ss (by omega)], rfl⟩
        · have hl9 : i < (gD g ta).length := by rw [ev_1, nI_clamp (by omega), hrr5 ta (by omega), nI_leI (by have := (hG.ok.2.2.2 ta).2.1; omega) (by omega)] at c97; omega
          have hi8 : i < 8 := by have := (hG.ok.2.2.2 ta).2.1; omega
          have hx2 : (gD g ta)[i] < g.length := (hG.ok.2.2.2 ta).2.2 _ (List.getElem_mem hl9)
          refine lv_aload_n hx hb dG_waysOn_107 rfl (lv_at hl 0 rfl) ?_
          refine lv_iload_n hx hb dG_waysOn_108 rfl (lv_at hl 1 rfl) ?_
          refine lv_iload hx hb dG_waysOn_109 (lv_at hl 6 rfl) ?_
          refine x_calli (x_runV (n := 2) (As := [.int (nI ta), .int (nI i)]) (rest := []) ⟨hx, hb, hml, hown, hts⟩ (cG_needAt l D tys A ws cI hI ad kg g ((nI ta)) ((nI i)) hG) tw_487 tw_197 tw_198 tw_2 tw_199 (by decide +kernel) rfl rfl (xR_ok (by omega) (by omega)) ⟨Nat.zero_le _, Nat.zero_le _⟩ (va_recv hK hP (ci := 0) (q0 := kg) rfl hg0) hK hP hD hS hA hN rfl hl.1 rfl (lv_room (Nat.le_of_ble_eq_true rfl)) dG_waysOn_111) hS (fun rna ws_2 H locs hna hP hD hS => ?_)
          obtain ⟨hna, rfl⟩ := hna
          obtain rfl : rna = nI (gD g ta)[i] := by rw [hna, gAt_nI g (by omega) hl9 (by have := (hG.ok.2.2.2 ta).2.1; omega)]; simp [hl9]
          refine lv_istore (lv' := [(7, .int (nI (gD g ta)[i])), (0, .ref (ad kg)), (1, .int (nI ta)), (2, .int (nI gb)), (3, .int (nI (sp + 1))), (4, .int w), (5, .int sm), (6, .int (nI i))]) hx hb dG_waysOn_114 hl (by decide) rfl (fun ls hl => ?_)
          refine lv_iload hx hb dG_waysOn_116 (lv_at hl 5 rfl) ?_
          refine lv_iload hx hb dG_waysOn_118 (lv_at hl 0 rfl) ?_
          refine x_calli (x_runSN (n := 2) (As := [.int w, .int (nI (gD g ta)[i])]) (rest := []) ⟨hx, hb, hml, hown, hts⟩ (cQ_isIn l D tys A ws w ((nI (gD g ta)[i]))) (xN_189 hN) tw_190 tw_1 tw_191 (by decide +kernel) rfl rfl (xR_ok (by omega) (by omega)) ⟨Nat.zero_le _, Nat.zero_le _⟩ hK hP hD hS hA hN rfl hl.1 rfl (lv_room (Nat.le_of_ble_eq_true rfl)) dG_waysOn_120) hS (fun rhb4 ws_3 H locs hb4 hP hD hS => ?_)
          obtain ⟨hb4, rfl⟩ := hb4
          refine lv_if_ne (tgt := 148) hx hb dG_waysOn_123 (by decide) (fun c123 => ?_) (fun c123 => ?_)
          · refine lv_iinc (v := (nI (i + 1))) (lv' := [(6, .int (nI (i + 1))), (7, .int (nI (gD g ta)[i])), (0, .ref (ad kg)), (1, .int (nI ta)), (2, .int (nI gb)), (3, .int (nI (sp + 1))), (4, .int w), (5, .int sm)]) hx hb dG_waysOn_148 hl (k := 7) rfl (nI_1 _) (by decide) rfl (fun ls hl => ?_)
            refine lv_goto (tgt := 89) hx hb dG_waysOn_151 (by decide) ?_
            exact ih (i + 1) sm (by omega) ws _ _ _ (by rw [hb4, isIn_nI w (by omega), b2i_n0] at c123; rw [hsm, sum_take hl9, if_pos c123]; rfl) hsp2 rfl (by omega) hP hD hS (lv_sub hl [2, 3, 4, 5, 6, 7, 0] rfl)
          · refine lv_iload hx hb dG_waysOn_126 (lv_at hl 6 rfl) ?_
            refine lv_aload_n hx hb dG_waysOn_128 rfl (lv_at hl 1 rfl) ?_
            refine lv_iload hx hb dG_waysOn_129 (lv_at hl 0 rfl) ?_
            refine lv_iload_n hx hb dG_waysOn_131 rfl (lv_at hl 3 rfl) ?_
            refine lv_iload_n hx hb dG_waysOn_132 rfl (lv_at hl 4 rfl) ?_
            refine lv_iconst (v := 1) hx hb dG_waysOn_133 (by decide) ?_
            refine lv_isub hx hb dG_waysOn_134 ?_
            refine lv_topi (fun v_4 ev_4 => ?_)
            refine lv_iload hx hb dG_waysOn_135 (lv_at hl 5 rfl) ?_
            refine lv_iconst (v := 1) hx hb dG_waysOn_137 (by decide) ?_
            refine lv_iload hx hb dG_waysOn_138 (lv_at hl 0 rfl) ?_
            refine lv_ishl hx hb dG_waysOn_140 ?_
            refine lv_topi (fun v_5 ev_5 => ?_)
            refine lv_ior hx hb dG_waysOn_141 ?_
            refine lv_topi (fun v_6 ev_6 => ?_)
            obtain rfl : v_4 = nI sp := by rw [ev_4]; exact nI_pred sp
            refine x_calli (x_runV (n := 4) (As := [.int (nI (gD g ta)[i]), .int (nI gb), .int (nI sp), .int v_6]) (rest := [.int sm]) ⟨hx, hb, hml, hown, hts⟩ (IH ws (gD g ta)[i] v_6 hx2 hG) tw_597 tw_599 ts_G_waysOn tw_2 tw_600 (by decide +kernel) rfl rfl (xR_ok (by omega) (by omega)) ⟨Nat.zero_le _, Nat.zero_le _⟩ (va_recv hK hP (ci := 0) (q0 := kg) rfl hg0) hK hP hD hS hA hN rfl hl.1 rfl (lv_room (Nat.le_of_ble_eq_true rfl)) dG_waysOn_142) hS (fun rrec ws_7 H locs hrec hP hD hS => ?_)
            obtain ⟨hrec, rfl⟩ := hrec
            refine lv_iadd hx hb dG_waysOn_145 ?_
            refine lv_topi (fun v_8 ev_8 => ?_)
            refine lv_istore (lv' := [(5, .int v_8), (7, .int (nI (gD g ta)[i])), (0, .ref (ad kg)), (1, .int (nI ta)), (2, .int (nI gb)), (3, .int (nI (sp + 1))), (4, .int w), (6, .int (nI i))]) hx hb dG_waysOn_146 hl (by decide) rfl (fun ls hl => ?_)
            refine lv_iinc (v := (nI (i + 1))) (lv' := [(6, .int (nI (i + 1))), (5, .int v_8), (7, .int (nI (gD g ta)[i])), (0, .ref (ad kg)), (1, .int (nI ta)), (2, .int (nI gb)), (3, .int (nI (sp + 1))), (4, .int w)]) hx hb dG_waysOn_148 hl (k := 7) rfl (nI_1 _) (by decide) rfl (fun ls hl => ?_)
            refine lv_goto (tgt := 89) hx hb dG_waysOn_151 (by decide) ?_
            exact ih (i + 1) v_8 (by omega) ws _ _ _ (by rw [hb4, isIn_nI w (by omega), b2i_0] at c123; have hcc : ¬ bt w (gD g ta)[i] = true := (by rw [c123]; decide); rw [ev_8, hsm, hrec, nI_add, ev_6, ev_5, sum_take hl9, if_neg hcc, Nat.add_assoc]) hsp2 rfl (by omega) hP hD hS (lv_sub hl [3, 4, 5, 6, 7, 1, 0] rfl)
  refine lv_iload_n hx hb dG_waysOn_0 rfl (lv_at hl 3 rfl) ?_
  refine lv_if_le (tgt := 26) hx hb dG_waysOn_1 (by decide) (fun c1 => ?_) (fun c1 => ?_)
  · exact absurd ((nI_leI (a := sp + 1) (b := 0) (by omega) (by omega)).mp c1) (by omega)
  · refine lv_iload_n hx hb dG_waysOn_4 rfl (lv_at hl 1 rfl) ?_
    refine lv_aload_n hx hb dG_waysOn_5 rfl (lv_at hl 0 rfl) ?_
    refine va_get (D := D) (cl := xCl) (ci := 0) (v := .int (nI g.length)) (C := rnG) (T := tbG) (N := 9) hx hb hts inG hown hK hP kg hg0 rfl 8 (by decide) (hts _ tw_37) (fun _ h9 => h9) rfl dG_waysOn_6 ?_
    refine x_calli (x_runS (n := 2) (As := [.int (nI ta), .int (nI g.length)]) (rest := []) ⟨hx, hb, hml, hown, hts⟩ (cG_below l D tys A ws ((nI ta)) ((nI g.length))) tw_178 tw_179 tw_2 tw_180 (by decide +kernel) rfl rfl (xR_ok (by omega) (by omega)) ⟨Nat.zero_le _, Nat.zero_le _⟩ hK hP hD hS hA hN rfl hl.1 rfl (lv_room (Nat.le_of_ble_eq_true rfl)) dG_waysOn_9) hS (fun rhb1 ws_9 H locs hb1 hP hD hS => ?_)
    obtain ⟨hb1, rfl⟩ := hb1
    refine lv_if_eq (tgt := 26) hx hb dG_waysOn_12 (by decide) (fun c12 => ?_) (fun c12 => ?_)
    · exact absurd (blw_no (by omega) hb1 c12) (fun h => h ⟨by rw [nI_toInt (by omega)]; omega, by rw [nI_toInt (by omega)]; omega⟩)
    · refine lv_iload_n hx hb dG_waysOn_15 rfl (lv_at hl 2 rfl) ?_
      refine lv_aload_n hx hb dG_waysOn_16 rfl (lv_at hl 0 rfl) ?_
      refine va_get (D := D) (cl := xCl) (ci := 0) (v := .int (nI g.length)) (C := rnG) (T := tbG) (N := 9) hx hb hts inG hown hK hP kg hg0 rfl 8 (by decide) (hts _ tw_37) (fun _ h9 => h9) rfl dG_waysOn_17 ?_
      refine x_calli (x_runS (n := 2) (As := [.int (nI gb), .int (nI g.length)]) (rest := []) ⟨hx, hb, hml, hown, hts⟩ (cG_below l D tys A ws ((nI gb)) ((nI g.length))) tw_178 tw_179 tw_2 tw_180 (by decide +kernel) rfl rfl (xR_ok (by omega) (by omega)) ⟨Nat.zero_le _, Nat.zero_le _⟩ hK hP hD hS hA hN rfl hl.1 rfl (lv_room (Nat.le_of_ble_eq_true rfl)) dG_waysOn_20) hS (fun rhb2 ws_10 H locs hb2 hP hD hS => ?_)
      obtain ⟨hb2, rfl⟩ := hb2
      refine lv_if_ne (tgt := 28) hx hb dG_waysOn_23 (by decide) (fun c23 => ?_) (fun c23 => ?_)
      · refine lv_aload_n hx hb dG_waysOn_28 rfl (lv_at hl 0 rfl) ?_
        refine va_get (D := D) (cl := xCl) (ci := 0) (v := .ref (ad (kg + 6))) (C := rnG) (T := tbG) (N := 9) hx hb hts inG hown hK hP kg hg0 rfl 5 (by decide) (hts _ tw_34) (fun _ h9 => h9) rfl dG_waysOn_29 ?_
        refine lv_iload_n hx hb dG_waysOn_32 rfl (lv_at hl 1 rfl) ?_
        refine va_iald hx hb hK hP (kg + 6) 0 hg6 hI (vp_in_nI (by omega) (by omega)) dG_waysOn_33 ?_
        refine lv_topi (fun v_11 ev_11 => ?_)
        refine lv_iload_n hx hb dG_waysOn_34 rfl (lv_at hl 2 rfl) ?_
        refine x_calli (x_runSN (n := 2) (As := [.int v_11, .int (nI gb)]) (rest := []) ⟨hx, hb, hml, hown, hts⟩ (cQ_isIn l D tys A ws v_11 ((nI gb))) (xN_189 hN) tw_190 tw_1 tw_191 (by decide +kernel) rfl rfl (xR_ok (by omega) (by omega)) ⟨Nat.zero_le _, Nat.zero_le _⟩ hK hP hD hS hA hN rfl hl.1 rfl (lv_room (Nat.le_of_ble_eq_true rfl)) dG_waysOn_35) hS (fun rhb3 ws_12 H locs hb3 hP hD hS => ?_)
        obtain ⟨hb3, rfl⟩ := hb3
        refine lv_if_eq (tgt := 45) hx hb dG_waysOn_38 (by decide) (fun c38 => ?_) (fun c38 => ?_)
        · refine lv_iconst (v := 0) hx hb dG_waysOn_45 (by decide) ?_
          have hsm : (0 : Int32) = nI (if gb ∈ gD g ta then 1 else 0) := by rw [hb3, isIn_nI _ (by omega), b2i_0, ev_11, nI_clamp (by omega), hrr6 ta (by omega) gb (by omega), decide_eq_false_iff_not] at c38; rw [if_neg c38]; rfl
          rw [hsm]
          refine lv_istore (lv' := [(5, .int (nI (if gb ∈ gD g ta then 1 else 0))), (0, .ref (ad kg)), (1, .int (nI ta)), (2, .int (nI gb)), (3, .int (nI (sp + 1))), (4, .int w)]) hx hb dG_waysOn_46 hl (by decide) rfl (fun ls hl => ?_)
          refine lv_iload_n hx hb dG_waysOn_48 rfl (lv_at hl 4 rfl) ?_
          refine lv_iconst (v := 1) hx hb dG_waysOn_49 (by decide) ?_
          refine lv_icmp_ne (tgt := 56) hx hb dG_waysOn_50 (by decide) (fun c50 => ?_) (fun c50 => ?_)
          · refine lv_iload_n hx hb dG_waysOn_56 rfl (lv_at hl 4 rfl) ?_
            refine lv_iconst (v := 2) hx hb dG_waysOn_57 (by decide) ?_
            refine lv_icmp_ne (tgt := 86) hx hb dG_waysOn_58 (by decide) (fun c58 => ?_) (fun c58 => ?_)
            · refine lv_iconst (v := 0) hx hb dG_waysOn_86 (by decide) ?_
              refine lv_istore (lv' := [(6, .int 0), (5, .int (nI (if gb ∈ gD g ta then 1 else 0))), (0, .ref (ad kg)), (1, .int (nI ta)), (2, .int (nI gb)), (3, .int (nI (sp + 1))), (4, .int w)]) hx hb dG_waysOn_87 hl (by decide) rfl (fun ls hl => ?_)
              exact loop_89 _ 0 (nI (if gb ∈ gD g ta then 1 else 0)) (Nat.zero_le _) ws _ _ _ (by rw [List.take_zero]; rfl) (by have c50 : ¬ nI (sp + 1) = nI 1 := c50; have c58 : ¬ nI (sp + 1) = nI 2 := c58; rw [nI_eq (by omega) (by omega)] at c50 c58; omega) rfl (Nat.lt_succ_self _) hP hD hS (lv_sub hl [2, 3, 4, 5, 6, 1, 0] rfl)
            · refine lv_iload hx hb dG_waysOn_61 (lv_at hl 0 rfl) ?_
              refine lv_aload_n hx hb dG_waysOn_63 rfl (lv_at hl 1 rfl) ?_
              refine va_get (D := D) (cl := xCl) (ci := 0) (v := .ref (ad (kg + 6))) (C := rnG) (T := tbG) (N := 9) hx hb hts inG hown hK hP kg hg0 rfl 5 (by decide) (hts _ tw_34) (fun _ h9 => h9) rfl dG_waysOn_64 ?_
              refine lv_iload_n hx hb dG_waysOn_67 rfl (lv_at hl 2 rfl) ?_
              refine va_iald hx hb hK hP (kg + 6) 0 hg6 hI (vp_in_nI (by omega) (by omega)) dG_waysOn_68 ?_
              refine lv_topi (fun v_13 ev_13 => ?_)
              refine lv_iload hx hb dG_waysOn_69 (lv_at hl 5 rfl) ?_
              refine lv_iconst (v := (-1)) hx hb dG_waysOn_71 (by decide) ?_
              refine lv_ixor hx hb dG_waysOn_72 ?_
              refine lv_topi (fun v_14 ev_14 => ?_)
              refine lv_iand hx hb dG_waysOn_73 ?_
              refine lv_topi (fun v_15 ev_15 => ?_)
              refine lv_aload_n hx hb dG_waysOn_74 rfl (lv_at hl 1 rfl) ?_
              refine va_get (D := D) (cl := xCl) (ci := 0) (v := .ref (ad (kg + 7))) (C := rnG) (T := tbG) (N := 9) hx hb hts inG hown hK hP kg hg0 rfl 6 (by decide) (hts _ tw_35) (fun _ h9 => h9) rfl dG_waysOn_75 ?_
              refine lv_iload_n hx hb dG_waysOn_78 rfl (lv_at hl 3 rfl) ?_
              refine va_iald hx hb hK hP (kg + 7) 0 hg7 hI (vp_in_nI (by omega) (by omega)) dG_waysOn_79 ?_
              refine lv_topi (fun v_16 ev_16 => ?_)
              refine lv_iand hx hb dG_waysOn_80 ?_
              refine lv_topi (fun v_17 ev_17 => ?_)
              have hmm : v_17 = (FF 6 ta &&& (w ^^^ (-1))) &&& FF 7 gb := by rw [ev_17, ev_15, ev_16, ev_13, ev_14, nI_clamp (by omega), nI_clamp (by omega)]
              refine x_calli (x_runS (n := 1) (As := [.int v_17]) (rest := [.int (nI (if gb ∈ gD g ta then 1 else 0))]) ⟨hx, hb, hml, hown, hts⟩ (cI_bitCount l D tys A ws v_17) tw_601 tw_602 tw_14 tw_603 (by decide +kernel) rfl rfl (xR_ok (by omega) (by omega)) ⟨Nat.zero_le _, Nat.zero_le _⟩ hK hP hD hS hA hN rfl hl.1 rfl (lv_room (Nat.le_of_ble_eq_true rfl)) dG_waysOn_81) hS (fun rbc ws_18 H locs hbc hP hD hS => ?_)
              obtain ⟨hbc, rfl⟩ := hbc
              refine lv_iadd hx hb dG_waysOn_84 ?_
              refine lv_topi (fun v_19 ev_19 => ?_)
              exact x_iret hx hb hr hlk hK hP hD hS dG_waysOn_85 ⟨by have e : sp = 1 := (by have c58 : nI (sp + 1) = nI 2 := c58; rw [nI_eq (by omega) (by omega)] at c58; omega); subst e; rw [ev_19, hbc, nI_add, wy2 hG.ok (F6 := FF 6 ta) (F7 := FF 7 gb) (fun i hi => hrr6 ta (by omega) i hi) (fun i hi => hrr7 gb (by omega) i hi) hmm], rfl⟩
          · refine lv_iload hx hb dG_waysOn_53 (lv_at hl 0 rfl) ?_
            exact x_iret hx hb hr hlk hK hP hD hS dG_waysOn_55 ⟨by have e : sp = 0 := (by have c50 : nI (sp + 1) = nI 1 := c50; rw [nI_eq (by omega) (by omega)] at c50; omega); subst e; rw [wy_1], rfl⟩
        · refine lv_iconst (v := 1) hx hb dG_waysOn_41 (by decide) ?_
          refine lv_goto (tgt := 46) hx hb dG_waysOn_42 (by decide) ?_
          have hsm : (1 : Int32) = nI (if gb ∈ gD g ta then 1 else 0) := by rw [hb3, isIn_nI _ (by omega), b2i_n0, ev_11, nI_clamp (by omega), hrr6 ta (by omega) gb (by omega), decide_eq_true_eq] at c38; rw [if_pos c38]; rfl
          rw [hsm]
          refine lv_istore (lv' := [(5, .int (nI (if gb ∈ gD g ta then 1 else 0))), (0, .ref (ad kg)), (1, .int (nI ta)), (2, .int (nI gb)), (3, .int (nI (sp + 1))), (4, .int w)]) hx hb dG_waysOn_46 hl (by decide) rfl (fun ls hl => ?_)
          refine lv_iload_n hx hb dG_waysOn_48 rfl (lv_at hl 4 rfl) ?_
          refine lv_iconst (v := 1) hx hb dG_waysOn_49 (by decide) ?_
          refine lv_icmp_ne (tgt := 56) hx hb dG_waysOn_50 (by decide) (fun c50 => ?_) (fun c50 => ?_)
          · refine lv_iload_n hx hb dG_waysOn_56 rfl (lv_at hl 4 rfl) ?_
            refine lv_iconst (v := 2) hx hb dG_waysOn_57 (by decide) ?_
            refine lv_icmp_ne (tgt := 86) hx hb dG_waysOn_58 (by decide) (fun c58 => ?_) (fun c58 => ?_)
            · refine lv_iconst (v := 0) hx hb dG_waysOn_86 (by decide) ?_
              refine lv_istore (lv' := [(6, .int 0), (5, .int (nI (if gb ∈ gD g ta then 1 else 0))), (0, .ref (ad kg)), (1, .int (nI ta)), (2, .int (nI gb)), (3, .int (nI (sp + 1))), (4, .int w)]) hx hb dG_waysOn_87 hl (by decide) rfl (fun ls hl => ?_)
              exact loop_89 _ 0 (nI (if gb ∈ gD g ta then 1 else 0)) (Nat.zero_le _) ws _ _ _ (by rw [List.take_zero]; rfl) (by have c50 : ¬ nI (sp + 1) = nI 1 := c50; have c58 : ¬ nI (sp + 1) = nI 2 := c58; rw [nI_eq (by omega) (by omega)] at c50 c58; omega) rfl (Nat.lt_succ_self _) hP hD hS (lv_sub hl [2, 3, 4, 5, 6, 1, 0] rfl)
            · refine lv_iload hx hb dG_waysOn_61 (lv_at hl 0 rfl) ?_
              refine lv_aload_n hx hb dG_waysOn_63 rfl (lv_at hl 1 rfl) ?_
              refine va_get (D := D) (cl := xCl) (ci := 0) (v := .ref (ad (kg + 6))) (C := rnG) (T := tbG) (N := 9) hx hb hts inG hown hK hP kg hg0 rfl 5 (by decide) (hts _ tw_34) (fun _ h9 => h9) rfl dG_waysOn_64 ?_
              refine lv_iload_n hx hb dG_waysOn_67 rfl (lv_at hl 2 rfl) ?_
              refine va_iald hx hb hK hP (kg + 6) 0 hg6 hI (vp_in_nI (by omega) (by omega)) dG_waysOn_68 ?_
              refine lv_topi (fun v_20 ev_20 => ?_)
              refine lv_iload hx hb dG_waysOn_69 (lv_at hl 5 rfl) ?_
              refine lv_iconst (v := (-1)) hx hb dG_waysOn_71 (by decide) ?_
              refine lv_ixor hx hb dG_waysOn_72 ?_
              refine lv_topi (fun v_21 ev_21 => ?_)
              refine lv_iand hx hb dG_waysOn_73 ?_
              refine lv_topi (fun v_22 ev_22 => ?_)
              refine lv_aload_n hx hb dG_waysOn_74 rfl (lv_at hl 1 rfl) ?_
              refine va_get (D := D) (cl := xCl) (ci := 0) (v := .ref (ad (kg + 7))) (C := rnG) (T := tbG) (N := 9) hx hb hts inG hown hK hP kg hg0 rfl 6 (by decide) (hts _ tw_35) (fun _ h9 => h9) rfl dG_waysOn_75 ?_
              refine lv_iload_n hx hb dG_waysOn_78 rfl (lv_at hl 3 rfl) ?_
              refine va_iald hx hb hK hP (kg + 7) 0 hg7 hI (vp_in_nI (by omega) (by omega)) dG_waysOn_79 ?_
              refine lv_topi (fun v_23 ev_23 => ?_)
              refine lv_iand hx hb dG_waysOn_80 ?_
              refine lv_topi (fun v_24 ev_24 => ?_)
              have hmm : v_24 = (FF 6 ta &&& (w ^^^ (-1))) &&& FF 7 gb := by rw [ev_24, ev_22, ev_23, ev_20, ev_21, nI_clamp (by omega), nI_clamp (by omega)]
              refine x_calli (x_runS (n := 1) (As := [.int v_24]) (rest := [.int (nI (if gb ∈ gD g ta then 1 else 0))]) ⟨hx, hb, hml, hown, hts⟩ (cI_bitCount l D tys A ws v_24) tw_601 tw_602 tw_14 tw_603 (by decide +kernel) rfl rfl (xR_ok (by omega) (by omega)) ⟨Nat.zero_le _, Nat.zero_le _⟩ hK hP hD hS hA hN rfl hl.1 rfl (lv_room (Nat.le_of_ble_eq_true rfl)) dG_waysOn_81) hS (fun rbc ws_25 H locs hbc hP hD hS => ?_)
              obtain ⟨hbc, rfl⟩ := hbc
              refine lv_iadd hx hb dG_waysOn_84 ?_
              refine lv_topi (fun v_26 ev_26 => ?_)
              exact x_iret hx hb hr hlk hK hP hD hS dG_waysOn_85 ⟨by have e : sp = 1 := (by have c58 : nI (sp + 1) = nI 2 := c58; rw [nI_eq (by omega) (by omega)] at c58; omega); subst e; rw [ev_26, hbc, nI_add, wy2 hG.ok (F6 := FF 6 ta) (F7 := FF 7 gb) (fun i hi => hrr6 ta (by omega) i hi) (fun i hi => hrr7 gb (by omega) i hi) hmm], rfl⟩
          · refine lv_iload hx hb dG_waysOn_53 (lv_at hl 0 rfl) ?_
            exact x_iret hx hb hr hlk hK hP hD hS dG_waysOn_55 ⟨by have e : sp = 0 := (by have c50 : nI (sp + 1) = nI 1 := c50; rw [nI_eq (by omega) (by omega)] at c50; omega); subst e; rw [wy_1], rfl⟩
      · exact absurd (blw_no (by omega) hb2 c23) (fun h => h ⟨by rw [nI_toInt (by omega)]; omega, by rw [nI_toInt (by omega)]; omega⟩)

/-- Graph.waysOn(t, goal, steps, passed) -/
theorem cG_waysOn (l : Launch) (D : va_G) (tys : List (ClassId × FieldType)) (A : Nat → Prop) (cI : ClassId) (hI : tys[0]? = some (cI, .int)) (ad : Nat → Nat) (kg : Nat) (g : Gr) (gb : Nat) (hgb : gb < g.length) : ∀ (st : Nat), st ≤ 6 → ∀ (ws : va_W) (ta : Nat) (w : Int32), ta < g.length → GraphAt cI ad ws kg g → x_Mi l yG_waysOn wG_waysOn (xR (2 + st)) D xCl tys A [.ref (ad kg), .int (nI ta), .int (nI gb), .int (nI st), .int w] ws (fun r ws1 => r = nI (wy g gb st ta w) ∧ ws = ws1) := by
  intro st
  induction st with
  | zero => intro _ ws ta w _ hG; exact cG_waysOn_0 l D tys A cI hI ad kg g gb hgb ws ta w hG
  | succ sp IH => intro hs ws ta w hta hG; exact cG_waysOn_s l D tys A cI hI ad kg g gb hgb sp (by omega) (IH (by omega)) ws ta w hta hG
