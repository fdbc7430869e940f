-- ===== way =====
def wayQ (g : Gr) (G : List Nat) : Nat → Nat → (List Nat × (Nat → Int32)) → Int32 × (Nat → Int32)
  | 0, _, x => (-1, x.2)
  | n + 1, i, x => if i < x.1.length then (if x.1.getD i 0 ∈ G then (nI (x.1.getD i 0), x.2) else wayQ g G n (i + 1) (noteL (x.1.getD i 0) x (gD g (x.1.getD i 0)))) else (-1, x.2)
def chain (cb : Nat → Int32) : Nat → Int32 → List Nat → List Nat
  | 0, _, M => M
  | n + 1, t, M => if blw t 30 = true then chain cb n (cb t.toInt.toNat) (addI M t) else M
def wayS (g : Gr) (L G : List Nat) (cb0 : Nat → Int32) : List Nat := (chain (wayQ g G 30 0 (L, cb0)).2 30 (wayQ g G 30 0 (L, cb0)).1 []).reverse
theorem wayQ_out {g : Gr} {G : List Nat} {n i : Nat} {x : List Nat × (Nat → Int32)} (h : x.1.length ≤ i) : wayQ g G n i x = (-1, x.2) := by
  cases n with
  | zero => rfl
  | succ n => exact if_neg (by omega)
theorem nI_nm1 {n : Nat} (h : n < 2 ^ 31) : ¬ nI n = -1 := by
  rw [i32_eq, nI_toInt h, show (-1 : Int32).toInt = -1 from rfl]; omega

set_option maxHeartbeats 4000000 in
set_option maxRecDepth 100000 in
/-- Graph.findWay(list, goals) -/
theorem cG_findWay (l : Launch) (D : va_G) (tys : List (ClassId × FieldType)) (A : Nat → Prop) (ws : va_W) (cI : ClassId) (hI : tys[0]? = some (cI, .int)) (ad : Nat → Nat) (kg k k2 : Nat) (hd : kg + 9 ≤ k) (hd2 : kg + 9 ≤ k2) (hd3 : k + 2 ≤ k2 ∨ k2 + 2 ≤ k) (g : Gr) (L G : List Nat) (hG : GraphAt cI ad ws kg g) (h : RowAt cI ad ws k L) (hGo : RowAt cI ad ws k2 G) : x_Mv l yG_findWay wG_findWay (xR 3) D xCl tys A [.ref (ad kg), .ref (ad k), .ref (ad k2)] ws (fun ws1 => x_nt kg k ws ws1 ∧ GraphAt cI ad ws1 kg g ∧ ∃ cb0 : Nat → Int32, (∀ x, x < 30 → cb0 x = -1) ∧ RowAt cI ad ws1 k (wayS g L G cb0)) := by
  obtain ⟨cb9, hC9⟩ := hG.c
  refine x_enter (by decide) rfl (Nat.le_of_ble_eq_true rfl) (fun p e s m args below meth c ls hx hb hr hlk hml hown hnm hts hK hP hD hS hA hN hl => ?_)
  have hl : lv_has ls 6 [(0, .ref (ad kg)), (1, .ref (ad k)), (2, .ref (ad k2))] := hl
  have loop_96 : ∀ (n : Nat) (cb0 cb : Nat → Int32) (e0 : Int32) (i : Nat) (tc : Int32) (M : List Nat) (hi : i ≤ 30) (ws1 : va_W) (H : Heap) (locs : List Loc) (ls : Array Slot), (∀ x, x < 30 → cb0 x = -1) → wayQ g G 30 0 (L, cb0) = (e0, cb) → chain cb (30 - i) tc M = chain cb 30 e0 [] → x_nt kg k ws ws1 → RowAt cI ad ws1 k M → GraphC cI ad ws1 kg g cb → 30 - i < n → va_P D xCl ws1 H → va_D A ws1 → va_S A s.heap H locs → lv_has ls 6 [(0, .ref (ad kg)), (1, .ref (ad k)), (4, .int tc), (5, .int (nI i))] → W p l e (xR 3) s m args below meth c H locs 0 0 (MQ below (va_Qv (fun ws1 => x_nt kg k ws ws1 ∧ GraphAt cI ad ws1 kg g ∧ ∃ cb0 : Nat → Int32, (∀ x, x < 30 → cb0 x = -1) ∧ RowAt cI ad ws1 k (wayS g L G cb0)) (x_B D xCl tys A) A) args s 0 0 A) (F0 m 96 ls []) := by
    intro n
    induction n with
    | zero => intro cb0 cb e0 i tc M hi ws1 H locs ls hcb0 hres hch hT hrow hC1 hme; exact absurd hme (Nat.not_lt_zero _)
    | succ n ih =>
      intro cb0 cb e0 i tc M hi ws1 H locs ls hcb0 hres hch hT hrow hC1 hme hP hD hS hl
      obtain ⟨fsR, hRo⟩ := hrow.obj
      obtain ⟨f2, hR2⟩ := id hrow
      obtain ⟨FF, ⟨hg0, hg1, hg2, hg3, hg4, hg5, hg6, hg7, hg8⟩, hRR, hc8⟩ := id hC1
      refine lv_iload hx hb dG_findWay_96 (lv_at hl 3 rfl) ?_
      refine lv_bipush (v := 30) hx hb dG_findWay_98 (by decide) ?_
      refine lv_icmp_ge (tgt := 137) hx hb dG_findWay_100 (by decide) (fun c100 => ?_) (fun c100 => ?_)
      · refine lv_aload_n hx hb dG_findWay_137 rfl (lv_at hl 1 rfl) ?_
        refine x_callv (x_runV (n := 0) (As := []) (rest := []) ⟨hx, hb, hml, hown, hts⟩ (cR_reverse l D tys A ws1 cI hI ad k _ hrow) tw_490 tw_491 tw_492 tw_7 tw_493 (by decide +kernel) rfl rfl ⟨by decide, by decide⟩ ⟨Nat.zero_le _, Nat.zero_le _⟩ (va_recv hK hP (ci := 2) (q0 := k) rfl hRo) hK hP hD hS hA hN rfl hl.1 rfl (lv_room (Nat.le_of_ble_eq_true rfl)) dG_findWay_138) hS (fun ws_1 H locs hrv hP hD hS => ?_)
        exact x_vret hx hb hr hlk hK hP hD hS dG_findWay_141 ⟨hT.tr hrv.1.nt, hC1.at.keep hrv.1.fr (by omega), cb0, hcb0, by have q2 := hrv.2; have e : 30 - i = 0 := (by have c100 : nI 30 ≤ nI i := c100; rw [nI_leI (by omega) (by omega)] at c100; omega); rw [e] at hch; unfold wayS; rw [hres, ← hch]; exact q2⟩
      · have hi2 : i < 30 := by have c100 : ¬ nI 30 ≤ nI i := c100; rw [nI_leI (by omega) (by omega)] at c100; omega
        refine lv_iload hx hb dG_findWay_103 (lv_at hl 2 rfl) ?_
        refine lv_aload_n hx hb dG_findWay_105 rfl (lv_at hl 0 rfl) ?_
        refine va_get (D := D) (cl := xCl) (ci := 0) (v := .ref (ad (kg + 8))) (C := rnG) (T := tbG) (N := 9) hx hb hts inG hown hK hP kg hg0 rfl 7 (by decide) (hts _ tw_36) (fun _ h9 => h9) rfl dG_findWay_106 ?_
        refine va_alen (v := 30) hx hb hK hP (kg + 8) 0 hg8 hI (by rfl) dG_findWay_109 ?_
        refine x_calli (x_runS (n := 2) (As := [.int tc, .int 30]) (rest := []) ⟨hx, hb, hml, hown, hts⟩ (cG_below l D tys A ws1 tc 30) tw_178 tw_179 tw_2 tw_180 (by decide +kernel) rfl rfl ⟨by decide, by decide⟩ ⟨Nat.zero_le _, Nat.zero_le _⟩ hK hP hD hS hA hN rfl hl.1 rfl (lv_room (Nat.le_of_ble_eq_true rfl)) dG_findWay_110) hS (fun rhb9 ws_2 H locs hb9 hP hD hS => ?_)
        obtain ⟨hb9, rfl⟩ := hb9
        refine lv_if_eq (tgt := 137) hx hb dG_findWay_113 (by decide) (fun c113 => ?_) (fun c113 => ?_)
        · refine lv_aload_n hx hb dG_findWay_137 rfl (lv_at hl 1 rfl) ?_
          refine x_callv (x_runV (n := 0) (As := []) (rest := []) ⟨hx, hb, hml, hown, hts⟩ (cR_reverse l D tys A ws1 cI hI ad k _ hrow) tw_490 tw_491 tw_492 tw_7 tw_493 (by decide +kernel) rfl rfl ⟨by decide, by decide⟩ ⟨Nat.zero_le _, Nat.zero_le _⟩ (va_recv hK hP (ci := 2) (q0 := k) rfl hRo) hK hP hD hS hA hN rfl hl.1 rfl (lv_room (Nat.le_of_ble_eq_true rfl)) dG_findWay_138) hS (fun ws_3 H locs hrv hP hD hS => ?_)
          exact x_vret hx hb hr hlk hK hP hD hS dG_findWay_141 ⟨hT.tr hrv.1.nt, hC1.at.keep hrv.1.fr (by omega), cb0, hcb0, by have q2 := hrv.2; rw [show 30 - i = (29 - i) + 1 by omega] at hch; have q : chain cb ((29 - i) + 1) tc M = M := if_neg (by rw [hb9, b2i_0] at c113; rw [c113]; decide); rw [q] at hch; unfold wayS; rw [hres, ← hch]; exact q2⟩
        · obtain ⟨tj, htj, etc⟩ := blw_of (n := 30) (by omega) hb9 c113
          refine lv_aload_n hx hb dG_findWay_116 rfl (lv_at hl 1 rfl) ?_
          refine lv_iload hx hb dG_findWay_117 (lv_at hl 2 rfl) ?_
          refine x_callv (x_runV (n := 1) (As := [.int tc]) (rest := []) ⟨hx, hb, hml, hown, hts⟩ (cR_add l D tys A ws1 cI hI ad k _ tc f2 hR2) tw_488 tw_451 tw_452 tw_7 tw_453 (by decide +kernel) rfl rfl ⟨by decide, by decide⟩ ⟨Nat.zero_le _, Nat.zero_le _⟩ (va_recv hK hP (ci := 2) (q0 := k) rfl hRo) hK hP hD hS hA hN rfl hl.1 rfl (lv_room (Nat.le_of_ble_eq_true rfl)) dG_findWay_119) hS (fun ws_4 H locs hadd hP hD hS => ?_)
          obtain ⟨ht2, f9, hr2, -⟩ := hadd
          have hC3 := hC1.keep ht2.fr (by omega)
          obtain ⟨FE, ⟨he0, he1, he2, he3, he4, he5, he6, he7, he8⟩, hRE, hce8⟩ := id hC3
          refine lv_aload_n hx hb dG_findWay_122 rfl (lv_at hl 0 rfl) ?_
          refine va_get (D := D) (cl := xCl) (ci := 0) (v := .ref (ad (kg + 8))) (C := rnG) (T := tbG) (N := 9) hx hb hts inG hown hK hP kg he0 rfl 7 (by decide) (hts _ tw_36) (fun _ h9 => h9) rfl dG_findWay_123 ?_
          refine lv_iload hx hb dG_findWay_126 (lv_at hl 2 rfl) ?_
          refine va_iald hx hb hK hP (kg + 8) 0 he8 hI (by rw [etc]; exact vp_in_nI (by omega) (by omega)) dG_findWay_128 ?_
          refine lv_topi (fun v_5 ev_5 => ?_)
          refine lv_istore (lv' := [(4, .int v_5), (0, .ref (ad kg)), (1, .ref (ad k)), (5, .int (nI i))]) hx hb dG_findWay_129 hl (by decide) rfl (fun ls hl => ?_)
          refine lv_iinc (v := (nI (i + 1))) (lv' := [(5, .int (nI (i + 1))), (4, .int v_5), (0, .ref (ad kg)), (1, .ref (ad k))]) hx hb dG_findWay_131 hl (k := 3) rfl (nI_1 _) (by decide) rfl (fun ls hl => ?_)
          refine lv_goto (tgt := 96) hx hb dG_findWay_134 (by decide) ?_
          exact ih cb0 cb e0 (i + 1) v_5 _ (by omega) ws_4 _ _ _ hcb0 hres (by rw [← hch, show 30 - i = (30 - (i + 1)) + 1 by omega]; have hbt : blw tc 30 = true := (by rw [hb9, b2i_n0] at c113; exact c113); show _ = if blw tc 30 = true then _ else _; rw [if_pos hbt, ev_5, hce8, etc, nI_clamp (by omega), nI_toInt (by omega)]; rfl) (hT.tr ht2.nt) ⟨_, hr2⟩ hC3 (by omega) hP hD hS (lv_sub hl [2, 3, 1, 0] rfl)
  have loop_29 : ∀ (n : Nat) (cb0 : Nat → Int32) (i : Nat) (e0 : Int32) (x : List Nat × (Nat → Int32)) (hi : i ≤ 30) (ws1 : va_W) (H : Heap) (locs : List Loc) (ls : Array Slot), (∀ x, x < 30 → cb0 x = -1) → (if e0 = -1 then wayQ g G (30 - i) i x else (e0, x.2)) = wayQ g G 30 0 (L, cb0) → x_nt kg k ws ws1 → RowAt cI ad ws1 k x.1 → GraphC cI ad ws1 kg g x.2 → RowAt cI ad ws1 k2 G → 30 - i < n → va_P D xCl ws1 H → va_D A ws1 → va_S A s.heap H locs → lv_has ls 6 [(0, .ref (ad kg)), (1, .ref (ad k)), (2, .ref (ad k2)), (3, .int e0), (4, .int (nI i))] → W p l e (xR 3) s m args below meth c H locs 0 0 (MQ below (va_Qv (fun ws1 => x_nt kg k ws ws1 ∧ GraphAt cI ad ws1 kg g ∧ ∃ cb0 : Nat → Int32, (∀ x, x < 30 → cb0 x = -1) ∧ RowAt cI ad ws1 k (wayS g L G cb0)) (x_B D xCl tys A) A) args s 0 0 A) (F0 m 29 ls []) := by
    intro n
    induction n with
    | zero => intro cb0 i e0 x hi ws1 H locs ls hcb0 hqu hT hrow hC1 hGo hme; exact absurd hme (Nat.not_lt_zero _)
    | succ n ih =>
      intro cb0 i e0 x hi ws1 H locs ls hcb0 hqu hT hrow hC1 hGo hme hP hD hS hl
      obtain ⟨fsR, hRo⟩ := hrow.obj
      obtain ⟨f2, hR2⟩ := id hrow
      obtain ⟨fsG, hGoo⟩ := hGo.obj
      obtain ⟨FF, ⟨hg0, hg1, hg2, hg3, hg4, hg5, hg6, hg7, hg8⟩, hRR, hc8⟩ := id hC1
      have hle9 := hrow.le
      refine lv_iload hx hb dG_findWay_29 (lv_at hl 4 rfl) ?_
      refine lv_bipush (v := 30) hx hb dG_findWay_31 (by decide) ?_
      refine lv_icmp_ge (tgt := 86) hx hb dG_findWay_33 (by decide) (fun c33 => ?_) (fun c33 => ?_)
      · have hRES : wayQ g G 30 0 (L, cb0) = (e0, x.2) := by have e : 30 - i = 0 := (by have c33 : nI 30 ≤ nI i := c33; rw [nI_leI (by omega) (by omega)] at c33; omega); rw [← hqu, e]; by_cases q : e0 = -1; (rw [if_pos q, q]; rfl); (rw [if_neg q])
        refine lv_aload_n hx hb dG_findWay_86 rfl (lv_at hl 1 rfl) ?_
        refine x_callv (x_runV (n := 0) (As := []) (rest := []) ⟨hx, hb, hml, hown, hts⟩ (cR_clear l D tys A ws1 cI hI ad k x.1 f2 hR2) tw_489 tw_435 tw_436 tw_7 tw_437 (by decide +kernel) rfl rfl ⟨by decide, by decide⟩ ⟨Nat.zero_le _, Nat.zero_le _⟩ (va_recv hK hP (ci := 2) (q0 := k) rfl hRo) hK hP hD hS hA hN rfl hl.1 rfl (lv_room (Nat.le_of_ble_eq_true rfl)) dG_findWay_87) hS (fun ws_6 H locs hcl hP hD hS => ?_)
        refine lv_iload_n hx hb dG_findWay_90 rfl (lv_at hl 3 rfl) ?_
        refine lv_istore (lv' := [(4, .int e0), (0, .ref (ad kg)), (1, .ref (ad k)), (2, .ref (ad k2)), (3, .int e0)]) hx hb dG_findWay_91 hl (by decide) rfl (fun ls hl => ?_)
        refine lv_iconst (v := 0) hx hb dG_findWay_93 (by decide) ?_
        refine lv_istore (lv' := [(5, .int 0), (4, .int e0), (0, .ref (ad kg)), (1, .ref (ad k)), (2, .ref (ad k2)), (3, .int e0)]) hx hb dG_findWay_94 hl (by decide) rfl (fun ls hl => ?_)
        exact loop_96 _ cb0 x.2 e0 0 e0 [] (Nat.zero_le _) ws_6 _ _ _ hcb0 hRES rfl (hT.tr hcl.1.nt) ⟨_, hcl.2⟩ (hC1.keep hcl.1.fr (by omega)) (Nat.lt_succ_self _) hP hD hS (lv_sub hl [2, 3, 1, 0] rfl)
      · refine lv_iload hx hb dG_findWay_36 (lv_at hl 4 rfl) ?_
        refine lv_aload_n hx hb dG_findWay_38 rfl (lv_at hl 1 rfl) ?_
        refine x_calli (x_runV (n := 0) (As := []) (rest := [.int (nI i)]) ⟨hx, hb, hml, hown, hts⟩ (cR_size l D tys A ws1 cI hI ad k _ hrow) tw_477 tw_443 tw_444 tw_7 tw_445 (by decide +kernel) rfl rfl ⟨by decide, by decide⟩ ⟨Nat.zero_le _, Nat.zero_le _⟩ (va_recv hK hP (ci := 2) (q0 := k) rfl hRo) hK hP hD hS hA hN rfl hl.1 rfl (lv_room (Nat.le_of_ble_eq_true rfl)) dG_findWay_39) hS (fun r_8 ws_7 H locs hz hP hD hS => ?_)
        obtain ⟨hz, rfl⟩ := hz
        refine lv_icmp_ge (tgt := 86) hx hb dG_findWay_42 (by decide) (fun c42 => ?_) (fun c42 => ?_)
        · have hRES : wayQ g G 30 0 (L, cb0) = (e0, x.2) := by rw [← hqu, wayQ_out (by rw [hz, nI_leI (by omega) (by omega)] at c42; exact c42)]; by_cases q : e0 = -1; (rw [if_pos q, q]); (rw [if_neg q])
          refine lv_aload_n hx hb dG_findWay_86 rfl (lv_at hl 1 rfl) ?_
          refine x_callv (x_runV (n := 0) (As := []) (rest := []) ⟨hx, hb, hml, hown, hts⟩ (cR_clear l D tys A ws1 cI hI ad k x.1 f2 hR2) tw_489 tw_435 tw_436 tw_7 tw_437 (by decide +kernel) rfl rfl ⟨by decide, by decide⟩ ⟨Nat.zero_le _, Nat.zero_le _⟩ (va_recv hK hP (ci := 2) (q0 := k) rfl hRo) hK hP hD hS hA hN rfl hl.1 rfl (lv_room (Nat.le_of_ble_eq_true rfl)) dG_findWay_87) hS (fun ws_9 H locs hcl hP hD hS => ?_)
          refine lv_iload_n hx hb dG_findWay_90 rfl (lv_at hl 3 rfl) ?_
          refine lv_istore (lv' := [(4, .int e0), (0, .ref (ad kg)), (1, .ref (ad k)), (2, .ref (ad k2)), (3, .int e0)]) hx hb dG_findWay_91 hl (by decide) rfl (fun ls hl => ?_)
          refine lv_iconst (v := 0) hx hb dG_findWay_93 (by decide) ?_
          refine lv_istore (lv' := [(5, .int 0), (4, .int e0), (0, .ref (ad kg)), (1, .ref (ad k)), (2, .ref (ad k2)), (3, .int e0)]) hx hb dG_findWay_94 hl (by decide) rfl (fun ls hl => ?_)
          exact loop_96 _ cb0 x.2 e0 0 e0 [] (Nat.zero_le _) ws_9 _ _ _ hcb0 hRES rfl (hT.tr hcl.1.nt) ⟨_, hcl.2⟩ (hC1.keep hcl.1.fr (by omega)) (Nat.lt_succ_self _) hP hD hS (lv_sub hl [2, 3, 1, 0] rfl)
        · refine lv_iload_n hx hb dG_findWay_45 rfl (lv_at hl 3 rfl) ?_
          refine lv_iconst (v := (-1)) hx hb dG_findWay_46 (by decide) ?_
          refine lv_icmp_ne (tgt := 86) hx hb dG_findWay_47 (by decide) (fun c47 => ?_) (fun c47 => ?_)
          · have hRES : wayQ g G 30 0 (L, cb0) = (e0, x.2) := by rw [← hqu, if_neg c47]
            refine lv_aload_n hx hb dG_findWay_86 rfl (lv_at hl 1 rfl) ?_
            refine x_callv (x_runV (n := 0) (As := []) (rest := []) ⟨hx, hb, hml, hown, hts⟩ (cR_clear l D tys A ws1 cI hI ad k x.1 f2 hR2) tw_489 tw_435 tw_436 tw_7 tw_437 (by decide +kernel) rfl rfl ⟨by decide, by decide⟩ ⟨Nat.zero_le _, Nat.zero_le _⟩ (va_recv hK hP (ci := 2) (q0 := k) rfl hRo) hK hP hD hS hA hN rfl hl.1 rfl (lv_room (Nat.le_of_ble_eq_true rfl)) dG_findWay_87) hS (fun ws_10 H locs hcl hP hD hS => ?_)
            refine lv_iload_n hx hb dG_findWay_90 rfl (lv_at hl 3 rfl) ?_
            refine lv_istore (lv' := [(4, .int e0), (0, .ref (ad kg)), (1, .ref (ad k)), (2, .ref (ad k2)), (3, .int e0)]) hx hb dG_findWay_91 hl (by decide) rfl (fun ls hl => ?_)
            refine lv_iconst (v := 0) hx hb dG_findWay_93 (by decide) ?_
            refine lv_istore (lv' := [(5, .int 0), (4, .int e0), (0, .ref (ad kg)), (1, .ref (ad k)), (2, .ref (ad k2)), (3, .int e0)]) hx hb dG_findWay_94 hl (by decide) rfl (fun ls hl => ?_)
            exact loop_96 _ cb0 x.2 e0 0 e0 [] (Nat.zero_le _) ws_10 _ _ _ hcb0 hRES rfl (hT.tr hcl.1.nt) ⟨_, hcl.2⟩ (hC1.keep hcl.1.fr (by omega)) (Nat.lt_succ_self _) hP hD hS (lv_sub hl [2, 3, 1, 0] rfl)
          · have hi2 : i < x.1.length := by rw [hz, nI_leI (by omega) (by omega)] at c42; omega
            have hi30 : i < 30 := by omega
            have hq3 : x.1[i] < 30 := hrow.lt _ (List.getElem_mem hi2)
            rw [if_pos c47, show 30 - i = (30 - (i + 1)) + 1 by omega] at hqu
            have hqe : x.1.getD i 0 = x.1[i] := by simp [hi2]
            refine lv_aload_n hx hb dG_findWay_50 rfl (lv_at hl 1 rfl) ?_
            refine lv_iload hx hb dG_findWay_51 (lv_at hl 4 rfl) ?_
            refine x_calli (x_runV (n := 1) (As := [.int (nI i)]) (rest := []) ⟨hx, hb, hml, hown, hts⟩ (cR_at l D tys A ws1 cI hI ad k _ ((nI i)) hrow) tw_478 tw_447 tw_448 tw_7 tw_449 (by decide +kernel) rfl rfl ⟨by decide, by decide⟩ ⟨Nat.zero_le _, Nat.zero_le _⟩ (va_recv hK hP (ci := 2) (q0 := k) rfl hRo) hK hP hD hS hA hN rfl hl.1 rfl (lv_room (Nat.le_of_ble_eq_true rfl)) dG_findWay_53) hS (fun rat ws_11 H locs hat hP hD hS => ?_)
            obtain ⟨hat, rfl⟩ := hat
            obtain rfl : rat = nI x.1[i] := by rw [hat, atI_nI hi2 (by omega)]
            refine lv_istore (lv' := [(5, .int (nI x.1[i])), (0, .ref (ad kg)), (1, .ref (ad k)), (2, .ref (ad k2)), (3, .int e0), (4, .int (nI i))]) hx hb dG_findWay_56 hl (by decide) rfl (fun ls hl => ?_)
            refine lv_aload_n hx hb dG_findWay_58 rfl (lv_at hl 3 rfl) ?_
            refine lv_iload hx hb dG_findWay_59 (lv_at hl 0 rfl) ?_
            refine x_calli (x_runV (n := 1) (As := [.int (nI x.1[i])]) (rest := []) ⟨hx, hb, hml, hown, hts⟩ (cR_has l D tys A ws1 cI hI ad k2 G ((nI x.1[i])) hGo) tw_479 tw_480 tw_481 tw_7 tw_482 (by decide +kernel) rfl rfl ⟨by decide, by decide⟩ ⟨Nat.zero_le _, Nat.zero_le _⟩ (va_recv hK hP (ci := 2) (q0 := k2) rfl hGoo) hK hP hD hS hA hN rfl hl.1 rfl (lv_room (Nat.le_of_ble_eq_true rfl)) dG_findWay_61) hS (fun rhs ws_12 H locs hhs hP hD hS => ?_)
            obtain ⟨hhs, rfl⟩ := hhs
            refine lv_if_eq (tgt := 73) hx hb dG_findWay_64 (by decide) (fun c64 => ?_) (fun c64 => ?_)
            · refine lv_aload_n hx hb dG_findWay_73 rfl (lv_at hl 1 rfl) ?_
              refine lv_iload hx hb dG_findWay_74 (lv_at hl 0 rfl) ?_
              refine lv_aload_n hx hb dG_findWay_76 rfl (lv_at hl 2 rfl) ?_
              refine x_callv (x_runV (n := 2) (As := [.int (nI x.1[i]), .ref (ad k)]) (rest := []) ⟨hx, hb, hml, hown, hts⟩ (cG_noteNeedsOf l D tys A ws1 cI hI ad kg k hd g x.1 x.1[i] hq3 x.2 hC1 hrow) tw_483 tw_485 ts_G_noteNeedsOf tw_2 tw_486 (by decide +kernel) rfl rfl ⟨by decide, by decide⟩ ⟨Nat.zero_le _, Nat.zero_le _⟩ (va_recv hK hP (ci := 0) (q0 := kg) rfl hg0) hK hP hD hS hA hN rfl hl.1 rfl (lv_room (Nat.le_of_ble_eq_true rfl)) dG_findWay_77) hS (fun ws_13 H locs hnt hP hD hS => ?_)
              refine lv_iinc (v := (nI (i + 1))) (lv' := [(4, .int (nI (i + 1))), (5, .int (nI x.1[i])), (0, .ref (ad kg)), (1, .ref (ad k)), (2, .ref (ad k2)), (3, .int e0)]) hx hb dG_findWay_80 hl (k := 5) rfl (nI_1 _) (by decide) rfl (fun ls hl => ?_)
              refine lv_goto (tgt := 29) hx hb dG_findWay_83 (by decide) ?_
              exact ih cb0 (i + 1) e0 (noteL x.1[i] x (gD g x.1[i])) (by omega) ws_13 _ _ _ hcb0 (by rw [hhs, hasI_nI _ hq3, b2i_0, decide_eq_false_iff_not] at c64; rw [if_pos c47, ← hqu]; show _ = if i < x.1.length then _ else _; rw [if_pos hi2, hqe, if_neg c64]) (hT.tr hnt.1) hnt.2.1 hnt.2.2 (hGo.keepN hnt.1 hd2 (by omega)) (by omega) hP hD hS (lv_sub hl [2, 3, 4, 5, 0] rfl)
            · refine lv_iload hx hb dG_findWay_67 (lv_at hl 0 rfl) ?_
              refine lv_istore_n (lv' := [(3, .int (nI x.1[i])), (5, .int (nI x.1[i])), (0, .ref (ad kg)), (1, .ref (ad k)), (2, .ref (ad k2)), (4, .int (nI i))]) hx hb dG_findWay_69 rfl hl (by decide) rfl (fun ls hl => ?_)
              refine lv_goto (tgt := 80) hx hb dG_findWay_70 (by decide) ?_
              refine lv_iinc (v := (nI (i + 1))) (lv' := [(4, .int (nI (i + 1))), (3, .int (nI x.1[i])), (5, .int (nI x.1[i])), (0, .ref (ad kg)), (1, .ref (ad k)), (2, .ref (ad k2))]) hx hb dG_findWay_80 hl (k := 5) rfl (nI_1 _) (by decide) rfl (fun ls hl => ?_)
              refine lv_goto (tgt := 29) hx hb dG_findWay_83 (by decide) ?_
              exact ih cb0 (i + 1) (nI x.1[i]) x (by omega) ws1 _ _ _ hcb0 (by rw [hhs, hasI_nI _ hq3, b2i_n0, decide_eq_true_eq] at c64; rw [if_neg (nI_nm1 (by omega)), ← hqu]; show _ = if i < x.1.length then _ else _; rw [if_pos hi2, hqe, if_pos c64]) hT hrow hC1 hGo (by omega) hP hD hS (lv_sub hl [3, 4, 5, 1, 0] rfl)
  have loop_2 : ∀ (n : Nat) (cb : Nat → Int32) (i : Nat) (hi : i ≤ 30) (ws1 : va_W) (H : Heap) (locs : List Loc) (ls : Array Slot), (∀ x, x < i → cb x = -1) → x_nt kg k ws ws1 → RowAt cI ad ws1 k L → GraphC cI ad ws1 kg g cb → RowAt cI ad ws1 k2 G → 30 - i < n → va_P D xCl ws1 H → va_D A ws1 → va_S A s.heap H locs → lv_has ls 6 [(0, .ref (ad kg)), (1, .ref (ad k)), (2, .ref (ad k2)), (3, .int (nI i))] → W p l e (xR 3) s m args below meth c H locs 0 0 (MQ below (va_Qv (fun ws1 => x_nt kg k ws ws1 ∧ GraphAt cI ad ws1 kg g ∧ ∃ cb0 : Nat → Int32, (∀ x, x < 30 → cb0 x = -1) ∧ RowAt cI ad ws1 k (wayS g L G cb0)) (x_B D xCl tys A) A) args s 0 0 A) (F0 m 2 ls []) := by
    intro n
    induction n with
    | zero => intro cb i hi ws1 H locs ls hcb hT hrow hC1 hGo hme; exact absurd hme (Nat.not_lt_zero _)
    | succ n ih =>
      intro cb i hi ws1 H locs ls hcb hT hrow hC1 hGo hme hP hD hS hl
      obtain ⟨FF, ⟨hg0, hg1, hg2, hg3, hg4, hg5, hg6, hg7, hg8⟩, hRR, hc8⟩ := id hC1
      refine lv_iload_n hx hb dG_findWay_2 rfl (lv_at hl 3 rfl) ?_
      refine lv_aload_n hx hb dG_findWay_3 rfl (lv_at hl 0 rfl) ?_
      refine va_get (D := D) (cl := xCl) (ci := 0) (v := .ref (ad (kg + 8))) (C := rnG) (T := tbG) (N := 9) hx hb hts inG hown hK hP kg hg0 rfl 7 (by decide) (hts _ tw_36) (fun _ h9 => h9) rfl dG_findWay_4 ?_
      refine va_alen (v := 30) hx hb hK hP (kg + 8) 0 hg8 hI (by rfl) dG_findWay_7 ?_
      refine lv_icmp_ge (tgt := 24) hx hb dG_findWay_8 (by decide) (fun c8 => ?_) (fun c8 => ?_)
      · refine lv_iconst (v := (-1)) hx hb dG_findWay_24 (by decide) ?_
        refine lv_istore_n (lv' := [(3, .int (-1)), (0, .ref (ad kg)), (1, .ref (ad k)), (2, .ref (ad k2))]) hx hb dG_findWay_25 rfl hl (by decide) rfl (fun ls hl => ?_)
        refine lv_iconst (v := 0) hx hb dG_findWay_26 (by decide) ?_
        refine lv_istore (lv' := [(4, .int 0), (3, .int (-1)), (0, .ref (ad kg)), (1, .ref (ad k)), (2, .ref (ad k2))]) hx hb dG_findWay_27 hl (by decide) rfl (fun ls hl => ?_)
        exact loop_29 _ cb 0 (-1) (L, cb) (Nat.zero_le _) ws1 _ _ _ (fun x hx => hcb x (by have c8 : nI 30 ≤ nI i := c8; rw [nI_leI (by omega) (by omega)] at c8; omega)) rfl hT hrow hC1 hGo (Nat.lt_succ_self _) hP hD hS (lv_sub hl [2, 3, 4, 1, 0] rfl)
      · have hi2 : i < 30 := by have c8 : ¬ nI 30 ≤ nI i := c8; rw [nI_leI (by omega) (by omega)] at c8; omega
        refine lv_aload_n hx hb dG_findWay_11 rfl (lv_at hl 0 rfl) ?_
        refine va_get (D := D) (cl := xCl) (ci := 0) (v := .ref (ad (kg + 8))) (C := rnG) (T := tbG) (N := 9) hx hb hts inG hown hK hP kg hg0 rfl 7 (by decide) (hts _ tw_36) (fun _ h9 => h9) rfl dG_findWay_12 ?_
        refine lv_iload_n hx hb dG_findWay_15 rfl (lv_at hl 3 rfl) ?_
        refine lv_iconst (v := (-1)) hx hb dG_findWay_16 (by decide) ?_
        refine va_iast hx hb hK hP hD hS (kg + 8) 0 hg8 hI (vp_in_nI (by omega) (by omega)) dG_findWay_17 (fun H locs hP hD hS => ?_)
        obtain ⟨ws_15, hu_14, hP, hD⟩ := x_gen hg8 hP hD
        have h_16 : ws_15[kg + 8]? = some (ad (kg + 8), .inl (cI, 30, .inl (upd (FF 8) ((nI i)).toNatClampNeg ((-1))))) := hu_14.1
        have h_17 := (hu_14.2 kg (by omega)).trans hg0
        have h_18 := (hu_14.2 (kg + 1) (by omega)).trans hg1
        have h_19 := (hu_14.2 (kg + 2) (by omega)).trans hg2
        have h_20 := (hu_14.2 (kg + 3) (by omega)).trans hg3
        have h_21 := (hu_14.2 (kg + 4) (by omega)).trans hg4
        have h_22 := (hu_14.2 (kg + 5) (by omega)).trans hg5
        have h_23 := (hu_14.2 (kg + 6) (by omega)).trans hg6
        have h_24 := (hu_14.2 (kg + 7) (by omega)).trans hg7
        refine lv_iinc (v := (nI (i + 1))) (lv' := [(3, .int (nI (i + 1))), (0, .ref (ad kg)), (1, .ref (ad k)), (2, .ref (ad k2))]) hx hb dG_findWay_18 hl (k := 3) rfl (nI_1 _) (by decide) rfl (fun ls hl => ?_)
        refine lv_goto (tgt := 2) hx hb dG_findWay_21 (by decide) ?_
        exact ih (upd (FF 8) ((nI i)).toNatClampNeg ((-1))) (i + 1) (by omega) ws_15 _ _ _ (fun x hx => by rw [nI_clamp (by omega)]; unfold upd; by_cases e : x = i; (rw [if_pos e]); (rw [if_neg e, hc8]; exact hcb x (by omega))) (hT.tr hu_14.nt) (hrow.keepF (hu_14.fr (a := kg + 8) (b := kg + 9) (by omega) (by omega)) (by omega)) ⟨setF FF 8 (upd (FF 8) ((nI i)).toNatClampNeg ((-1))), ⟨h_17, h_18, h_19, h_20, h_21, h_22, h_23, h_24, h_16⟩, hRR.c8 _, rfl⟩ (hGo.keepF (hu_14.fr (a := kg + 8) (b := kg + 9) (by omega) (by omega)) (by omega)) (by omega) hP hD hS (lv_sub hl [1, 2, 3, 0] rfl)
  refine lv_iconst (v := 0) hx hb dG_findWay_0 (by decide) ?_
  refine lv_istore_n (lv' := [(3, .int 0), (0, .ref (ad kg)), (1, .ref (ad k)), (2, .ref (ad k2))]) hx hb dG_findWay_1 rfl hl (by decide) rfl (fun ls hl => ?_)
  exact loop_2 _ cb9 0 (Nat.zero_le _) ws _ _ _ (fun x hx => absurd hx (Nat.not_lt_zero x)) x_nt.rf h hC9 hGo (Nat.lt_succ_self _) hP hD hS (lv_sub hl [1, 2, 3, 0] rfl)
