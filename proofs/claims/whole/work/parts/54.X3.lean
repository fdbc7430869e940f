/-- the characters from a on are the i-th word's -/
def spJ (cs : List Nat) (i a : Nat) : Nat → Bool
  | 0 => true
  | n + 1 => spJ cs i a n && decide (nI (chN cs (a + n)) = sch i n)
def spB (cs : List Nat) (i a z : Nat) : Bool := decide (sLen.getD i 0 = z) && spJ cs i a (sLen.getD i 0)
theorem spJ_f {cs : List Nat} {i a j : Nat} (h : ¬ nI (chN cs (a + j)) = sch i j) : ∀ n, j < n → spJ cs i a n = false := by
  intro n
  induction n with
  | zero => intro h9; exact absurd h9 (Nat.not_lt_zero _)
  | succ n ih =>
    intro h9
    show (spJ cs i a n && decide (nI (chN cs (a + n)) = sch i n)) = false
    by_cases e : j = n
    · subst e; rw [decide_eq_false h, Bool.and_false]
    · rw [ih (by omega)]; rfl

set_option maxHeartbeats 4000000 in
set_option maxRecDepth 100000 in
/-- Text.spells(word, start, size) -/
theorem cX_spells (l : Launch) (D : va_G) (tys : List (ClassId × FieldType)) (A : Nat → Prop) (ws : va_W) (adK adV : Nat → Nat) (zf : Value) (hzf : zf = .null ∨ ∃ t, zf = .ref t) (cC : ClassId) (hC : tys[1]? = some (cC, .char)) (ad : Nat → Nat) (k : Nat) (cs : List Nat) (i a z : Nat) (hi9 : i < 9) (ha : a < 1000) (hz : z < 1000) (hT : TextAt cC ad ws k cs) : x_Msi l yX_spells wX_spells (xR 4) adK adV zf D xCl tys A [.ref (ad k), .ref (adK i), .int (nI a), .int (nI z)] ws (fun r ws1 => r = b2i (spB cs i a z) ∧ ws = ws1) := by
  obtain ⟨fs9, h0⟩ := hT.obj
  have h6 := sLen_lt i hi9
  refine x_enters (by decide) rfl (Nat.le_of_ble_eq_true rfl) (fun p e s m args below meth c ls hx hb hr hlk hml hown hnm hts hK hP hD hS hA hN hE hl => ?_)
  have hl : lv_has ls 5 [(0, .ref (ad k)), (1, .ref (adK i)), (2, .int (nI a)), (3, .int (nI z))] := hl
  have loop_13 : ∀ (fu9 : Nat) (j : Nat) (hj : j ≤ sLen.getD i 0) (ws1 : va_W) (H : Heap) (locs : List Loc) (ls : Array Slot), spJ cs i a j = true → sLen.getD i 0 = z → ws = ws1 → sLen.getD i 0 - j < fu9 → va_P D xCl ws1 H → va_D A ws1 → va_S A s.heap H locs → lv_has ls 5 [(0, .ref (ad k)), (1, .ref (adK i)), (2, .int (nI a)), (3, .int (nI z)), (4, .int (nI j))] → W p l e (xR 4) s m args below meth c H locs 0 0 (MQ below (va_Qi (fun r ws1 => r = b2i (spB cs i a z) ∧ ws = ws1) (x_B D xCl tys A) A) args s 0 0 A) (F0 m 13 ls []) := by
    intro fu9
    induction fu9 with
    | zero => intro j hj ws1 H locs ls hsp hz9 hws hme; exact absurd hme (Nat.not_lt_zero _)
    | succ fu9 ih =>
      intro j hj ws1 H locs ls hsp hz9 hws hme hP hD hS hl
      subst hws
      refine lv_iload hx hb dX_spells_13 (lv_at hl 4 rfl) ?_
      refine lv_aload_n hx hb dX_spells_15 rfl (lv_at hl 1 rfl) ?_
      refine x_calli (x_runVs (n := 0) (As := []) (rest := [.int (nI j)]) ⟨hx, hb, hml, hown, hts⟩ (cS_length l D tys A ws adK adV zf hzf i hi9) tw_250 tw_251 tw_252 tw_9 tw_253 (by decide +kernel) rfl rfl ⟨by decide, by decide⟩ ⟨Nat.zero_le _, Nat.zero_le _⟩ (vk_recv hE.2.2.1 hi9 hS) hK hP hD hS hA hN hE rfl hl.1 rfl (lv_room (Nat.le_of_ble_eq_true rfl)) dX_spells_16) hS (fun rlen ws_1 H locs hlen hP hD hS => ?_)
      obtain ⟨hlen, rfl⟩ := hlen
      refine lv_icmp_ge (tgt := 47) hx hb dX_spells_19 (by decide) (fun c19 => ?_) (fun c19 => ?_)
      · refine lv_iconst (v := 1) hx hb dX_spells_47 (by decide) ?_
        exact x_zret hx hb hr rfl hlk hK hP hD hS dX_spells_48 ⟨by have e : j = sLen.getD i 0 := (by rw [hlen, nI_leI (by omega) (by omega)] at c19; omega); unfold spB; rw [decide_eq_true hz9, ← e, hsp]; rfl, rfl⟩
      · have hj2 : j < sLen.getD i 0 := by rw [hlen, nI_leI (by omega) (by omega)] at c19; omega
        refine lv_aload_n hx hb dX_spells_22 rfl (lv_at hl 0 rfl) ?_
        refine lv_iload_n hx hb dX_spells_23 rfl (lv_at hl 2 rfl) ?_
        refine lv_iload hx hb dX_spells_24 (lv_at hl 4 rfl) ?_
        refine lv_iadd hx hb dX_spells_26 ?_
        refine lv_topi (fun v_2 ev_2 => ?_)
        obtain rfl : v_2 = nI (a + j) := by rw [ev_2, nI_add]
        refine x_calli (x_runV (n := 1) (As := [.int (nI (a + j))]) (rest := []) ⟨hx, hb, hml, hown, hts⟩ (cX_charAt l D tys A ws cC hC ad k cs (nI (a + j)) hT) tw_224 tw_226 ts_X_charAt tw_3 tw_227 (by decide +kernel) rfl rfl ⟨by decide, by decide⟩ ⟨Nat.zero_le _, Nat.zero_le _⟩ (va_recv hK hP (ci := 5) (q0 := k) rfl h0) hK hP hD hS hA hN rfl hl.1 rfl (lv_room (Nat.le_of_ble_eq_true rfl)) dX_spells_27) hS (fun rch ws_3 H locs hch hP hD hS => ?_)
        obtain ⟨hch, rfl⟩ := hch
        refine lv_aload_n hx hb dX_spells_30 rfl (lv_at hl 1 rfl) ?_
        refine lv_iload hx hb dX_spells_31 (lv_at hl 4 rfl) ?_
        refine x_calli (x_runVs (n := 1) (As := [.int (nI j)]) (rest := [.int rch]) ⟨hx, hb, hml, hown, hts⟩ (cS_charAt l D tys A ws adK adV zf hzf i hi9 j hj2) tw_260 tw_261 tw_262 tw_9 tw_263 (by decide +kernel) rfl rfl ⟨by decide, by decide⟩ ⟨Nat.zero_le _, Nat.zero_le _⟩ (vk_recv hE.2.2.1 hi9 hS) hK hP hD hS hA hN hE rfl hl.1 rfl (lv_room (Nat.le_of_ble_eq_true rfl)) dX_spells_33) hS (fun rsc ws_4 H locs hsc hP hD hS => ?_)
        obtain ⟨hsc, rfl⟩ := hsc
        refine lv_icmp_eq (tgt := 41) hx hb dX_spells_36 (by decide) (fun c36 => ?_) (fun c36 => ?_)
        · refine lv_iinc (v := (nI (j + 1))) (lv' := [(4, .int (nI (j + 1))), (0, .ref (ad k)), (1, .ref (adK i)), (2, .int (nI a)), (3, .int (nI z))]) hx hb dX_spells_41 hl (k := 4) rfl (nI_1 _) (by decide) rfl (fun ls hl => ?_)
          refine lv_goto (tgt := 13) hx hb dX_spells_44 (by decide) ?_
          exact ih (j + 1) (by omega) ws _ _ _ (by rw [hch, hsc, chI_nI cs (by omega)] at c36; show (spJ cs i a j && _) = true; rw [hsp, decide_eq_true c36]; rfl) hz9 rfl (by omega) hP hD hS (lv_sub hl [1, 2, 3, 4, 0] rfl)
        · refine lv_iconst (v := 0) hx hb dX_spells_39 (by decide) ?_
          exact x_zret hx hb hr rfl hlk hK hP hD hS dX_spells_40 ⟨by rw [hch, hsc, chI_nI cs (by omega)] at c36; unfold spB; rw [spJ_f c36 _ hj2, Bool.and_false]; rfl, rfl⟩
  refine lv_aload_n hx hb dX_spells_0 rfl (lv_at hl 1 rfl) ?_
  refine x_calli (x_runVs (n := 0) (As := []) (rest := []) ⟨hx, hb, hml, hown, hts⟩ (cS_length l D tys A ws adK adV zf hzf i hi9) tw_250 tw_251 tw_252 tw_9 tw_253 (by decide +kernel) rfl rfl ⟨by decide, by decide⟩ ⟨Nat.zero_le _, Nat.zero_le _⟩ (vk_recv hE.2.2.1 hi9 hS) hK hP hD hS hA hN hE rfl hl.1 rfl (lv_room (Nat.le_of_ble_eq_true rfl)) dX_spells_1) hS (fun rlen ws_5 H locs hlen hP hD hS => ?_)
  obtain ⟨hlen, rfl⟩ := hlen
  refine lv_iload_n hx hb dX_spells_4 rfl (lv_at hl 3 rfl) ?_
  refine lv_icmp_eq (tgt := 10) hx hb dX_spells_5 (by decide) (fun c5 => ?_) (fun c5 => ?_)
  · refine lv_iconst (v := 0) hx hb dX_spells_10 (by decide) ?_
    refine lv_istore (lv' := [(4, .int 0), (0, .ref (ad k)), (1, .ref (adK i)), (2, .int (nI a)), (3, .int (nI z))]) hx hb dX_spells_11 hl (by decide) rfl (fun ls hl => ?_)
    exact loop_13 _ 0 (Nat.zero_le _) ws _ _ _ rfl (by rw [hlen, nI_eq (by omega) (by omega)] at c5; exact c5) rfl (Nat.lt_succ_self _) hP hD hS (lv_sub hl [1, 2, 3, 4, 0] rfl)
  · refine lv_iconst (v := 0) hx hb dX_spells_8 (by decide) ?_
    exact x_zret hx hb hr rfl hlk hK hP hD hS dX_spells_9 ⟨by rw [hlen] at c5; have z9 : ¬ sLen.getD i 0 = z := (fun e => c5 (by rw [e])); unfold spB; rw [decide_eq_false z9]; rfl, rfl⟩
