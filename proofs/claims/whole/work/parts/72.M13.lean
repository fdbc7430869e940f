theorem ite_l {p : Prop} [Decidable p] {a b : Sum Int32 MS} {T : List Tok} {x : Int32} (h : (if p then a else b) = .inl x) (ha : a = .inl x → ∃ j, x = (tk T j).2.2) (hb : b = .inl x → ∃ j, x = (tk T j).2.2) : ∃ j, x = (tk T j).2.2 := by
  by_cases c : p
  · rw [if_pos c] at h; exact ha h
  · rw [if_neg c] at h; exact hb h
theorem inr_l {T : List Tok} {x : Int32} {st : MS} (h : (Sum.inr st : Sum Int32 MS) = .inl x) : ∃ j, x = (tk T j).2.2 := by cases h
theorem inl_l {T : List Tok} {x : Int32} {j : Nat} (h : (Sum.inl (tk T j).2.2 : Sum Int32 MS) = .inl x) : ∃ j, x = (tk T j).2.2 := by injection h with h; exact ⟨j, h.symm⟩
theorem mTerm_l {T : List Tok} {d : Int32} {i : Nat} {S : List Mu} {O : List Tok} {op : Nat → Int32} {x : Int32} (h : mTerm T d i S O op = .inl x) : ∃ j, x = (tk T j).2.2 := by
  unfold mTerm at h
  refine ite_l h inl_l (fun h => ite_l h inr_l (fun h => ite_l h inr_l (fun h => ite_l h (fun h => ite_l h inr_l inl_l) (fun h => ite_l h (fun h => ite_l h inr_l inl_l) (fun h => ite_l h (fun h => ite_l h inr_l inl_l) (fun h => ite_l h (fun h => ite_l h (fun h => ite_l h (fun h => ite_l h inr_l inl_l) inl_l) inl_l) (fun h => ite_l h (fun h => ite_l h (fun h => ite_l h inr_l inl_l) inl_l) inl_l)))))))
theorem mst_l {T : List Tok} {it : Mu} {i : Nat} {S : List Mu} {O : List Tok} {op : Nat → Int32} {x : Int32} (h : mst T it i S O op = .inl x) : ∃ j, x = (tk T j).2.2 := by
  unfold mst at h
  refine ite_l h inr_l (fun h => ite_l h mTerm_l (fun h => ite_l h (fun h => ite_l h inr_l inr_l) (fun h => ite_l h (fun h => ite_l h inr_l inl_l) (fun h => ite_l h (fun h => ite_l h (fun h => ite_l h (fun h => ite_l h inr_l inl_l) inl_l) (fun h => ite_l h inr_l inl_l)) (fun h => ite_l h (fun h => ite_l h inr_l inl_l) (fun h => ite_l h inr_l inr_l))))))
def mes (r : Sum Int32 MS) : Nat := match r with
  | .inl _ => 0
  | .inr st => muM st + 1

/-- what read() leaves -/
def RdP (cs : List Nat) (v : Nat → Int32) (F : Nat → Nat → Int32) : Prop := ∀ sl : Nat → Int32, (∀ c, c < 26 → sl c = -1) → (((pS9 (spT cs 0) sl).1 = true ∧ (tkAt (spT cs 0) (pS9 (spT cs 0) sl).2).1 = 0) → v 13 = -1 ∧ ∃ Z, (pS9 (spT cs 0) sl).2.2.1 = cz Z ∧ zrun (0, []) Z (1, []) ∧ OrS v F (mz Z)) ∧ (¬ ((pS9 (spT cs 0) sl).1 = true ∧ (tkAt (spT cs 0) (pS9 (spT cs 0) sl).2).1 = 0) → v 13 = (tkAt (spT cs 0) (pS9 (spT cs 0) sl).2).2.2)
def RdI (cs : List Nat) (r : Sum Int32 MS) (v : Nat → Int32) (F : Nat → Nat → Int32) : Prop := (∀ st, r = .inr st → MP cs st.1 st.2.1 st.2.2.1 st.2.2.2 (-1) v F ∧ MI (spT cs 0) st) ∧ ∀ p, r = .inl p → v 13 = p ∧ ¬ p = -1
theorem rd_end {cs : List Nat} {r : Sum Int32 MS} {v v9 : Nat → Int32} {F : Nat → Nat → Int32} {op : Nat → Int32} (hl : cs.length ≤ 80) (hop : ∀ c, c < 26 → op c = 0) (hr : Rch (spT cs 0) (.inr (0, [(1, 0, 0)], [], op)) r) (hf : mFin r) (hI : RdI cs r v F) (h9 : (v 9 = 0 ∧ v9 = v) ∨ (¬ v 9 = 0 ∧ v9 = if v 13 = -1 then setV v 13 (v 10) else v)) : RdP cs v9 F := by
  intro sl hsl
  obtain ⟨r1, r2⟩ := read_ok (TW_T hl) hsl hop
  by_cases hp : (pS9 (spT cs 0) sl).1 = true
  · obtain ⟨Z, hZ, rZ⟩ := r1 hp
    have e : r = .inr ((pS9 (spT cs 0) sl).2.1, [], mz Z, op) := hr.det rZ hf (Or.inr ⟨_, _, _, rfl⟩)
    obtain ⟨hQ, -⟩ := hI.1 _ e
    have hk : v 9 = (tkAt (spT cs 0) (pS9 (spT cs 0) sl).2).1 := hQ.k.1
    have hk2 : v 10 = (tkAt (spT cs 0) (pS9 (spT cs 0) sl).2).2.2 := hQ.k.2.1
    have h13 : v 13 = -1 := hQ.2.2.2.2.2
    rcases h9 with ⟨z, rfl⟩ | ⟨z, rfl⟩
    · refine ⟨fun _ => ⟨h13, Z, hZ.2.1, hZ.2.2.2.2, hQ.2.2.2.1⟩, fun c => absurd ⟨hp, ?_⟩ c⟩
      rw [← hk]; exact z
    · rw [if_pos h13]
      refine ⟨fun c => absurd (hk.trans c.2) z, fun _ => hk2⟩
  · have e : r = .inl (tkAt (spT cs 0) (pS9 (spT cs 0) sl).2).2.2 := hr.det (r2 hp) hf (Or.inl ⟨_, rfl⟩)
    obtain ⟨i1, i2⟩ := hI.2 _ e
    refine ⟨fun c => absurd c.1 hp, fun _ => ?_⟩
    rcases h9 with ⟨z, rfl⟩ | ⟨z, rfl⟩
    · exact i1
    · rw [if_neg (by rw [i1]; exact i2)]; exact i1
theorem MP.pop {cI : ClassId} {ad : Nat → Nat} {ws : va_W} {km : Nat} {cs : List Nat} {i : Nat} {it : Mu} {S : List Mu} {O : List Tok} {op : Nat → Int32} {il : Int32} {v v0 : Nat → Int32} {F F0 : Nat → Nat → Int32} {x : Int32} (h : MP cs i (it :: S) O op il v F) (hk : kpR v0 F0 v F) (hx : x = v 18 - 1) (hM : ModF cI ad ws km (setV v 18 x) F) : ∃ v1, ModF cI ad ws km v1 F ∧ MP cs i S O op il v1 F ∧ kpR v0 F0 v1 F ∧ v1 18 = nI S.length ∧ v1 = setV v 18 x := by
  obtain ⟨h1, h2, ⟨m1, m2, m3⟩, h4, h5, h6⟩ := h
  have e : x = nI S.length := by rw [hx, m1, List.length_cons, nI_pred]
  refine ⟨_, hM, ⟨h1, h2, ⟨e, ?_, fun j hj => ?_⟩, h4, h5, h6⟩, hk.tr ⟨vk_s (by simp), fk.rf⟩, e, rfl⟩
  · rw [List.length_cons] at m2; omega
  · have := m3 (j + 1) (by rw [List.length_cons]; omega)
    rw [show (it :: S).length - 1 - (j + 1) = S.length - 1 - j by rw [List.length_cons]; omega] at this
    exact this
theorem RdI.nx {cs : List Nat} {r : Sum Int32 MS} {it : Mu} {i : Nat} {S : List Mu} {O : List Tok} {op : Nat → Int32} {v : Nat → Int32} {F : Nat → Nat → Int32} (hl : cs.length ≤ 80) (hT : TW (spT cs 0)) (hE : TE (spT cs 0)) (hm : MI (spT cs 0) (i, it :: S, O, op)) (e : r = .inr (i, it :: S, O, op)) (h : MPr cs (mst (spT cs 0) it i S O op) v F) : RdI cs (mst (spT cs 0) it i S O op) v F ∧ mes (mst (spT cs 0) it i S O op) < mes r := by
  refine ⟨⟨fun st hs => ⟨h.1 st hs, (hm.step hT hE hs).1⟩, fun p hp => ⟨h.2 p hp, ?_⟩⟩, ?_⟩
  · obtain ⟨j, rfl⟩ := mst_l hp
    exact pl_n hl j
  · rw [e]
    show _ < muM (i, it :: S, O, op) + 1
    cases hs : mst (spT cs 0) it i S O op with
    | inl p => exact Nat.succ_pos _
    | inr st => have := (hm.step hT hE hs).2; show muM st + 1 < _; omega

set_option maxHeartbeats 4000000 in
set_option maxRecDepth 100000 in
/-- read() -/
theorem cM_read (l : Launch) (D : va_G) (tys : List (ClassId × FieldType)) (A : Nat → Prop) (ws : va_W) (cI : ClassId) (hI : tys[0]? = some (cI, .int)) (ad : Nat → Nat) (km : Nat) (v : Nat → Int32) (F : Nat → Nat → Int32) (cs : List Nat) (htx : MTx cs v F) (hM : ModF cI ad ws km v F) : x_Mv l yM_read wM_read (xR 7) D xCl tys A [.ref (ad km)] ws (fun ws1 => x_fr km (km + 24) ws ws1 ∧ ∃ v9 F9, ModF cI ad ws1 km v9 F9 ∧ kpR v F v9 F9 ∧ RdP cs v9 F9) := by
  have hF : x_fr km (km + 24) ws ws := x_fr.rf
  have hle := htx.2.1
  have hT9 := TW_T hle
  have hE9 := TE_T htx.2.2.2
  refine x_enter (by decide) rfl (Nat.le_of_ble_eq_true rfl) (fun p e s m args below meth c ls hx hb hr hlk hml hown hnm hts hK hP hD hS hA hN hl => ?_)
  have hl : lv_has ls 2 [(0, .ref (ad km))] := hl
  have loop_52 : ∀ (fu9 : Nat) (op0 : Nat → Int32) (r9 : Sum Int32 MS) (v1 : Nat → Int32) (F1 : Nat → Nat → Int32) (ws1 : va_W) (H : Heap) (locs : List Loc) (ls : Array Slot), (∀ c, c < 26 → op0 c = 0) → Rch (spT cs 0) (.inr (0, [(1, 0, 0)], [], op0)) r9 → RdI cs r9 v1 F1 → x_fr km (km + 24) ws ws1 → ModF cI ad ws1 km v1 F1 → kpR v F v1 F1 → mes r9 < fu9 → va_P D xCl ws1 H → va_D A ws1 → va_S A s.heap H locs → lv_has ls 2 [(0, .ref (ad km))] → W p l e (xR 7) s m args below meth c H locs 0 0 (MQ below (va_Qv (fun ws1 => x_fr km (km + 24) ws ws1 ∧ ∃ v9 F9, ModF cI ad ws1 km v9 F9 ∧ kpR v F v9 F9 ∧ RdP cs v9 F9) (x_B D xCl tys A) A) args s 0 0 A) (F0 m 52 ls []) := by
    intro fu9
    induction fu9 with
    | zero => intro op0 r9 v1 F1 ws1 H locs ls hop9 hR9 hI9 hF hM hkp hme; exact absurd hme (Nat.not_lt_zero _)
    | succ fu9 ih =>
      intro op0 r9 v1 F1 ws1 H locs ls hop9 hR9 hI9 hF hM hkp hme hP hD hS hl
      refine lv_aload_n hx hb dM_read_52 rfl (lv_at hl 0 rfl) ?_
      refine va_get (D := D) (cl := xCl) (ci := 7) (v := .int (v1 18)) (C := rnM) (T := tbM) (N := 39) hx hb hts inM hown hK hP km hM.1 rfl 18 (by decide) (hts _ tw_635) (fun _ h9 => h9) rfl dM_read_53 ?_
      refine lv_if_le (tgt := 111) hx hb dM_read_56 (by decide) (fun c56 => ?_) (fun c56 => ?_)
      · have hfin : mFin r9 := by
          cases hr0 : r9 with
          | inl p => exact Or.inl ⟨p, rfl⟩
          | inr st =>
            obtain ⟨i, S, O, op9⟩ := st
            have h18 := (hI9.1 _ hr0).1.2.2.1
            cases S with
            | nil => exact Or.inr ⟨_, _, _, rfl⟩
            | cons it S => exact absurd c56 (by have z9 := h18.2.1; rw [h18.1]; exact nI_nle (by show 0 < (it :: S).length; rw [List.length_cons]; omega) (by show (it :: S).length < _; replace z9 : (it :: S).length ≤ 300 := z9; omega))
        refine lv_aload_n hx hb dM_read_111 rfl (lv_at hl 0 rfl) ?_
        refine va_get (D := D) (cl := xCl) (ci := 7) (v := .int (v1 9)) (C := rnM) (T := tbM) (N := 39) hx hb hts inM hown hK hP km hM.1 rfl 9 (by decide) (hts _ tw_626) (fun _ h9 => h9) rfl dM_read_112 ?_
        refine lv_if_eq (tgt := 122) hx hb dM_read_115 (by decide) (fun c115 => ?_) (fun c115 => ?_)
        · exact x_vret hx hb hr hlk hK hP hD hS dM_read_122 ⟨hF, _, _, hM, hkp, rd_end hle hop9 hR9 hfin hI9 (Or.inl ⟨c115, rfl⟩)⟩
        · refine lv_aload_n hx hb dM_read_118 rfl (lv_at hl 0 rfl) ?_
          refine x_callv (x_runV (n := 0) (As := []) (rest := []) ⟨hx, hb, hml, hown, hts⟩ (cM_fail l D tys A ws1 cI hI ad km v1 F1 hM) tw_809 tw_811 ts_M_fail tw_8 tw_812 (by decide +kernel) rfl rfl ⟨by decide, by decide⟩ ⟨Nat.zero_le _, Nat.zero_le _⟩ (va_recv hK hP (ci := 7) (q0 := km) rfl hM.1) hK hP hD hS hA hN rfl hl.1 rfl (lv_room (Nat.le_of_ble_eq_true rfl)) dM_read_119) hS (fun ws_1 H locs hfa hP hD hS => ?_)
          obtain ⟨hF9, hM⟩ := hfa
          have hF := hF.tr hF9
          have hkp : kpR v F (if v1 13 = -1 then setV v1 13 (v1 10) else v1) F1 := by split; exact hkp.tr ⟨vk_s (by simp), fk.rf⟩; exact hkp
          exact x_vret hx hb hr hlk hK hP hD hS dM_read_122 ⟨hF, _, _, hM, hkp, rd_end hle hop9 hR9 hfin hI9 (Or.inr ⟨c115, rfl⟩)⟩
      · refine lv_aload_n hx hb dM_read_59 rfl (lv_at hl 0 rfl) ?_
        refine va_get (D := D) (cl := xCl) (ci := 7) (v := .int (v1 13)) (C := rnM) (T := tbM) (N := 39) hx hb hts inM hown hK hP km hM.1 rfl 13 (by decide) (hts _ tw_630) (fun _ h9 => h9) rfl dM_read_60 ?_
        refine lv_iconst (v := (-1)) hx hb dM_read_63 (by decide) ?_
        refine lv_icmp_ne (tgt := 111) hx hb dM_read_64 (by decide) (fun c64 => ?_) (fun c64 => ?_)
        · have hfin : mFin r9 := by
            cases hr0 : r9 with
            | inl p => exact Or.inl ⟨p, rfl⟩
            | inr st => exact absurd (hI9.1 _ hr0).1.2.2.2.2.2 c64
          refine lv_aload_n hx hb dM_read_111 rfl (lv_at hl 0 rfl) ?_
          refine va_get (D := D) (cl := xCl) (ci := 7) (v := .int (v1 9)) (C := rnM) (T := tbM) (N := 39) hx hb hts inM hown hK hP km hM.1 rfl 9 (by decide) (hts _ tw_626) (fun _ h9 => h9) rfl dM_read_112 ?_
          refine lv_if_eq (tgt := 122) hx hb dM_read_115 (by decide) (fun c115 => ?_) (fun c115 => ?_)
          · exact x_vret hx hb hr hlk hK hP hD hS dM_read_122 ⟨hF, _, _, hM, hkp, rd_end hle hop9 hR9 hfin hI9 (Or.inl ⟨c115, rfl⟩)⟩
          · refine lv_aload_n hx hb dM_read_118 rfl (lv_at hl 0 rfl) ?_
            refine x_callv (x_runV (n := 0) (As := []) (rest := []) ⟨hx, hb, hml, hown, hts⟩ (cM_fail l D tys A ws1 cI hI ad km v1 F1 hM) tw_809 tw_811 ts_M_fail tw_8 tw_812 (by decide +kernel) rfl rfl ⟨by decide, by decide⟩ ⟨Nat.zero_le _, Nat.zero_le _⟩ (va_recv hK hP (ci := 7) (q0 := km) rfl hM.1) hK hP hD hS hA hN rfl hl.1 rfl (lv_room (Nat.le_of_ble_eq_true rfl)) dM_read_119) hS (fun ws_2 H locs hfa hP hD hS => ?_)
            obtain ⟨hF9, hM⟩ := hfa
            have hF := hF.tr hF9
            have hkp : kpR v F (if v1 13 = -1 then setV v1 13 (v1 10) else v1) F1 := by split; exact hkp.tr ⟨vk_s (by simp), fk.rf⟩; exact hkp
            exact x_vret hx hb hr hlk hK hP hD hS dM_read_122 ⟨hF, _, _, hM, hkp, rd_end hle hop9 hR9 hfin hI9 (Or.inr ⟨c115, rfl⟩)⟩
        · obtain ⟨i, it, S, O, op9, hr9⟩ : ∃ i it S O op9, r9 = .inr (i, it :: S, O, op9) := by
            cases hr0 : r9 with
            | inl p => exact absurd c64 (fun z9 => (hI9.2 p hr0).2 ((hI9.2 p hr0).1.symm.trans z9))
            | inr st =>
              obtain ⟨i, S, O, op9⟩ := st
              have h18 := (hI9.1 _ hr0).1.2.2.1.1
              cases S with
              | nil => exact absurd (show v1 18 ≤ 0 by rw [h18]; exact (by decide : nI 0 ≤ 0)) c56
              | cons it S => exact ⟨i, it, S, O, op9, rfl⟩
          obtain ⟨hQ, hMI⟩ := hI9.1 _ hr9
          have hb9 := hMI.1.1
          have hOl9 : O.length ≤ 100 := by have z1 := hMI.2.1; have z2 := hMI.2.2; have z3 := hT9.1; replace z1 : O.length + pnd (it :: S) ≤ i := z1; replace z2 : i < (spT cs 0).length := z2; omega
          have hSl9 : S.length ≤ 100 := by have z1 := hb9.1; omega
          refine lv_aload_n hx hb dM_read_67 rfl (lv_at hl 0 rfl) ?_
          refine lv_dup hx hb dM_read_68 rfl ?_
          refine va_get (D := D) (cl := xCl) (ci := 7) (v := .int (v1 18)) (C := rnM) (T := tbM) (N := 39) hx hb hts inM hown hK hP km hM.1 rfl 18 (by decide) (hts _ tw_635) (fun _ h9 => h9) rfl dM_read_69 ?_
          refine lv_iconst (v := 1) hx hb dM_read_72 (by decide) ?_
          refine lv_isub hx hb dM_read_73 ?_
          refine lv_topi (fun v_3 ev_3 => ?_)
          refine va_put (D := D) (cl := xCl) (ci := 7) (v := .int v_3) (ty := .int) (C := rnM) (T := tbM) (N := 39) hx hb hts inM tyM toM nmM hown hK hP hD hS km hM.1 rfl 18 (by decide) (hts _ tw_635) (fun _ h9 => h9) rfl (by decide +kernel) rfl rfl (Nat.le_of_ble_eq_true rfl) dM_read_74 (fun H locs hP hD hS => ?_)
          obtain ⟨ws_5, hu_4, hP, hD⟩ := x_gen hM.1 hP hD
          have hM : ModF cI ad ws_5 km (setV v1 18 v_3) F1 := hM.fld_18 hu_4
          have hF := hF.tr (hu_4.fr (a := km) (b := km + 24) (by omega) (by omega))
          have hm3 := hQ.2.2.1.2.2 0 (by rw [List.length_cons]; omega)
          rw [show (it :: S).length - 1 - 0 = S.length by rw [List.length_cons]; omega] at hm3
          obtain ⟨v2, hM, hQ, hkp, hv18, ev2⟩ := hQ.pop hkp ev_3 hM
          refine lv_aload_n hx hb dM_read_77 rfl (lv_at hl 0 rfl) ?_
          refine lv_aload_n hx hb dM_read_78 rfl (lv_at hl 0 rfl) ?_
          refine va_get (D := D) (cl := xCl) (ci := 7) (v := .ref (ad (km + 7))) (C := rnM) (T := tbM) (N := 39) hx hb hts inM hown hK hP km hM.1 rfl 14 (by decide) (hts _ tw_631) (fun _ h9 => h9) rfl dM_read_79 ?_
          refine lv_aload_n hx hb dM_read_82 rfl (lv_at hl 0 rfl) ?_
          refine va_get (D := D) (cl := xCl) (ci := 7) (v := .int (v2 18)) (C := rnM) (T := tbM) (N := 39) hx hb hts inM hown hK hP km hM.1 rfl 18 (by decide) (hts _ tw_635) (fun _ h9 => h9) rfl dM_read_83 ?_
          refine va_iald hx hb hK hP (km + 7) 0 (hM.a 7 400 rfl (by omega) (by omega)) hI (by rw [hv18]; exact vp_in_nI (by omega) (by omega)) dM_read_86 ?_
          refine lv_topi (fun v_6 ev_6 => ?_)
          obtain rfl : v_6 = it.1 := by rw [ev_6, hv18, nI_clamp (by omega)]; exact hm3.1
          refine lv_aload_n hx hb dM_read_87 rfl (lv_at hl 0 rfl) ?_
          refine va_get (D := D) (cl := xCl) (ci := 7) (v := .ref (ad (km + 8))) (C := rnM) (T := tbM) (N := 39) hx hb hts inM hown hK hP km hM.1 rfl 15 (by decide) (hts _ tw_632) (fun _ h9 => h9) rfl dM_read_88 ?_
          refine lv_aload_n hx hb dM_read_91 rfl (lv_at hl 0 rfl) ?_
          refine va_get (D := D) (cl := xCl) (ci := 7) (v := .int (v2 18)) (C := rnM) (T := tbM) (N := 39) hx hb hts inM hown hK hP km hM.1 rfl 18 (by decide) (hts _ tw_635) (fun _ h9 => h9) rfl dM_read_92 ?_
          refine va_iald hx hb hK hP (km + 8) 0 (hM.a 8 400 rfl (by omega) (by omega)) hI (by rw [hv18]; exact vp_in_nI (by omega) (by omega)) dM_read_95 ?_
          refine lv_topi (fun v_7 ev_7 => ?_)
          obtain rfl : v_7 = it.2.1 := by rw [ev_7, hv18, nI_clamp (by omega)]; exact hm3.2.1
          refine lv_aload_n hx hb dM_read_96 rfl (lv_at hl 0 rfl) ?_
          refine va_get (D := D) (cl := xCl) (ci := 7) (v := .ref (ad (km + 9))) (C := rnM) (T := tbM) (N := 39) hx hb hts inM hown hK hP km hM.1 rfl 16 (by decide) (hts _ tw_633) (fun _ h9 => h9) rfl dM_read_97 ?_
          refine lv_aload_n hx hb dM_read_100 rfl (lv_at hl 0 rfl) ?_
          refine va_get (D := D) (cl := xCl) (ci := 7) (v := .int (v2 18)) (C := rnM) (T := tbM) (N := 39) hx hb hts inM hown hK hP km hM.1 rfl 18 (by decide) (hts _ tw_635) (fun _ h9 => h9) rfl dM_read_101 ?_
          refine va_iald hx hb hK hP (km + 9) 0 (hM.a 9 400 rfl (by omega) (by omega)) hI (by rw [hv18]; exact vp_in_nI (by omega) (by omega)) dM_read_104 ?_
          refine lv_topi (fun v_8 ev_8 => ?_)
          obtain rfl : v_8 = it.2.2 := by rw [ev_8, hv18, nI_clamp (by omega)]; exact hm3.2.2
          refine x_callv (x_runV (n := 3) (As := [.int it.1, .int it.2.1, .int it.2.2]) (rest := []) ⟨hx, hb, hml, hown, hts⟩ (cM_come l D tys A ws_5 cI hI ad km v2 F1 cs i S O op9 hQ it.1 it.2.1 it.2.2 hb9.2 hSl9 hOl9 hM) tw_801 tw_803 ts_M_come tw_8 tw_804 (by decide +kernel) rfl rfl ⟨by decide, by decide⟩ ⟨Nat.zero_le _, Nat.zero_le _⟩ (va_recv hK hP (ci := 7) (q0 := km) rfl hM.1) hK hP hD hS hA hN rfl hl.1 rfl (lv_room (Nat.le_of_ble_eq_true rfl)) dM_read_105) hS (fun ws_9 H locs hco hP hD hS => ?_)
          obtain ⟨hF9, v3, F3, hM, hkq, hRo⟩ := hco
          have hF := hF.tr hF9
          have hkp := hkp.tr hkq
          obtain ⟨hI3, hmes⟩ := RdI.nx hle hT9 hE9 hMI hr9 hRo
          refine lv_goto (tgt := 52) hx hb dM_read_108 (by decide) ?_
          exact ih op0 (mst (spT cs 0) it i S O op9) v3 F3 ws_9 _ _ _ hop9 (hR9.tr (by rw [hr9]; exact Rch.st rfl)) hI3 hF hM hkp (by omega) hP hD hS (lv_sub hl [0] rfl)
  have loop_22 : ∀ (fu9 : Nat) (i : Nat) (F1 : Nat → Nat → Int32) (ws1 : va_W) (H : Heap) (locs : List Loc) (ls : Array Slot), i ≤ 26 → (∀ c, c < i → F1 10 c = 0) → x_fr km (km + 24) ws ws1 → ModF cI ad ws1 km (setV (setV (setV (setV v 11 0) 13 (-1)) 18 0) 22 0) F1 → fk [10] F F1 → 26 - i < fu9 → va_P D xCl ws1 H → va_D A ws1 → va_S A s.heap H locs → lv_has ls 2 [(0, .ref (ad km)), (1, .int (nI i))] → W p l e (xR 7) s m args below meth c H locs 0 0 (MQ below (va_Qv (fun ws1 => x_fr km (km + 24) ws ws1 ∧ ∃ v9 F9, ModF cI ad ws1 km v9 F9 ∧ kpR v F v9 F9 ∧ RdP cs v9 F9) (x_B D xCl tys A) A) args s 0 0 A) (F0 m 22 ls []) := by
    intro fu9
    induction fu9 with
    | zero => intro i F1 ws1 H locs ls hi hz9 hF hM hfk hme; exact absurd hme (Nat.not_lt_zero _)
    | succ fu9 ih =>
      intro i F1 ws1 H locs ls hi hz9 hF hM hfk hme hP hD hS hl
      have htx1 : MTx cs (setV (setV (setV (setV v 11 0) 13 (-1)) 18 0) 22 0) F1 := ⟨htx.1, hle, fun j hj => by rw [hfk 6 (by simp)]; exact htx.2.2.1 j hj, htx.2.2.2⟩
      refine lv_iload_n hx hb dM_read_22 rfl (lv_at hl 1 rfl) ?_
      refine lv_bipush (v := 26) hx hb dM_read_23 (by decide) ?_
      refine lv_icmp_ge (tgt := 41) hx hb dM_read_25 (by decide) (fun c25 => ?_) (fun c25 => ?_)
      · refine lv_aload_n hx hb dM_read_41 rfl (lv_at hl 0 rfl) ?_
        refine x_callv (x_runV (n := 0) (As := []) (rest := []) ⟨hx, hb, hml, hown, hts⟩ (cM_next l D tys A ws1 cI hI ad km (setV (setV (setV (setV v 11 0) 13 (-1)) 18 0) 22 0) F1 cs htx1 0 (Nat.zero_le _) rfl hM) tw_771 tw_773 ts_M_next tw_8 tw_774 (by decide +kernel) rfl rfl ⟨by decide, by decide⟩ ⟨Nat.zero_le _, Nat.zero_le _⟩ (va_recv hK hP (ci := 7) (q0 := km) rfl hM.1) hK hP hD hS hA hN rfl hl.1 rfl (lv_room (Nat.le_of_ble_eq_true rfl)) dM_read_42) hS (fun ws_10 H locs hne hP hD hS => ?_)
        obtain ⟨hF9, v2, hM, hv2, hn2⟩ := hne
        have hF := hF.tr hF9
        have hQ : MP cs 0 [] [] (F1 10) (-1) v2 F1 := ⟨⟨by rw [hv2 8 (by simp)]; exact htx1.1, htx1.2⟩, ⟨0, Cu.zero cs, hn2⟩, ⟨by rw [hv2 18 (by simp)]; rfl, by decide, fun j hj => absurd hj (Nat.not_lt_zero _)⟩, ⟨by rw [hv2 22 (by simp)]; rfl, by decide, fun j hj => absurd hj (Nat.not_lt_zero _)⟩, fun _ _ => rfl, by rw [hv2 13 (by simp)]; rfl⟩
        have hkp : kpR v F v2 F1 := ⟨((vk_s (by simp)).tr ((vk_s (by simp)).tr ((vk_s (by simp)).tr (vk_s (by simp))))).tr (hv2.wd (by simp)), hfk.wd (by simp)⟩
        refine lv_aload_n hx hb dM_read_45 rfl (lv_at hl 0 rfl) ?_
        refine lv_iconst (v := 1) hx hb dM_read_46 (by decide) ?_
        refine lv_iconst (v := 0) hx hb dM_read_47 (by decide) ?_
        refine lv_iconst (v := 0) hx hb dM_read_48 (by decide) ?_
        refine x_callv (x_runV (n := 3) (As := [.int 1, .int 0, .int 0]) (rest := []) ⟨hx, hb, hml, hown, hts⟩ (cM_wants l D tys A ws_10 cI hI ad km v2 F1 0 hQ.2.2.1.1 (by omega) 1 0 0 hM) tw_797 tw_799 ts_M_wants tw_8 tw_800 (by decide +kernel) rfl rfl ⟨by decide, by decide⟩ ⟨Nat.zero_le _, Nat.zero_le _⟩ (va_recv hK hP (ci := 7) (q0 := km) rfl hM.1) hK hP hD hS hA hN rfl hl.1 rfl (lv_room (Nat.le_of_ble_eq_true rfl)) dM_read_49) hS (fun ws_11 H locs hwa hP hD hS => ?_)
        obtain ⟨hF9, hM⟩ := hwa
        have hF := hF.tr hF9
        obtain ⟨v3, F3, hM, hQ, hkp⟩ := hQ.want hkp (by show 0 < 300; omega) hM
        have hop9 : ∀ c, c < 26 → F1 10 c = 0 := fun c9 hc9 => hz9 c9 (by have c25 : nI 26 ≤ nI i := c25; rw [nI_leI (by omega) (by omega)] at c25; omega)
        have hI9 : RdI cs (.inr (0, [(1, 0, 0)], [], F1 10)) v3 F3 := ⟨fun st hs => by injection hs with hs; subst hs; exact ⟨hQ, ⟨⟨⟨by decide, wf_e (e := 0) (by decide) (by decide)⟩, trivial⟩, Nat.le_refl _, hQ.k.2.2.2⟩⟩, fun p hp => by cases hp⟩
        exact loop_52 _ _ _ _ _ ws_11 _ _ _ hop9 Rch.rf hI9 hF hM hkp (Nat.lt_succ_self _) hP hD hS (lv_sub hl [0] rfl)
      · have hi2 : i < 26 := by have c25 : ¬ nI 26 ≤ nI i := c25; rw [nI_leI (by omega) (by omega)] at c25; omega
        refine lv_aload_n hx hb dM_read_28 rfl (lv_at hl 0 rfl) ?_
        refine va_get (D := D) (cl := xCl) (ci := 7) (v := .ref (ad (km + 10))) (C := rnM) (T := tbM) (N := 39) hx hb hts inM hown hK hP km hM.1 rfl 17 (by decide) (hts _ tw_634) (fun _ h9 => h9) rfl dM_read_29 ?_
        refine lv_iload_n hx hb dM_read_32 rfl (lv_at hl 1 rfl) ?_
        refine lv_iconst (v := 0) hx hb dM_read_33 (by decide) ?_
        refine va_iast hx hb hK hP hD hS (km + 10) 0 (hM.a 10 26 rfl (by omega) (by omega)) hI (vp_in_nI (by omega) (by omega)) dM_read_34 (fun H locs hP hD hS => ?_)
        obtain ⟨ws_13, hu_12, hP, hD⟩ := x_gen (hM.a 10 26 rfl (by omega) (by omega)) hP hD
        have hM : ModF cI ad ws_13 km (setV (setV (setV (setV v 11 0) 13 (-1)) 18 0) 22 0) (setF F1 10 ((upd (F1 10) ((nI i)).toNatClampNeg 0))) := hM.arr 10 26 rfl (by omega) (by omega) hu_12
        have hF := hF.tr (hu_12.fr (a := km) (b := km + 24) (by omega) (by omega))
        refine lv_iinc (v := (nI (i + 1))) (lv' := [(1, .int (nI (i + 1))), (0, .ref (ad km))]) hx hb dM_read_35 hl (k := 1) rfl (nI_1 _) (by decide) rfl (fun ls hl => ?_)
        refine lv_goto (tgt := 22) hx hb dM_read_38 (by decide) ?_
        exact ih (i + 1) (setF F1 10 ((upd (F1 10) ((nI i)).toNatClampNeg 0))) ws_13 _ _ _ (by omega) (fun c9 hc9 => by show upd (F1 10) (nI i).toNatClampNeg 0 c9 = 0; rw [nI_clamp (by omega)]; by_cases z9 : c9 = i; rw [z9, upd_s9]; rw [upd_o z9]; exact hz9 c9 (by omega)) hF hM (hfk.tr (fun j hj => if_neg (fun z9 => hj (by rw [z9]; simp)))) (by omega) hP hD hS (lv_sub hl [1, 0] rfl)
  refine lv_aload_n hx hb dM_read_0 rfl (lv_at hl 0 rfl) ?_
  refine lv_iconst (v := 0) hx hb dM_read_1 (by decide) ?_
  refine va_put (D := D) (cl := xCl) (ci := 7) (v := .int 0) (ty := .int) (C := rnM) (T := tbM) (N := 39) hx hb hts inM tyM toM nmM hown hK hP hD hS km hM.1 rfl 11 (by decide) (hts _ tw_628) (fun _ h9 => h9) rfl (by decide +kernel) rfl rfl (Nat.le_of_ble_eq_true rfl) dM_read_2 (fun H locs hP hD hS => ?_)
  obtain ⟨ws_15, hu_14, hP, hD⟩ := x_gen hM.1 hP hD
  have hM : ModF cI ad ws_15 km (setV v 11 0) F := hM.fld_11 hu_14
  have hF := hF.tr (hu_14.fr (a := km) (b := km + 24) (by omega) (by omega))
  refine lv_aload_n hx hb dM_read_5 rfl (lv_at hl 0 rfl) ?_
  refine lv_iconst (v := (-1)) hx hb dM_read_6 (by decide) ?_
  refine va_put (D := D) (cl := xCl) (ci := 7) (v := .int (-1)) (ty := .int) (C := rnM) (T := tbM) (N := 39) hx hb hts inM tyM toM nmM hown hK hP hD hS km hM.1 rfl 13 (by decide) (hts _ tw_630) (fun _ h9 => h9) rfl (by decide +kernel) rfl rfl (Nat.le_of_ble_eq_true rfl) dM_read_7 (fun H locs hP hD hS => ?_)
  obtain ⟨ws_17, hu_16, hP, hD⟩ := x_gen hM.1 hP hD
  have hM : ModF cI ad ws_17 km (setV (setV v 11 0) 13 ((-1))) F := hM.fld_13 hu_16
  have hF := hF.tr (hu_16.fr (a := km) (b := km + 24) (by omega) (by omega))
  refine lv_aload_n hx hb dM_read_10 rfl (lv_at hl 0 rfl) ?_
  refine lv_iconst (v := 0) hx hb dM_read_11 (by decide) ?_
  refine va_put (D := D) (cl := xCl) (ci := 7) (v := .int 0) (ty := .int) (C := rnM) (T := tbM) (N := 39) hx hb hts inM tyM toM nmM hown hK hP hD hS km hM.1 rfl 18 (by decide) (hts _ tw_635) (fun _ h9 => h9) rfl (by decide +kernel) rfl rfl (Nat.le_of_ble_eq_true rfl) dM_read_12 (fun H locs hP hD hS => ?_)
  obtain ⟨ws_19, hu_18, hP, hD⟩ := x_gen hM.1 hP hD
  have hM : ModF cI ad ws_19 km (setV (setV (setV v 11 0) 13 ((-1))) 18 0) F := hM.fld_18 hu_18
  have hF := hF.tr (hu_18.fr (a := km) (b := km + 24) (by omega) (by omega))
  refine lv_aload_n hx hb dM_read_15 rfl (lv_at hl 0 rfl) ?_
  refine lv_iconst (v := 0) hx hb dM_read_16 (by decide) ?_
  refine va_put (D := D) (cl := xCl) (ci := 7) (v := .int 0) (ty := .int) (C := rnM) (T := tbM) (N := 39) hx hb hts inM tyM toM nmM hown hK hP hD hS km hM.1 rfl 22 (by decide) (hts _ tw_639) (fun _ h9 => h9) rfl (by decide +kernel) rfl rfl (Nat.le_of_ble_eq_true rfl) dM_read_17 (fun H locs hP hD hS => ?_)
  obtain ⟨ws_21, hu_20, hP, hD⟩ := x_gen hM.1 hP hD
  have hM : ModF cI ad ws_21 km (setV (setV (setV (setV v 11 0) 13 ((-1))) 18 0) 22 0) F := hM.fld_22 hu_20
  have hF := hF.tr (hu_20.fr (a := km) (b := km + 24) (by omega) (by omega))
  refine lv_iconst (v := 0) hx hb dM_read_20 (by decide) ?_
  refine lv_istore_n (lv' := [(1, .int 0), (0, .ref (ad km))]) hx hb dM_read_21 rfl hl (by decide) rfl (fun ls hl => ?_)
  exact loop_22 _ 0 F ws_21 _ _ _ (Nat.zero_le _) (fun c9 hc9 => absurd hc9 (Nat.not_lt_zero _)) hF hM fk.rf (Nat.lt_succ_self _) hP hD hS (lv_sub hl [1, 0] rfl)
