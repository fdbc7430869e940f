theorem QAt.parse {cI cC cR : ClassId} {ad : Nat → Nat} {ws ws1 : va_W} {k : Nat} {q : QS} {T : List Tok} {st : PSt} (h : QAt cI cC cR ad ws k q) (hf : x_fr (k + 12) (k + 12 + 10) ws ws1) (hp : ParserAt cI ad ws1 (k + 12) T st) : QAt cI cC cR ad ws1 k q := by
  obtain ⟨h0, hg, ht, -, ⟨n, J, B, hr⟩, ha⟩ := h
  exact ⟨(hf _ (by omega)).trans h0, hg.keep hf (by omega), ht.keep hf (by omega), ⟨T, st, hp⟩, ⟨n, J, B, hr.keep hf (by omega)⟩, ha.keepF hf (by omega)⟩
theorem QAt.fld {cI cC cR : ClassId} {ad : Nat → Nat} {ws ws1 : va_W} {k : Nat} {q : QS} {lk : Nat} {mi : Int32} (h : QAt cI cC cR ad ws k q) (u : x_upd ws k (ad k, .inr (6, [.ref (ad (k + 1)), .ref (ad (k + 10)), .ref (ad (k + 12)), .ref (ad (k + 22)), .ref (ad (k + 97)), .int (nI lk), .int mi])) ws1) : QAt cI cC cR ad ws1 k (q.1, q.2.1, q.2.2.1, lk, mi) := by
  have hf := u.fr (a := k) (b := k + 1) (by omega) (by omega)
  obtain ⟨h0, hg, ht, ⟨T, st, hp⟩, ⟨n, J, B, hr⟩, ha⟩ := h
  exact ⟨u.1, hg.keep hf (by omega), ht.keep hf (by omega), ⟨T, st, hp.keep hf (by omega)⟩, ⟨n, J, B, hr.keep hf (by omega)⟩, ha.keepF hf (by omega)⟩
theorem x_rn.row {cI : ClassId} {ad : Nat → Nat} {ws ws1 : va_W} {kg kn k : Nat} {L : List Nat} (hf : x_rn kg kn ws ws1) (h : RowAt cI ad ws k L) (h1 : kg + 8 < k) (h2 : kn + 75 ≤ k) : RowAt cI ad ws1 k L := by
  obtain ⟨f, mk, a, b, r⟩ := h
  exact ⟨f, mk, (hf _ (by omega) (by omega)).trans a, (hf _ (by omega) (by omega)).trans b, r⟩
theorem x_rn.prs {cI : ClassId} {ad : Nat → Nat} {ws ws1 : va_W} {kg kn k : Nat} {T : List Tok} {st : PSt} (hf : x_rn kg kn ws ws1) (h : ParserAt cI ad ws k T st) (h1 : kg + 8 < k) (h2 : k + 10 ≤ kn) : ParserAt cI ad ws1 k T st := by
  have hj : ∀ j, k ≤ j → j < k + 10 → ws1[j]? = ws[j]? := fun j a b => hf j (by omega) (by omega)
  obtain ⟨h0, ⟨f, g, h, a0, a1, a2, a3, a4⟩, ⟨f2, g2, h2, b0, b1, b2, b3, b4⟩, hs, r⟩ := h
  exact ⟨(hj _ (by omega) (by omega)).trans h0, ⟨f, g, h, (hj _ (by omega) (by omega)).trans a0, (hj _ (by omega) (by omega)).trans a1, (hj _ (by omega) (by omega)).trans a2, (hj _ (by omega) (by omega)).trans a3, a4⟩, ⟨f2, g2, h2, (hj _ (by omega) (by omega)).trans b0, (hj _ (by omega) (by omega)).trans b1, (hj _ (by omega) (by omega)).trans b2, (hj _ (by omega) (by omega)).trans b3, b4⟩, (hj _ (by omega) (by omega)).trans hs, r⟩
theorem QAt.run {cI cC cR : ClassId} {ad : Nat → Nat} {ws ws1 : va_W} {k : Nat} {q : QS} {n : Nat} {J B : Nat → List Nat} (h : QAt cI cC cR ad ws k q) (hf : x_rn (k + 1) (k + 22) ws ws1) (hg : GraphAt cI ad ws1 (k + 1) q.1) (hr : RunnerAt cI cR ad ws1 (k + 22) n J B) : QAt cI cC cR ad ws1 k q := by
  obtain ⟨h0, -, ⟨f, a0, a1, a2⟩, ⟨T, st, hp⟩, -, ha⟩ := h
  exact ⟨(hf _ (by omega) (by omega)).trans h0, hg, ⟨f, (hf _ (by omega) (by omega)).trans a0, (hf _ (by omega) (by omega)).trans a1, a2⟩, ⟨T, st, hf.prs hp (by omega) (by omega)⟩, ⟨n, J, B, hr⟩, hf.row ha (by omega) (by omega)⟩
theorem QAt.ans {cI cC cR : ClassId} {ad : Nat → Nat} {ws ws1 : va_W} {k : Nat} {q : QS} {M : List Nat} (h : QAt cI cC cR ad ws k q) (h2 : x_two (k + 97) ws ws1) (ha : RowAt cI ad ws1 (k + 97) M) : QAt cI cC cR ad ws1 k (q.1, q.2.1, M, q.2.2.2) := by
  have hf : x_fr (k + 97) (k + 99) ws ws1 := fun j hj => h2 j (by omega) (by omega)
  obtain ⟨h0, hg, ht, ⟨T, st, hp⟩, ⟨n, J, B, hr⟩, -⟩ := h
  exact ⟨(hf _ (by omega)).trans h0, hg.keep hf (by omega), ht.keep hf (by omega), ⟨T, st, hp.keep hf (by omega)⟩, ⟨n, J, B, hr.keep hf (by omega)⟩, ha⟩
theorem rn_99 {k : Nat} {ws ws1 : va_W} (h : x_rn (k + 1) (k + 22) ws ws1) : x_fr k (k + 99) ws ws1 := fun j hj => h j (by omega) (by omega)
theorem two_99 {k : Nat} {ws ws1 : va_W} (h : x_two (k + 97) ws ws1) : x_fr k (k + 99) ws ws1 := fun j hj => h j (by omega) (by omega)
theorem askF_no {q : QS} {sl : Nat → Int32} {J B : Nat → List Nat} {r : Int32} (h : r = b2i ((pS9 (spT q.2.1 0) sl).1 && decide ((tkAt (spT q.2.1 0) (pS9 (spT q.2.1 0) sl).2).1 = 0))) (h0 : r = 0) : askF q sl J B = (-1 - (tkAt (spT q.2.1 0) (pS9 (spT q.2.1 0) sl).2).2.2, (q.1, [], q.2.2)) := by
  unfold askF
  rw [if_neg]
  intro c
  rw [c.1, decide_eq_true c.2] at h
  rw [h] at h0
  exact absurd h0 (by decide)
theorem ask_yes {q : QS} {sl : Nat → Int32} {r : Int32} (h : r = b2i ((pS9 (spT q.2.1 0) sl).1 && decide ((tkAt (spT q.2.1 0) (pS9 (spT q.2.1 0) sl).2).1 = 0))) (h0 : ¬ r = 0) : (pS9 (spT q.2.1 0) sl).1 = true ∧ (tkAt (spT q.2.1 0) (pS9 (spT q.2.1 0) sl).2).1 = 0 := by
  rw [h, b2i_n0, Bool.and_eq_true, decide_eq_true_eq] at h0
  exact h0
theorem askF_yes {q : QS} {sl : Nat → Int32} {J B : Nat → List Nat} (h : (pS9 (spT q.2.1 0) sl).1 = true ∧ (tkAt (spT q.2.1 0) (pS9 (spT q.2.1 0) sl).2).1 = 0) : askF q sl J B = askR q J B (pS9 (spT q.2.1 0) sl).2.2.1 := if_pos h
theorem askR_some {q : QS} {J B : Nat → List Nat} {P : List Tok} {t : Tok} (h : P.find? (unk q.1) = some t) : askR q J B P = (-101 - t.2.2, (q.1, [], q.2.2.1, q.2.2.2.1, t.2.1)) := by
  unfold askR
  rw [h]
theorem askR_none {q : QS} {J B : Nat → List Nat} {P : List Tok} (h : P.find? (unk q.1) = none) : askR q J B P = (nI ((P.foldl (rstep q.1) (0, J, B, 0)).2.1 0).length, (q.1, [], (P.foldl (rstep q.1) (0, J, B, 0)).2.1 0, (P.foldl (rstep q.1) (0, J, B, 0)).2.2.2, q.2.2.2.2)) := by
  unfold askR
  rw [h]
theorem fu_none {g : Gr} {P : List Tok} (hP : P.length ≤ 81) (h : fuN g P P.length = -1) : P.find? (unk g) = none := by
  rcases fu_find g P P.length (Nat.le_refl _) with ⟨a, -⟩ | ⟨i, t, hi, -, b, -⟩
  · rw [Nat.sub_self, List.drop_zero] at a; exact a
  · rw [h] at b
    have := congrArg Int32.toInt b
    rw [nI_toInt (by omega)] at this
    have : (-1 : Int32).toInt = -1 := by decide
    omega
theorem fu_some {g : Gr} {P : List Tok} (hP : P.length ≤ 81) (h : ¬ fuN g P P.length = -1) : ∃ t, P.find? (unk g) = some t ∧ tpE P (fuN g P P.length) = t := by
  rcases fu_find g P P.length (Nat.le_refl _) with ⟨-, a⟩ | ⟨i, t, hi, a, b, c⟩
  · exact absurd a h
  · rw [Nat.sub_self, List.drop_zero] at a
    exact ⟨t, a, by rw [b, tpE_n P (by omega), c]⟩

set_option maxHeartbeats 4000000 in
set_option maxRecDepth 100000 in
/-- GraphQuery.ask -/
theorem cQ_ask (l : Launch) (D : va_G) (tys : List (ClassId × FieldType)) (A : Nat → Prop) (ws : va_W) (adK adV : Nat → Nat) (zf : Value) (hzf : zf = .null ∨ ∃ t, zf = .ref t) (cI : ClassId) (hI : tys[0]? = some (cI, .int)) (cC : ClassId) (hC : tys[1]? = some (cC, .char)) (cR : ClassId) (hCR : tys[2]? = some (cR, .object "GraphQuery$Row")) (ad : Nat → Nat) (k : Nat) (q : QS) (hQ : QAt cI cC cR ad ws k q) : x_Msi l yQ_ask wQ_ask (xR 41) adK adV zf D xCl tys A [.ref (ad k)] ws (fun r ws1 => ∃ (sl : Nat → Int32) (J B : Nat → List Nat), (∀ c, c < 26 → sl c = -1) ∧ r = (askF q sl J B).1 ∧ x_fr k (k + 99) ws ws1 ∧ QAt cI cC cR ad ws1 k (askF q sl J B).2) := by
  obtain ⟨h0, hg, ht, ⟨T9, st9, hp⟩, ⟨n9, J9, B9, hr9⟩, ha⟩ := id hQ
  obtain ⟨fsG, hgo⟩ := hg.obj
  obtain ⟨fsX, hto⟩ := ht.obj
  obtain ⟨fsA, hao⟩ := ha.obj
  obtain ⟨hpo9, -⟩ := id hp
  refine x_enters (by decide) rfl (Nat.le_of_ble_eq_true rfl) (fun p e s m args below meth c ls hx hb hr hlk hml hown hnm hts hK hP hD hS hA hN hE hl => ?_)
  have hl : lv_has ls 4 [(0, .ref (ad k))] := hl
  refine lv_aload_n hx hb dQ_ask_0 rfl (lv_at hl 0 rfl) ?_
  refine va_get (D := D) (cl := xCl) (ci := 6) (v := .ref (ad (k + 12))) (C := rnQ) (T := tbQ) (N := 7) hx hb hts inQ hown hK hP k h0 rfl 2 (by decide) (hts _ tw_150) (fun _ h9 => h9) rfl dQ_ask_1 ?_
  refine lv_aload_n hx hb dQ_ask_4 rfl (lv_at hl 0 rfl) ?_
  refine va_get (D := D) (cl := xCl) (ci := 6) (v := .ref (ad (k + 10))) (C := rnQ) (T := tbQ) (N := 7) hx hb hts inQ hown hK hP k h0 rfl 1 (by decide) (hts _ tw_149) (fun _ h9 => h9) rfl dQ_ask_5 ?_
  refine x_calli (x_runVs (n := 1) (As := [.ref (ad (k + 10))]) (rest := []) ⟨hx, hb, hml, hown, hts⟩ (cP_parse l D tys A ws adK adV zf hzf cI hI ad cC hC (k + 12) (k + 10) (by omega) T9 st9 q.2.1 (spT q.2.1 0) rfl hp ht) tw_212 tw_213 tw_214 tw_4 tw_215 (by decide +kernel) rfl rfl ⟨by decide, by decide⟩ ⟨Nat.zero_le _, Nat.zero_le _⟩ (va_recv hK hP (ci := 1) (q0 := k + 12) rfl hpo9) hK hP hD hS hA hN hE rfl hl.1 rfl (lv_room (Nat.le_of_ble_eq_true rfl)) dQ_ask_8) hS (fun rpa ws_1 H locs hpa hP hD hS => ?_)
  obtain ⟨hF1, sl, hsl, hrp, hp1⟩ := hpa
  have hQ1 := hQ.parse hF1 hp1
  have hF : x_fr k (k + 99) ws ws_1 := hF1.wd (by omega) (by omega)
  obtain ⟨h0_1, hg_1, ht_1, -, ⟨n9_1, J_1, B_1, hr_1⟩, ha_1⟩ := id hQ1
  obtain ⟨fsG_1, hgo_1⟩ := hg_1.obj
  obtain ⟨fsX_1, hto_1⟩ := ht_1.obj
  obtain ⟨fsA_1, hao_1⟩ := ha_1.obj
  have hro_1 := hr_1.1
  obtain ⟨hpo_1, -, htp_1, -, -⟩ := id hp1
  obtain ⟨fsTp_1, htpo_1⟩ := htp_1.obj
  refine lv_istore_n (lv' := [(1, .int rpa), (0, .ref (ad k))]) hx hb dQ_ask_11 rfl hl (by decide) rfl (fun ls hl => ?_)
  refine lv_aload_n hx hb dQ_ask_12 rfl (lv_at hl 1 rfl) ?_
  refine va_get (D := D) (cl := xCl) (ci := 6) (v := .ref (ad (k + 10))) (C := rnQ) (T := tbQ) (N := 7) hx hb hts inQ hown hK hP k h0_1 rfl 1 (by decide) (hts _ tw_149) (fun _ h9 => h9) rfl dQ_ask_13 ?_
  refine x_callv (x_runV (n := 0) (As := []) (rest := []) ⟨hx, hb, hml, hown, hts⟩ (cX_clear l D tys A ws_1 cC hC ad (k + 10) q.2.1 ht_1) tw_383 tw_384 tw_385 tw_3 tw_386 (by decide +kernel) rfl rfl ⟨by decide, by decide⟩ ⟨Nat.zero_le _, Nat.zero_le _⟩ (va_recv hK hP (ci := 5) (q0 := k + 10) rfl hto_1) hK hP hD hS hA hN rfl hl.1 rfl (lv_room (Nat.le_of_ble_eq_true rfl)) dQ_ask_16) hS (fun ws_2 H locs hcl hP hD hS => ?_)
  obtain ⟨hF2, htx⟩ := hcl
  have hQ2 := hQ1.text hF2 htx
  have hF := hF.tr (hF2.wd (by omega) (by omega))
  have hp2 := hp1.keep hF2 (by omega)
  obtain ⟨h0_2, hg_2, ht_2, -, ⟨n9_2, J_2, B_2, hr_2⟩, ha_2⟩ := id hQ2
  obtain ⟨fsG_2, hgo_2⟩ := hg_2.obj
  obtain ⟨fsX_2, hto_2⟩ := ht_2.obj
  obtain ⟨fsA_2, hao_2⟩ := ha_2.obj
  have hro_2 := hr_2.1
  obtain ⟨hpo_2, -, htp_2, -, -⟩ := id hp2
  obtain ⟨fsTp_2, htpo_2⟩ := htp_2.obj
  refine lv_iload_n hx hb dQ_ask_19 rfl (lv_at hl 0 rfl) ?_
  refine lv_if_ne (tgt := 33) hx hb dQ_ask_20 (by decide) (fun c20 => ?_) (fun c20 => ?_)
  · have hy := ask_yes hrp c20
    have hle9 : ((pS9 (spT q.2.1 0) sl).2.2.1).length ≤ 81 := htp_2.le
    refine lv_aload_n hx hb dQ_ask_33 rfl (lv_at hl 1 rfl) ?_
    refine va_get (D := D) (cl := xCl) (ci := 6) (v := .ref (ad (k + 12))) (C := rnQ) (T := tbQ) (N := 7) hx hb hts inQ hown hK hP k h0_2 rfl 2 (by decide) (hts _ tw_150) (fun _ h9 => h9) rfl dQ_ask_34 ?_
    refine x_callr (x_runV (n := 0) (As := []) (rest := []) ⟨hx, hb, hml, hown, hts⟩ (cP_program l D tys A ws_2 cI hI ad (k + 12) (spT q.2.1 0) _ hp2) tw_391 tw_392 tw_393 tw_4 tw_394 (by decide +kernel) rfl rfl ⟨by decide, by decide⟩ ⟨Nat.zero_le _, Nat.zero_le _⟩ (va_recv hK hP (ci := 1) (q0 := k + 12) rfl hpo_2) hK hP hD hS hA hN rfl hl.1 rfl (lv_room (Nat.le_of_ble_eq_true rfl)) dQ_ask_37) hS (fun rpr ws_3 H locs hpr hP hD hS => ?_)
    obtain ⟨hpr, rfl⟩ := hpr
    obtain rfl := hpr
    refine lv_astore_n (lv' := [(2, .ref (ad (k + 12 + 5))), (1, .int rpa), (0, .ref (ad k))]) hx hb dQ_ask_40 rfl hl (by decide) rfl (fun ls hl => ?_)
    refine lv_aload_n hx hb dQ_ask_41 rfl (lv_at hl 2 rfl) ?_
    refine lv_aload_n hx hb dQ_ask_42 rfl (lv_at hl 0 rfl) ?_
    refine x_calli (x_runV (n := 1) (As := [.ref (ad (k + 12 + 5))]) (rest := []) ⟨hx, hb, hml, hown, hts⟩ (cQ_firstUnknown l D tys A ws_2 cI hI cC hC cR hCR ad k (q.1, [], q.2.2) (k + 12 + 5) (pS9 (spT q.2.1 0) sl).2.2.1 htp_2 hQ2) tw_395 tw_397 ts_Q_firstUnknown tw_1 tw_398 (by decide +kernel) rfl rfl ⟨by decide, by decide⟩ ⟨Nat.zero_le _, Nat.zero_le _⟩ (va_recv hK hP (ci := 6) (q0 := k) rfl h0_2) hK hP hD hS hA hN rfl hl.1 rfl (lv_room (Nat.le_of_ble_eq_true rfl)) dQ_ask_43) hS (fun rfu ws_4 H locs hfu hP hD hS => ?_)
    obtain ⟨hfu, rfl⟩ := hfu
    have hfu : rfu = fuN q.1 (pS9 (spT q.2.1 0) sl).2.2.1 ((pS9 (spT q.2.1 0) sl).2.2.1).length := hfu
    refine lv_istore_n (lv' := [(3, .int rfu), (2, .ref (ad (k + 12 + 5))), (1, .int rpa), (0, .ref (ad k))]) hx hb dQ_ask_46 rfl hl (by decide) rfl (fun ls hl => ?_)
    refine lv_iload_n hx hb dQ_ask_47 rfl (lv_at hl 0 rfl) ?_
    refine lv_iconst (v := (-1)) hx hb dQ_ask_48 (by decide) ?_
    refine lv_icmp_eq (tgt := 70) hx hb dQ_ask_49 (by decide) (fun c49 => ?_) (fun c49 => ?_)
    · have hnone : ((pS9 (spT q.2.1 0) sl).2.2.1).find? (unk q.1) = none := fu_none hle9 (by rw [← hfu]; exact c49)
      obtain ⟨f8, -, -, hle8, -, hcs8⟩ := id ht
      obtain ⟨Z, hZ, -⟩ := (read_ok (TW_T hle8) hsl (op := fun _ => 0) (fun _ _ => rfl)).1 hy.1
      have eZ : (pS9 (spT q.2.1 0) sl).2.2.1 = cz Z := hZ.2.1
      obtain ⟨hok9, hri⟩ := run_ok (hg_2.ok) hZ.2.2.2.2 (by rw [← eZ]; exact hnone) J_2 B_2
      rw [← eZ] at hok9 hri
      refine lv_aload_n hx hb dQ_ask_70 rfl (lv_at hl 3 rfl) ?_
      refine lv_aload_n hx hb dQ_ask_71 rfl (lv_at hl 3 rfl) ?_
      refine va_get (D := D) (cl := xCl) (ci := 6) (v := .ref (ad (k + 22))) (C := rnQ) (T := tbQ) (N := 7) hx hb hts inQ hown hK hP k h0_2 rfl 3 (by decide) (hts _ tw_151) (fun _ h9 => h9) rfl dQ_ask_72 ?_
      refine lv_aload_n hx hb dQ_ask_75 rfl (lv_at hl 1 rfl) ?_
      refine lv_aload_n hx hb dQ_ask_76 rfl (lv_at hl 3 rfl) ?_
      refine va_get (D := D) (cl := xCl) (ci := 6) (v := .ref (ad (k + 1))) (C := rnQ) (T := tbQ) (N := 7) hx hb hts inQ hown hK hP k h0_2 rfl 0 (by decide) (hts _ tw_148) (fun _ h9 => h9) rfl dQ_ask_77 ?_
      refine x_calli (x_runV (n := 2) (As := [.ref (ad (k + 12 + 5)), .ref (ad (k + 1))]) (rest := [.ref (ad k)]) ⟨hx, hb, hml, hown, hts⟩ (cN_run l D tys A ws_2 cI hI cR hCR ad (k + 22) n9_2 J_2 B_2 (k + 1) (by omega) q.1 (k + 12 + 5) (by omega) (by omega) (pS9 (spT q.2.1 0) sl).2.2.1 hok9 hg_2 hr_2 htp_2) tw_410 tw_411 tw_412 tw_6 tw_413 (by decide +kernel) rfl rfl ⟨by decide, by decide⟩ ⟨Nat.zero_le _, Nat.zero_le _⟩ (va_recv hK hP (ci := 3) (q0 := k + 22) rfl hro_2) hK hP hD hS hA hN rfl hl.1 rfl (lv_room (Nat.le_of_ble_eq_true rfl)) dQ_ask_80) hS (fun rrn ws_5 H locs hrn hP hD hS => ?_)
      obtain ⟨hrr, hF5, hg5, hr5⟩ := hrn
      have hQ5 := hQ2.run hF5 hg5 hr5
      have hF := hF.tr (rn_99 hF5)
      have hp5 := hF5.prs hp2 (by omega) (by omega)
      obtain rfl := hrr
      obtain ⟨h0_5, hg_5, ht_5, -, ⟨n9_5, J_5, B_5, hr_5⟩, ha_5⟩ := id hQ5
      obtain ⟨fsG_5, hgo_5⟩ := hg_5.obj
      obtain ⟨fsX_5, hto_5⟩ := ht_5.obj
      obtain ⟨fsA_5, hao_5⟩ := ha_5.obj
      have hro_5 := hr_5.1
      obtain ⟨hpo_5, -, htp_5, -, -⟩ := id hp5
      obtain ⟨fsTp_5, htpo_5⟩ := htp_5.obj
      refine va_put (D := D) (cl := xCl) (ci := 6) (v := .int (nI (List.foldl (rstep q.1) (0, J_2, B_2, 0) (pS9 (spT q.2.1 0) sl).2.2.1).2.2.2)) (ty := .int) (C := rnQ) (T := tbQ) (N := 7) hx hb hts inQ tyQ toQ nmQ hown hK hP hD hS k h0_5 rfl 5 (by decide) (hts _ tw_153) (fun _ h9 => h9) rfl (by decide +kernel) rfl rfl (Nat.le_of_ble_eq_true rfl) dQ_ask_83 (fun H locs hP hD hS => ?_)
      obtain ⟨ws_7, hu_6, hP, hD⟩ := x_gen h0_5 hP hD
      have h_8 : ws_7[k]? = some (ad k, .inr (6, [.ref (ad (k + 1)), .ref (ad (k + 10)), .ref (ad (k + 12)), .ref (ad (k + 22)), .ref (ad (k + 97)), .int (nI (List.foldl (rstep q.1) (0, J_2, B_2, 0) (pS9 (spT q.2.1 0) sl).2.2.1).2.2.2), .int q.2.2.2.2])) := hu_6.1
      have h_9 := (hu_6.2 (k + 1) (by omega)).trans hgo_5
      have h_10 := (hu_6.2 (k + 10) (by omega)).trans hto_5
      have h_11 := (hu_6.2 (k + 97) (by omega)).trans hao_5
      have h_12 := (hu_6.2 (k + 12) (by omega)).trans hpo_5
      have h_13 := (hu_6.2 (k + 22) (by omega)).trans hro_5
      have h_14 := (hu_6.2 (k + 12 + 5) (by omega)).trans htpo_5
      have hQ6 := hQ5.fld hu_6
      have hF := hF.tr (hu_6.fr (a := k) (b := k + 99) (by omega) (by omega))
      have hr6 := hr5.keep (hu_6.fr (a := k) (b := k + 1) (by omega) (by omega)) (by omega)
      have hp6 := hp5.keep (hu_6.fr (a := k) (b := k + 1) (by omega) (by omega)) (by omega)
      obtain ⟨h0_6, hg_6, ht_6, -, ⟨n9_6, J_6, B_6, hr_6⟩, ha_6⟩ := id hQ6
      obtain ⟨fsG_6, hgo_6⟩ := hg_6.obj
      obtain ⟨fsX_6, hto_6⟩ := ht_6.obj
      obtain ⟨fsA_6, hao_6⟩ := ha_6.obj
      have hro_6 := hr_6.1
      obtain ⟨hpo_6, -, htp_6, -, -⟩ := id hp6
      obtain ⟨fsTp_6, htpo_6⟩ := htp_6.obj
      refine lv_aload_n hx hb dQ_ask_86 rfl (lv_at hl 3 rfl) ?_
      refine va_get (D := D) (cl := xCl) (ci := 6) (v := .ref (ad (k + 97))) (C := rnQ) (T := tbQ) (N := 7) hx hb hts inQ hown hK hP k h0_6 rfl 4 (by decide) (hts _ tw_152) (fun _ h9 => h9) rfl dQ_ask_87 ?_
      refine lv_aload_n hx hb dQ_ask_90 rfl (lv_at hl 3 rfl) ?_
      refine va_get (D := D) (cl := xCl) (ci := 6) (v := .ref (ad (k + 22))) (C := rnQ) (T := tbQ) (N := 7) hx hb hts inQ hown hK hP k h0_6 rfl 3 (by decide) (hts _ tw_151) (fun _ h9 => h9) rfl dQ_ask_91 ?_
      refine x_callr (x_runV (n := 0) (As := []) (rest := [.ref (ad (k + 97))]) ⟨hx, hb, hml, hown, hts⟩ (cN_result l D tys A ws_7 cI hI cR hCR ad (k + 22) (List.foldl (rstep q.1) (0, J_2, B_2, 0) (pS9 (spT q.2.1 0) sl).2.2.1).1 (List.foldl (rstep q.1) (0, J_2, B_2, 0) (pS9 (spT q.2.1 0) sl).2.2.1).2.1 (List.foldl (rstep q.1) (0, J_2, B_2, 0) (pS9 (spT q.2.1 0) sl).2.2.1).2.2.1 (by rw [hri.1]; exact Nat.le_refl _) (by rw [hri.1]; decide) hr6) tw_556 tw_461 tw_462 tw_6 tw_463 (by decide +kernel) rfl rfl ⟨by decide, by decide⟩ ⟨Nat.zero_le _, Nat.zero_le _⟩ (va_recv hK hP (ci := 3) (q0 := k + 22) rfl hro_6) hK hP hD hS hA hN rfl hl.1 rfl (lv_room (Nat.le_of_ble_eq_true rfl)) dQ_ask_94) hS (fun rre ws_15 H locs hre hP hD hS => ?_)
      obtain ⟨hre, rfl⟩ := hre
      have hre2 : rre = ad (k + 24) := by rw [hre, hri.1]; exact congrArg ad (by show k + 22 + 2 + 2 * (1 - 1) = k + 24; omega)
      obtain rfl := hre2
      have hrow0 : RowAt cI ad ws_7 (k + 24) ((List.foldl (rstep q.1) (0, J_2, B_2, 0) (pS9 (spT q.2.1 0) sl).2.2.1).2.1 0) := hr6.2.2.2.1 0 (by omega)
      obtain ⟨fsR0, hro0⟩ := hrow0.obj
      refine x_callv (x_runV (n := 1) (As := [.ref (ad (k + 24))]) (rest := []) ⟨hx, hb, hml, hown, hts⟩ (cR_copy l D tys A ws_7 cI hI ad (k + 97) (k + 24) _ _ (by omega) (by omega) (by omega) ha_6 hrow0) tw_557 tw_431 tw_432 tw_7 tw_433 (by decide +kernel) rfl rfl ⟨by decide, by decide⟩ ⟨Nat.zero_le _, Nat.zero_le _⟩ (va_recv hK hP (ci := 2) (q0 := k + 97) rfl hao_6) hK hP hD hS hA hN rfl hl.1 rfl (lv_room (Nat.le_of_ble_eq_true rfl)) dQ_ask_97) hS (fun ws_16 H locs hcp hP hD hS => ?_)
      obtain ⟨h27, hrow7⟩ := hcp
      have hQ7 := hQ6.ans h27 hrow7
      have hF := hF.tr (two_99 h27)
      have hp7 := hp6.keep (a := k + 97) (b := k + 99) (fun j hj => h27 j (by omega) (by omega)) (by omega)
      obtain ⟨h0_7, hg_7, ht_7, -, ⟨n9_7, J_7, B_7, hr_7⟩, ha_7⟩ := id hQ7
      obtain ⟨fsG_7, hgo_7⟩ := hg_7.obj
      obtain ⟨fsX_7, hto_7⟩ := ht_7.obj
      obtain ⟨fsA_7, hao_7⟩ := ha_7.obj
      have hro_7 := hr_7.1
      obtain ⟨hpo_7, -, htp_7, -, -⟩ := id hp7
      obtain ⟨fsTp_7, htpo_7⟩ := htp_7.obj
      refine lv_aload_n hx hb dQ_ask_100 rfl (lv_at hl 3 rfl) ?_
      refine va_get (D := D) (cl := xCl) (ci := 6) (v := .ref (ad (k + 97))) (C := rnQ) (T := tbQ) (N := 7) hx hb hts inQ hown hK hP k h0_7 rfl 4 (by decide) (hts _ tw_152) (fun _ h9 => h9) rfl dQ_ask_101 ?_
      refine x_calli (x_runV (n := 0) (As := []) (rest := []) ⟨hx, hb, hml, hown, hts⟩ (cR_size l D tys A ws_16 cI hI ad (k + 97) _ ha_7) tw_558 tw_443 tw_444 tw_7 tw_445 (by decide +kernel) rfl rfl ⟨by decide, by decide⟩ ⟨Nat.zero_le _, Nat.zero_le _⟩ (va_recv hK hP (ci := 2) (q0 := k + 97) rfl hao_7) hK hP hD hS hA hN rfl hl.1 rfl (lv_room (Nat.le_of_ble_eq_true rfl)) dQ_ask_104) hS (fun rsz ws_17 H locs hsz hP hD hS => ?_)
      obtain ⟨hsz, rfl⟩ := hsz
      exact x_iret hx hb hr hlk hK hP hD hS dQ_ask_107 ⟨sl, J_2, B_2, hsl, (by rw [askF_yes hy, askR_none hnone]; exact hsz), hF, (by rw [askF_yes hy, askR_none hnone]; exact hQ7)⟩
    · refine lv_aload_n hx hb dQ_ask_52 rfl (lv_at hl 3 rfl) ?_
      refine lv_aload_n hx hb dQ_ask_53 rfl (lv_at hl 1 rfl) ?_
      refine lv_iload_n hx hb dQ_ask_54 rfl (lv_at hl 0 rfl) ?_
      refine x_calli (x_runV (n := 1) (As := [.int rfu]) (rest := [.ref (ad k)]) ⟨hx, hb, hml, hown, hts⟩ (cT_valueAt l D tys A ws_2 cI hI ad (k + 12 + 5) (pS9 (spT q.2.1 0) sl).2.2.1 rfu htp_2) tw_404 tw_334 tw_335 tw_5 tw_336 (by decide +kernel) rfl rfl ⟨by decide, by decide⟩ ⟨Nat.zero_le _, Nat.zero_le _⟩ (va_recv hK hP (ci := 4) (q0 := k + 12 + 5) rfl htpo_2) hK hP hD hS hA hN rfl hl.1 rfl (lv_room (Nat.le_of_ble_eq_true rfl)) dQ_ask_55) hS (fun rva ws_18 H locs hva hP hD hS => ?_)
      obtain ⟨hva, rfl⟩ := hva
      refine va_put (D := D) (cl := xCl) (ci := 6) (v := .int rva) (ty := .int) (C := rnQ) (T := tbQ) (N := 7) hx hb hts inQ tyQ toQ nmQ hown hK hP hD hS k h0_2 rfl 6 (by decide) (hts _ tw_154) (fun _ h9 => h9) rfl (by decide +kernel) rfl rfl (Nat.le_of_ble_eq_true rfl) dQ_ask_58 (fun H locs hP hD hS => ?_)
      obtain ⟨ws_20, hu_19, hP, hD⟩ := x_gen h0_2 hP hD
      have h_21 : ws_20[k]? = some (ad k, .inr (6, [.ref (ad (k + 1)), .ref (ad (k + 10)), .ref (ad (k + 12)), .ref (ad (k + 22)), .ref (ad (k + 97)), .int (nI q.2.2.2.1), .int rva])) := hu_19.1
      have h_22 := (hu_19.2 (k + 1) (by omega)).trans hgo_2
      have h_23 := (hu_19.2 (k + 10) (by omega)).trans hto_2
      have h_24 := (hu_19.2 (k + 97) (by omega)).trans hao_2
      have h_25 := (hu_19.2 (k + 12) (by omega)).trans hpo_2
      have h_26 := (hu_19.2 (k + 22) (by omega)).trans hro_2
      have h_27 := (hu_19.2 (k + 12 + 5) (by omega)).trans htpo_2
      have hQ3 := hQ2.fld hu_19
      have hF := hF.tr (hu_19.fr (a := k) (b := k + 99) (by omega) (by omega))
      have htp3 := htp_2.keep (hu_19.fr (a := k) (b := k + 1) (by omega) (by omega)) (by omega)
      obtain ⟨fsTp3, htpo3⟩ := htp3.obj
      refine lv_bipush (v := (-101)) hx hb dQ_ask_61 (by decide) ?_
      refine lv_aload_n hx hb dQ_ask_63 rfl (lv_at hl 1 rfl) ?_
      refine lv_iload_n hx hb dQ_ask_64 rfl (lv_at hl 0 rfl) ?_
      refine x_calli (x_runV (n := 1) (As := [.int rfu]) (rest := [.int (-101)]) ⟨hx, hb, hml, hown, hts⟩ (cT_placeAt l D tys A ws_20 cI hI ad (k + 12 + 5) (pS9 (spT q.2.1 0) sl).2.2.1 rfu htp3) tw_409 tw_342 tw_343 tw_5 tw_344 (by decide +kernel) rfl rfl ⟨by decide, by decide⟩ ⟨Nat.zero_le _, Nat.zero_le _⟩ (va_recv hK hP (ci := 4) (q0 := k + 12 + 5) rfl htpo3) hK hP hD hS hA hN rfl hl.1 rfl (lv_room (Nat.le_of_ble_eq_true rfl)) dQ_ask_65) hS (fun rpl ws_28 H locs hpl hP hD hS => ?_)
      obtain ⟨hpl, rfl⟩ := hpl
      refine lv_isub hx hb dQ_ask_68 ?_
      refine lv_topi (fun v_29 ev_29 => ?_)
      exact x_iret hx hb hr hlk hK hP hD hS dQ_ask_69 (by obtain ⟨t9, ht9, et9⟩ := fu_some (g := q.1) hle9 (by rw [← hfu]; exact c49); rw [← hfu] at et9; rw [et9] at hva hpl; exact ⟨sl, J_2, B_2, hsl, (by rw [askF_yes hy, askR_some ht9, ev_29, hpl]), hF, (by rw [askF_yes hy, askR_some ht9, ← hva]; exact hQ3)⟩)
  · refine lv_iconst (v := (-1)) hx hb dQ_ask_23 (by decide) ?_
    refine lv_aload_n hx hb dQ_ask_24 rfl (lv_at hl 1 rfl) ?_
    refine va_get (D := D) (cl := xCl) (ci := 6) (v := .ref (ad (k + 12))) (C := rnQ) (T := tbQ) (N := 7) hx hb hts inQ hown hK hP k h0_2 rfl 2 (by decide) (hts _ tw_150) (fun _ h9 => h9) rfl dQ_ask_25 ?_
    refine x_calli (x_runV (n := 0) (As := []) (rest := [.int (-1)]) ⟨hx, hb, hml, hown, hts⟩ (cP_stopPlace l D tys A ws_2 cI hI ad (k + 12) (spT q.2.1 0) _ hp2) tw_387 tw_388 tw_389 tw_4 tw_390 (by decide +kernel) rfl rfl ⟨by decide, by decide⟩ ⟨Nat.zero_le _, Nat.zero_le _⟩ (va_recv hK hP (ci := 1) (q0 := k + 12) rfl hpo_2) hK hP hD hS hA hN rfl hl.1 rfl (lv_room (Nat.le_of_ble_eq_true rfl)) dQ_ask_28) hS (fun rst ws_30 H locs hst hP hD hS => ?_)
    obtain ⟨hst, rfl⟩ := hst
    refine lv_isub hx hb dQ_ask_31 ?_
    refine lv_topi (fun v_31 ev_31 => ?_)
    exact x_iret hx hb hr hlk hK hP hD hS dQ_ask_32 ⟨sl, J_2, B_2, hsl, (by rw [askF_no hrp c20, ev_31, hst]; rfl), hF, (by rw [askF_no hrp c20]; exact hQ2)⟩
