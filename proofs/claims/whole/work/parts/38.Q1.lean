-- ===== GraphQuery =====
/-- targets, text, answer, looked, missed name -/
abbrev QS : Type := Gr × List Nat × List Nat × Nat × Int32
/-- the cells k .. k + 98 are a GraphQuery in the state q -/
def QAt (cI cC cR : ClassId) (ad : Nat → Nat) (ws : va_W) (k : Nat) (q : QS) : Prop :=
  ws[k]? = some (ad k, .inr (6, [.ref (ad (k + 1)), .ref (ad (k + 10)), .ref (ad (k + 12)), .ref (ad (k + 22)), .ref (ad (k + 97)), .int (nI q.2.2.2.1), .int q.2.2.2.2])) ∧ GraphAt cI ad ws (k + 1) q.1 ∧ TextAt cC ad ws (k + 10) q.2.1 ∧ (∃ T st, ParserAt cI ad ws (k + 12) T st) ∧ (∃ n J B, RunnerAt cI cR ad ws (k + 22) n J B) ∧ RowAt cI ad ws (k + 97) q.2.2.1
theorem ParserAt.keep {cI : ClassId} {ad : Nat → Nat} {ws ws1 : va_W} {k a b : Nat} {T : List Tok} {st : PSt} (h : ParserAt cI ad ws k T st) (hf : x_fr a b ws ws1) (hd : k + 10 ≤ a ∨ b ≤ k) : ParserAt cI ad ws1 k T st := by
  obtain ⟨h0, h1, h2, h3, h4⟩ := h
  exact ⟨(hf _ (by omega)).trans h0, h1.keep hf (by omega), h2.keep hf (by omega), (hf _ (by omega)).trans h3, h4⟩
theorem RunnerAt.keep {cI cR : ClassId} {ad : Nat → Nat} {ws ws1 : va_W} {k n a b : Nat} {J B : Nat → List Nat} (h : RunnerAt cI cR ad ws k n J B) (hf : x_fr a b ws ws1) (hd : k + 75 ≤ a ∨ b ≤ k) : RunnerAt cI cR ad ws1 k n J B := by
  obtain ⟨h0, ⟨f, h1, h2⟩, ⟨f9, h3, h4⟩, h5, h6⟩ := h
  exact ⟨(hf _ (by omega)).trans h0, ⟨f, (hf _ (by omega)).trans h1, h2⟩, ⟨f9, (hf _ (by omega)).trans h3, h4⟩, fun j hj => (h5 j hj).keepF hf (by omega), fun j hj => (h6 j hj).keepF hf (by omega)⟩
theorem QAt.keep {cI cC cR : ClassId} {ad : Nat → Nat} {ws ws1 : va_W} {k a b : Nat} {q : QS} (h : QAt cI cC cR ad ws k q) (hf : x_fr a b ws ws1) (hd : k + 99 ≤ a ∨ b ≤ k) : QAt cI cC cR ad ws1 k q := by
  obtain ⟨h0, h1, h2, ⟨T, st, h3⟩, ⟨n, J, B, h4⟩, h5⟩ := h
  exact ⟨(hf _ (by omega)).trans h0, h1.keep hf (by omega), h2.keep hf (by omega), ⟨T, st, h3.keep hf (by omega)⟩, ⟨n, J, B, h4.keep hf (by omega)⟩, h5.keepF hf (by omega)⟩
theorem QAt.graph {cI cC cR : ClassId} {ad : Nat → Nat} {ws ws1 : va_W} {k : Nat} {q : QS} {g1 : Gr} (h : QAt cI cC cR ad ws k q) (hf : x_fr (k + 1) (k + 1 + 9) ws ws1) (hg : GraphAt cI ad ws1 (k + 1) g1) : QAt cI cC cR ad ws1 k (g1, q.2) := by
  obtain ⟨h0, h1, h2, ⟨T, st, h3⟩, ⟨n, J, B, h4⟩, h5⟩ := h
  exact ⟨(hf _ (by omega)).trans h0, hg, h2.keep hf (by omega), ⟨T, st, h3.keep hf (by omega)⟩, ⟨n, J, B, h4.keep hf (by omega)⟩, h5.keepF hf (by omega)⟩
theorem QAt.text {cI cC cR : ClassId} {ad : Nat → Nat} {ws ws1 : va_W} {k : Nat} {q : QS} {c1 : List Nat} (h : QAt cI cC cR ad ws k q) (hf : x_fr (k + 10) (k + 10 + 2) ws ws1) (hg : TextAt cC ad ws1 (k + 10) c1) : QAt cI cC cR ad ws1 k (q.1, c1, q.2.2) := by
  obtain ⟨h0, h1, h2, ⟨T, st, h3⟩, ⟨n, J, B, h4⟩, h5⟩ := h
  exact ⟨(hf _ (by omega)).trans h0, h1.keep hf (by omega), hg, ⟨T, st, h3.keep hf (by omega)⟩, ⟨n, J, B, h4.keep hf (by omega)⟩, h5.keepF hf (by omega)⟩

set_option maxHeartbeats 4000000 in
set_option maxRecDepth 100000 in
/-- GraphQuery.target -/
theorem cQ_target (l : Launch) (D : va_G) (tys : List (ClassId × FieldType)) (A : Nat → Prop) (ws : va_W) (cI : ClassId) (hI : tys[0]? = some (cI, .int)) (cC : ClassId) (hC : tys[1]? = some (cC, .char)) (cR : ClassId) (hCR : tys[2]? = some (cR, .object "GraphQuery$Row")) (ad : Nat → Nat) (k : Nat) (q : QS) (pa di ki : Int32)  (hQ : QAt cI cC cR ad ws k q) : x_Mi l yQ_target wQ_target (xR 2) D xCl tys A [.ref (ad k), .int pa, .int di, .int ki] ws (fun r ws1 => r = (tgtS q.1 pa di ki).1 ∧ x_fr k (k + 99) ws ws1 ∧ QAt cI cC cR ad ws1 k ((tgtS q.1 pa di ki).2, q.2)) := by
  obtain ⟨h0, hg, ht, ⟨T9, st9, hp⟩, ⟨n9, J9, B9, hr9⟩, ha⟩ := id hQ
  obtain ⟨fsG, hgo⟩ := hg.obj
  obtain ⟨fsX, hto⟩ := ht.obj
  obtain ⟨fsA, hao⟩ := ha.obj
  refine x_enter (by decide) rfl (Nat.le_of_ble_eq_true rfl) (fun p e s m args below meth c ls hx hb hr hlk hml hown hnm hts hK hP hD hS hA hN hl => ?_)
  have hl : lv_has ls 4 [(0, .ref (ad k)), (1, .int pa), (2, .int di), (3, .int ki)] := hl
  refine lv_aload_n hx hb dQ_target_0 rfl (lv_at hl 0 rfl) ?_
  refine va_get (D := D) (cl := xCl) (ci := 6) (v := .ref (ad (k + 1))) (C := rnQ) (T := tbQ) (N := 7) hx hb hts inQ hown hK hP k h0 rfl 0 (by decide) (hts _ tw_148) (fun _ h9 => h9) rfl dQ_target_1 ?_
  refine lv_iload_n hx hb dQ_target_4 rfl (lv_at hl 1 rfl) ?_
  refine lv_iload_n hx hb dQ_target_5 rfl (lv_at hl 2 rfl) ?_
  refine lv_iload_n hx hb dQ_target_6 rfl (lv_at hl 3 rfl) ?_
  refine x_calli (x_runV (n := 3) (As := [.int pa, .int di, .int ki]) (rest := []) ⟨hx, hb, hml, hown, hts⟩ (cG_addTarget l D tys A ws cI hI ad (k + 1) q.1 pa di ki hg) tw_174 tw_175 tw_176 tw_2 tw_177 (by decide +kernel) rfl rfl ⟨by decide, by decide⟩ ⟨Nat.zero_le _, Nat.zero_le _⟩ (va_recv hK hP (ci := 0) (q0 := k + 1) rfl hgo) hK hP hD hS hA hN rfl hl.1 rfl (lv_room (Nat.le_of_ble_eq_true rfl)) dQ_target_7) hS (fun rc1 ws_1 H locs hc1 hP hD hS => ?_)
  exact x_iret hx hb hr hlk hK hP hD hS dQ_target_10 ⟨hc1.2.1, hc1.1.wd (by omega) (by omega), hQ.graph hc1.1 hc1.2.2⟩

theorem ndS_nar (g : Gr) (t o : Int32) : narrow .boolean (.int (ndS g t o).1) = .int (ndS g t o).1 := by
  by_cases h : ndC g t o
  · rw [show ndS g t o = (1, gNd g t.toInt.toNat o.toInt.toNat) from if_pos h]; exact b2i_nar true
  · rw [ndS_no h]; exact b2i_nar false

set_option maxHeartbeats 4000000 in
set_option maxRecDepth 100000 in
/-- GraphQuery.needs -/
theorem cQ_needs (l : Launch) (D : va_G) (tys : List (ClassId × FieldType)) (A : Nat → Prop) (ws : va_W) (cI : ClassId) (hI : tys[0]? = some (cI, .int)) (cC : ClassId) (hC : tys[1]? = some (cC, .char)) (cR : ClassId) (hCR : tys[2]? = some (cR, .object "GraphQuery$Row")) (ad : Nat → Nat) (k : Nat) (q : QS) (tt oo : Int32)  (hQ : QAt cI cC cR ad ws k q) : x_Mi l yQ_needs wQ_needs (xR 2) D xCl tys A [.ref (ad k), .int tt, .int oo] ws (fun r ws1 => r = (ndS q.1 tt oo).1 ∧ x_fr k (k + 99) ws ws1 ∧ QAt cI cC cR ad ws1 k ((ndS q.1 tt oo).2, q.2)) := by
  obtain ⟨h0, hg, ht, ⟨T9, st9, hp⟩, ⟨n9, J9, B9, hr9⟩, ha⟩ := id hQ
  obtain ⟨fsG, hgo⟩ := hg.obj
  obtain ⟨fsX, hto⟩ := ht.obj
  obtain ⟨fsA, hao⟩ := ha.obj
  refine x_enter (by decide) rfl (Nat.le_of_ble_eq_true rfl) (fun p e s m args below meth c ls hx hb hr hlk hml hown hnm hts hK hP hD hS hA hN hl => ?_)
  have hl : lv_has ls 3 [(0, .ref (ad k)), (1, .int tt), (2, .int oo)] := hl
  refine lv_aload_n hx hb dQ_needs_0 rfl (lv_at hl 0 rfl) ?_
  refine va_get (D := D) (cl := xCl) (ci := 6) (v := .ref (ad (k + 1))) (C := rnQ) (T := tbQ) (N := 7) hx hb hts inQ hown hK hP k h0 rfl 0 (by decide) (hts _ tw_148) (fun _ h9 => h9) rfl dQ_needs_1 ?_
  refine lv_iload_n hx hb dQ_needs_4 rfl (lv_at hl 1 rfl) ?_
  refine lv_iload_n hx hb dQ_needs_5 rfl (lv_at hl 2 rfl) ?_
  refine x_calli (x_runV (n := 2) (As := [.int tt, .int oo]) (rest := []) ⟨hx, hb, hml, hown, hts⟩ (cG_addNeed l D tys A ws cI hI ad (k + 1) q.1 tt oo hg) tw_185 tw_186 tw_187 tw_2 tw_188 (by decide +kernel) rfl rfl ⟨by decide, by decide⟩ ⟨Nat.zero_le _, Nat.zero_le _⟩ (va_recv hK hP (ci := 0) (q0 := k + 1) rfl hgo) hK hP hD hS hA hN rfl hl.1 rfl (lv_room (Nat.le_of_ble_eq_true rfl)) dQ_needs_6) hS (fun rc1 ws_1 H locs hc1 hP hD hS => ?_)
  exact x_zret hx hb hr (by rw [hc1.2.1]; exact ndS_nar _ _ _) hlk hK hP hD hS dQ_needs_9 ⟨hc1.2.1, hc1.1.wd (by omega) (by omega), hQ.graph hc1.1 hc1.2.2⟩

set_option maxHeartbeats 4000000 in
set_option maxRecDepth 100000 in
/-- GraphQuery.need -/
theorem cQ_need (l : Launch) (D : va_G) (tys : List (ClassId × FieldType)) (A : Nat → Prop) (ws : va_W) (cI : ClassId) (hI : tys[0]? = some (cI, .int)) (cC : ClassId) (hC : tys[1]? = some (cC, .char)) (cR : ClassId) (hCR : tys[2]? = some (cR, .object "GraphQuery$Row")) (ad : Nat → Nat) (k : Nat) (q : QS) (tt i : Int32)  (hQ : QAt cI cC cR ad ws k q) : x_Mi l yQ_need wQ_need (xR 2) D xCl tys A [.ref (ad k), .int tt, .int i] ws (fun r ws1 => r = gAt q.1 tt i ∧ ws = ws1) := by
  obtain ⟨h0, hg, ht, ⟨T9, st9, hp⟩, ⟨n9, J9, B9, hr9⟩, ha⟩ := id hQ
  obtain ⟨fsG, hgo⟩ := hg.obj
  obtain ⟨fsX, hto⟩ := ht.obj
  obtain ⟨fsA, hao⟩ := ha.obj
  refine x_enter (by decide) rfl (Nat.le_of_ble_eq_true rfl) (fun p e s m args below meth c ls hx hb hr hlk hml hown hnm hts hK hP hD hS hA hN hl => ?_)
  have hl : lv_has ls 3 [(0, .ref (ad k)), (1, .int tt), (2, .int i)] := hl
  refine lv_aload_n hx hb dQ_need_0 rfl (lv_at hl 0 rfl) ?_
  refine va_get (D := D) (cl := xCl) (ci := 6) (v := .ref (ad (k + 1))) (C := rnQ) (T := tbQ) (N := 7) hx hb hts inQ hown hK hP k h0 rfl 0 (by decide) (hts _ tw_148) (fun _ h9 => h9) rfl dQ_need_1 ?_
  refine lv_iload_n hx hb dQ_need_4 rfl (lv_at hl 1 rfl) ?_
  refine lv_iload_n hx hb dQ_need_5 rfl (lv_at hl 2 rfl) ?_
  refine x_calli (x_runV (n := 2) (As := [.int tt, .int i]) (rest := []) ⟨hx, hb, hml, hown, hts⟩ (cG_needAt l D tys A ws cI hI ad (k + 1) q.1 tt i hg) tw_196 tw_197 tw_198 tw_2 tw_199 (by decide +kernel) rfl rfl ⟨by decide, by decide⟩ ⟨Nat.zero_le _, Nat.zero_le _⟩ (va_recv hK hP (ci := 0) (q0 := k + 1) rfl hgo) hK hP hD hS hA hN rfl hl.1 rfl (lv_room (Nat.le_of_ble_eq_true rfl)) dQ_need_6) hS (fun rc1 ws_1 H locs hc1 hP hD hS => ?_)
  obtain ⟨hc1, rfl⟩ := hc1
  exact x_iret hx hb hr hlk hK hP hD hS dQ_need_9 ⟨hc1, rfl⟩

set_option maxHeartbeats 4000000 in
set_option maxRecDepth 100000 in
/-- GraphQuery.type -/
theorem cQ_type (l : Launch) (D : va_G) (tys : List (ClassId × FieldType)) (A : Nat → Prop) (ws : va_W) (cI : ClassId) (hI : tys[0]? = some (cI, .int)) (cC : ClassId) (hC : tys[1]? = some (cC, .char)) (cR : ClassId) (hCR : tys[2]? = some (cR, .object "GraphQuery$Row")) (ad : Nat → Nat) (k : Nat) (q : QS) (w : Nat) (hw : w < 65536)  (hQ : QAt cI cC cR ad ws k q) : x_Mi l yQ_type wQ_type (xR 1) D xCl tys A [.ref (ad k), .int (nI w)] ws (fun r ws1 => r = b2i (typC q.2.1 w) ∧ x_fr k (k + 99) ws ws1 ∧ QAt cI cC cR ad ws1 k (q.1, typS q.2.1 w, q.2.2)) := by
  obtain ⟨h0, hg, ht, ⟨T9, st9, hp⟩, ⟨n9, J9, B9, hr9⟩, ha⟩ := id hQ
  obtain ⟨fsG, hgo⟩ := hg.obj
  obtain ⟨fsX, hto⟩ := ht.obj
  obtain ⟨fsA, hao⟩ := ha.obj
  refine x_enter (by decide) rfl (Nat.le_of_ble_eq_true rfl) (fun p e s m args below meth c ls hx hb hr hlk hml hown hnm hts hK hP hD hS hA hN hl => ?_)
  have hl : lv_has ls 2 [(0, .ref (ad k)), (1, .int (nI w))] := hl
  refine lv_aload_n hx hb dQ_type_0 rfl (lv_at hl 0 rfl) ?_
  refine va_get (D := D) (cl := xCl) (ci := 6) (v := .ref (ad (k + 10))) (C := rnQ) (T := tbQ) (N := 7) hx hb hts inQ hown hK hP k h0 rfl 1 (by decide) (hts _ tw_149) (fun _ h9 => h9) rfl dQ_type_1 ?_
  refine lv_iload_n hx hb dQ_type_4 rfl (lv_at hl 1 rfl) ?_
  refine x_calli (x_runV (n := 1) (As := [.int (nI w)]) (rest := []) ⟨hx, hb, hml, hown, hts⟩ (cX_append l D tys A ws cC hC ad (k + 10) q.2.1 w hw ht) tw_204 tw_205 tw_206 tw_3 tw_207 (by decide +kernel) rfl rfl ⟨by decide, by decide⟩ ⟨Nat.zero_le _, Nat.zero_le _⟩ (va_recv hK hP (ci := 5) (q0 := k + 10) rfl hto) hK hP hD hS hA hN rfl hl.1 rfl (lv_room (Nat.le_of_ble_eq_true rfl)) dQ_type_5) hS (fun rc1 ws_1 H locs hc1 hP hD hS => ?_)
  exact x_zret hx hb hr (by rw [hc1.2.1]; exact b2i_nar _) hlk hK hP hD hS dQ_type_8 ⟨hc1.2.1, hc1.1.wd (by omega) (by omega), hQ.text hc1.1 hc1.2.2⟩

set_option maxHeartbeats 4000000 in
set_option maxRecDepth 100000 in
/-- GraphQuery.answer -/
theorem cQ_answer (l : Launch) (D : va_G) (tys : List (ClassId × FieldType)) (A : Nat → Prop) (ws : va_W) (cI : ClassId) (hI : tys[0]? = some (cI, .int)) (cC : ClassId) (hC : tys[1]? = some (cC, .char)) (cR : ClassId) (hCR : tys[2]? = some (cR, .object "GraphQuery$Row")) (ad : Nat → Nat) (k : Nat) (q : QS) (i : Int32)  (hQ : QAt cI cC cR ad ws k q) : x_Mi l yQ_answer wQ_answer (xR 1) D xCl tys A [.ref (ad k), .int i] ws (fun r ws1 => r = atI q.2.2.1 i ∧ ws = ws1) := by
  obtain ⟨h0, hg, ht, ⟨T9, st9, hp⟩, ⟨n9, J9, B9, hr9⟩, ha⟩ := id hQ
  obtain ⟨fsG, hgo⟩ := hg.obj
  obtain ⟨fsX, hto⟩ := ht.obj
  obtain ⟨fsA, hao⟩ := ha.obj
  refine x_enter (by decide) rfl (Nat.le_of_ble_eq_true rfl) (fun p e s m args below meth c ls hx hb hr hlk hml hown hnm hts hK hP hD hS hA hN hl => ?_)
  have hl : lv_has ls 2 [(0, .ref (ad k)), (1, .int i)] := hl
  refine lv_aload_n hx hb dQ_answer_0 rfl (lv_at hl 0 rfl) ?_
  refine va_get (D := D) (cl := xCl) (ci := 6) (v := .ref (ad (k + 97))) (C := rnQ) (T := tbQ) (N := 7) hx hb hts inQ hown hK hP k h0 rfl 4 (by decide) (hts _ tw_152) (fun _ h9 => h9) rfl dQ_answer_1 ?_
  refine lv_iload_n hx hb dQ_answer_4 rfl (lv_at hl 1 rfl) ?_
  refine x_calli (x_runV (n := 1) (As := [.int i]) (rest := []) ⟨hx, hb, hml, hown, hts⟩ (cR_at l D tys A ws cI hI ad (k + 97) q.2.2.1 i ha) tw_564 tw_447 tw_448 tw_7 tw_449 (by decide +kernel) rfl rfl ⟨by decide, by decide⟩ ⟨Nat.zero_le _, Nat.zero_le _⟩ (va_recv hK hP (ci := 2) (q0 := k + 97) rfl hao) hK hP hD hS hA hN rfl hl.1 rfl (lv_room (Nat.le_of_ble_eq_true rfl)) dQ_answer_5) hS (fun rc1 ws_1 H locs hc1 hP hD hS => ?_)
  obtain ⟨hc1, rfl⟩ := hc1
  exact x_iret hx hb hr hlk hK hP hD hS dQ_answer_8 ⟨hc1, rfl⟩

set_option maxHeartbeats 4000000 in
set_option maxRecDepth 100000 in
/-- GraphQuery.nearest -/
theorem cQ_nearest (l : Launch) (D : va_G) (tys : List (ClassId × FieldType)) (A : Nat → Prop) (ws : va_W) (cI : ClassId) (hI : tys[0]? = some (cI, .int)) (cC : ClassId) (hC : tys[1]? = some (cC, .char)) (cR : ClassId) (hCR : tys[2]? = some (cR, .object "GraphQuery$Row")) (ad : Nat → Nat) (k : Nat) (q : QS)   (hQ : QAt cI cC cR ad ws k q) : x_Mi l yQ_nearest wQ_nearest (xR 4) D xCl tys A [.ref (ad k)] ws (fun r ws1 => r = nearS q.1 q.2.2.2.2 ∧ ws = ws1) := by
  obtain ⟨h0, hg, ht, ⟨T9, st9, hp⟩, ⟨n9, J9, B9, hr9⟩, ha⟩ := id hQ
  obtain ⟨fsG, hgo⟩ := hg.obj
  obtain ⟨fsX, hto⟩ := ht.obj
  obtain ⟨fsA, hao⟩ := ha.obj
  refine x_enter (by decide) rfl (Nat.le_of_ble_eq_true rfl) (fun p e s m args below meth c ls hx hb hr hlk hml hown hnm hts hK hP hD hS hA hN hl => ?_)
  have hl : lv_has ls 1 [(0, .ref (ad k))] := hl
  refine lv_aload_n hx hb dQ_nearest_0 rfl (lv_at hl 0 rfl) ?_
  refine va_get (D := D) (cl := xCl) (ci := 6) (v := .ref (ad (k + 1))) (C := rnQ) (T := tbQ) (N := 7) hx hb hts inQ hown hK hP k h0 rfl 0 (by decide) (hts _ tw_148) (fun _ h9 => h9) rfl dQ_nearest_1 ?_
  refine lv_aload_n hx hb dQ_nearest_4 rfl (lv_at hl 0 rfl) ?_
  refine va_get (D := D) (cl := xCl) (ci := 6) (v := .int q.2.2.2.2) (C := rnQ) (T := tbQ) (N := 7) hx hb hts inQ hown hK hP k h0 rfl 6 (by decide) (hts _ tw_154) (fun _ h9 => h9) rfl dQ_nearest_5 ?_
  refine x_calli (x_runV (n := 1) (As := [.int q.2.2.2.2]) (rest := []) ⟨hx, hb, hml, hown, hts⟩ (cG_nearestTo l D tys A ws cI hI ad (k + 1) q.1 q.2.2.2.2 hg) tw_569 tw_570 tw_571 tw_2 tw_572 (by decide +kernel) rfl rfl ⟨by decide, by decide⟩ ⟨Nat.zero_le _, Nat.zero_le _⟩ (va_recv hK hP (ci := 0) (q0 := k + 1) rfl hgo) hK hP hD hS hA hN rfl hl.1 rfl (lv_room (Nat.le_of_ble_eq_true rfl)) dQ_nearest_8) hS (fun rc1 ws_1 H locs hc1 hP hD hS => ?_)
  obtain ⟨hc1, rfl⟩ := hc1
  exact x_iret hx hb hr hlk hK hP hD hS dQ_nearest_11 ⟨hc1, rfl⟩

set_option maxHeartbeats 4000000 in
set_option maxRecDepth 100000 in
/-- GraphQuery.far -/
theorem cQ_far (l : Launch) (D : va_G) (tys : List (ClassId × FieldType)) (A : Nat → Prop) (ws : va_W) (cI : ClassId) (hI : tys[0]? = some (cI, .int)) (cC : ClassId) (hC : tys[1]? = some (cC, .char)) (cR : ClassId) (hCR : tys[2]? = some (cR, .object "GraphQuery$Row")) (ad : Nat → Nat) (k : Nat) (q : QS) (tt oo : Int32)  (hQ : QAt cI cC cR ad ws k q) : x_Mi l yQ_far wQ_far (xR 3) D xCl tys A [.ref (ad k), .int tt, .int oo] ws (fun r ws1 => r = farS q.1 tt oo ∧ ws = ws1) := by
  obtain ⟨h0, hg, ht, ⟨T9, st9, hp⟩, ⟨n9, J9, B9, hr9⟩, ha⟩ := id hQ
  obtain ⟨fsG, hgo⟩ := hg.obj
  obtain ⟨fsX, hto⟩ := ht.obj
  obtain ⟨fsA, hao⟩ := ha.obj
  refine x_enter (by decide) rfl (Nat.le_of_ble_eq_true rfl) (fun p e s m args below meth c ls hx hb hr hlk hml hown hnm hts hK hP hD hS hA hN hl => ?_)
  have hl : lv_has ls 3 [(0, .ref (ad k)), (1, .int tt), (2, .int oo)] := hl
  refine lv_aload_n hx hb dQ_far_0 rfl (lv_at hl 0 rfl) ?_
  refine va_get (D := D) (cl := xCl) (ci := 6) (v := .ref (ad (k + 1))) (C := rnQ) (T := tbQ) (N := 7) hx hb hts inQ hown hK hP k h0 rfl 0 (by decide) (hts _ tw_148) (fun _ h9 => h9) rfl dQ_far_1 ?_
  refine lv_iload_n hx hb dQ_far_4 rfl (lv_at hl 1 rfl) ?_
  refine lv_iload_n hx hb dQ_far_5 rfl (lv_at hl 2 rfl) ?_
  refine x_calli (x_runV (n := 2) (As := [.int tt, .int oo]) (rest := []) ⟨hx, hb, hml, hown, hts⟩ (cG_stepsBetween l D tys A ws cI hI ad (k + 1) q.1 tt oo hg) tw_585 tw_586 tw_587 tw_2 tw_588 (by decide +kernel) rfl rfl ⟨by decide, by decide⟩ ⟨Nat.zero_le _, Nat.zero_le _⟩ (va_recv hK hP (ci := 0) (q0 := k + 1) rfl hgo) hK hP hD hS hA hN rfl hl.1 rfl (lv_room (Nat.le_of_ble_eq_true rfl)) dQ_far_6) hS (fun rc1 ws_1 H locs hc1 hP hD hS => ?_)
  obtain ⟨hc1, rfl⟩ := hc1
  exact x_iret hx hb hr hlk hK hP hD hS dQ_far_9 ⟨hc1, rfl⟩

set_option maxHeartbeats 4000000 in
set_option maxRecDepth 100000 in
/-- GraphQuery.ways -/
theorem cQ_ways (l : Launch) (D : va_G) (tys : List (ClassId × FieldType)) (A : Nat → Prop) (ws : va_W) (cI : ClassId) (hI : tys[0]? = some (cI, .int)) (cC : ClassId) (hC : tys[1]? = some (cC, .char)) (cR : ClassId) (hCR : tys[2]? = some (cR, .object "GraphQuery$Row")) (ad : Nat → Nat) (k : Nat) (q : QS) (tt oo st : Int32)  (hQ : QAt cI cC cR ad ws k q) : x_Mi l yQ_ways wQ_ways (xR 10) D xCl tys A [.ref (ad k), .int tt, .int oo, .int st] ws (fun r ws1 => r = waysS q.1 tt oo st ∧ ws = ws1) := by
  obtain ⟨h0, hg, ht, ⟨T9, st9, hp⟩, ⟨n9, J9, B9, hr9⟩, ha⟩ := id hQ
  obtain ⟨fsG, hgo⟩ := hg.obj
  obtain ⟨fsX, hto⟩ := ht.obj
  obtain ⟨fsA, hao⟩ := ha.obj
  refine x_enter (by decide) rfl (Nat.le_of_ble_eq_true rfl) (fun p e s m args below meth c ls hx hb hr hlk hml hown hnm hts hK hP hD hS hA hN hl => ?_)
  have hl : lv_has ls 4 [(0, .ref (ad k)), (1, .int tt), (2, .int oo), (3, .int st)] := hl
  refine lv_aload_n hx hb dQ_ways_0 rfl (lv_at hl 0 rfl) ?_
  refine va_get (D := D) (cl := xCl) (ci := 6) (v := .ref (ad (k + 1))) (C := rnQ) (T := tbQ) (N := 7) hx hb hts inQ hown hK hP k h0 rfl 0 (by decide) (hts _ tw_148) (fun _ h9 => h9) rfl dQ_ways_1 ?_
  refine lv_iload_n hx hb dQ_ways_4 rfl (lv_at hl 1 rfl) ?_
  refine lv_iload_n hx hb dQ_ways_5 rfl (lv_at hl 2 rfl) ?_
  refine lv_iload_n hx hb dQ_ways_6 rfl (lv_at hl 3 rfl) ?_
  refine x_calli (x_runV (n := 3) (As := [.int tt, .int oo, .int st]) (rest := []) ⟨hx, hb, hml, hown, hts⟩ (cG_waysBetween l D tys A ws cI hI ad (k + 1) q.1 tt oo st hg) tw_593 tw_594 tw_595 tw_2 tw_596 (by decide +kernel) rfl rfl ⟨by decide, by decide⟩ ⟨Nat.zero_le _, Nat.zero_le _⟩ (va_recv hK hP (ci := 0) (q0 := k + 1) rfl hgo) hK hP hD hS hA hN rfl hl.1 rfl (lv_room (Nat.le_of_ble_eq_true rfl)) dQ_ways_7) hS (fun rc1 ws_1 H locs hc1 hP hD hS => ?_)
  obtain ⟨hc1, rfl⟩ := hc1
  exact x_iret hx hb hr hlk hK hP hD hS dQ_ways_10 ⟨hc1, rfl⟩

set_option maxHeartbeats 4000000 in
set_option maxRecDepth 100000 in
/-- GraphQuery.work -/
theorem cQ_work (l : Launch) (D : va_G) (tys : List (ClassId × FieldType)) (A : Nat → Prop) (ws : va_W) (cI : ClassId) (hI : tys[0]? = some (cI, .int)) (cC : ClassId) (hC : tys[1]? = some (cC, .char)) (cR : ClassId) (hCR : tys[2]? = some (cR, .object "GraphQuery$Row")) (ad : Nat → Nat) (k : Nat) (q : QS) (hQ : QAt cI cC cR ad ws k q) : x_Mi l yQ_work wQ_work (xR 0) D xCl tys A [.ref (ad k)] ws (fun r ws1 => r = nI q.2.2.2.1 ∧ ws = ws1) := by
  obtain ⟨h0, hg, ht, ⟨T9, st9, hp⟩, ⟨n9, J9, B9, hr9⟩, ha⟩ := id hQ
  obtain ⟨fsG, hgo⟩ := hg.obj
  obtain ⟨fsX, hto⟩ := ht.obj
  obtain ⟨fsA, hao⟩ := ha.obj
  refine x_enter (by decide) rfl (Nat.le_of_ble_eq_true rfl) (fun p e s m args below meth c ls hx hb hr hlk hml hown hnm hts hK hP hD hS hA hN hl => ?_)
  have hl : lv_has ls 1 [(0, .ref (ad k))] := hl
  refine lv_aload_n hx hb dQ_work_0 rfl (lv_at hl 0 rfl) ?_
  refine va_get (D := D) (cl := xCl) (ci := 6) (v := .int (nI q.2.2.2.1)) (C := rnQ) (T := tbQ) (N := 7) hx hb hts inQ hown hK hP k h0 rfl 5 (by decide) (hts _ tw_153) (fun _ h9 => h9) rfl dQ_work_1 ?_
  exact x_iret hx hb hr hlk hK hP hD hS dQ_work_4 ⟨rfl, rfl⟩

/-- the first NAME of a program that no target has: its place in the program -/
def fuN (g : Gr) (P : List Tok) : Nat → Int32
  | 0 => -1
  | n + 1 => if (P.getD (P.length - (n + 1)) (0, 0, 0)).1 = 2 ∧ gNoI g (P.getD (P.length - (n + 1)) (0, 0, 0)).2.1 = -1 then nI (P.length - (n + 1)) else fuN g P n

set_option maxHeartbeats 4000000 in
set_option maxRecDepth 100000 in
/-- GraphQuery.firstUnknown(program) -/
theorem cQ_firstUnknown (l : Launch) (D : va_G) (tys : List (ClassId × FieldType)) (A : Nat → Prop) (ws : va_W) (cI : ClassId) (hI : tys[0]? = some (cI, .int)) (cC : ClassId) (hC : tys[1]? = some (cC, .char)) (cR : ClassId) (hCR : tys[2]? = some (cR, .object "GraphQuery$Row")) (ad : Nat → Nat) (k : Nat) (q : QS) (kq : Nat) (P : List Tok) (hT : TapeAt cI ad ws kq P) (hQ : QAt cI cC cR ad ws k q) : x_Mi l yQ_firstUnknown wQ_firstUnknown (xR 2) D xCl tys A [.ref (ad k), .ref (ad kq)] ws (fun r ws1 => r = fuN q.1 P P.length ∧ ws = ws1) := by
  obtain ⟨h0, hg, ht, ⟨T9, st9, hp⟩, ⟨n9, J9, B9, hr9⟩, ha⟩ := id hQ
  obtain ⟨fsG, hgo⟩ := hg.obj
  obtain ⟨fsX, hto⟩ := ht.obj
  obtain ⟨fsA, hao⟩ := ha.obj
  have hle9 := hT.le
  obtain ⟨fsP, hpo⟩ := hT.obj
  refine x_enter (by decide) rfl (Nat.le_of_ble_eq_true rfl) (fun p e s m args below meth c ls hx hb hr hlk hml hown hnm hts hK hP hD hS hA hN hl => ?_)
  have hl : lv_has ls 3 [(0, .ref (ad k)), (1, .ref (ad kq))] := hl
  have loop_2 : ∀ (n : Nat) (i : Nat) (hi : i ≤ P.length) (ws1 : va_W) (H : Heap) (locs : List Loc) (ls : Array Slot), fuN q.1 P P.length = fuN q.1 P (P.length - i) → ws = ws1 → P.length - i < n → va_P D xCl ws1 H → va_D A ws1 → va_S A s.heap H locs → lv_has ls 3 [(0, .ref (ad k)), (1, .ref (ad kq)), (2, .int (nI i))] → W p l e (xR 2) s m args below meth c H locs 0 0 (MQ below (va_Qi (fun r ws1 => r = fuN q.1 P P.length ∧ ws = ws1) (x_B D xCl tys A) A) args s 0 0 A) (F0 m 2 ls []) := by
    intro n
    induction n with
    | zero => intro i hi ws1 H locs ls hfu hws hme; exact absurd hme (Nat.not_lt_zero _)
    | succ n ih =>
      intro i hi ws1 H locs ls hfu hws hme hP hD hS hl
      subst hws
      refine lv_iload_n hx hb dQ_firstUnknown_2 rfl (lv_at hl 2 rfl) ?_
      refine lv_aload_n hx hb dQ_firstUnknown_3 rfl (lv_at hl 1 rfl) ?_
      refine x_calli (x_runV (n := 0) (As := []) (rest := [.int (nI i)]) ⟨hx, hb, hml, hown, hts⟩ (cT_size l D tys A ws cI hI ad kq P hT) tw_399 tw_400 tw_401 tw_5 tw_402 (by decide +kernel) rfl rfl ⟨by decide, by decide⟩ ⟨Nat.zero_le _, Nat.zero_le _⟩ (va_recv hK hP (ci := 4) (q0 := kq) rfl hpo) hK hP hD hS hA hN rfl hl.1 rfl (lv_room (Nat.le_of_ble_eq_true rfl)) dQ_firstUnknown_4) hS (fun r_2 ws_1 H locs hz hP hD hS => ?_)
      obtain ⟨hz, rfl⟩ := hz
      refine lv_icmp_ge (tgt := 43) hx hb dQ_firstUnknown_7 (by decide) (fun c7 => ?_) (fun c7 => ?_)
      · refine lv_iconst (v := (-1)) hx hb dQ_firstUnknown_43 (by decide) ?_
        exact x_iret hx hb hr hlk hK hP hD hS dQ_firstUnknown_44 ⟨by rw [hfu, show P.length - i = 0 by rw [hz, nI_leI (by omega) (by omega)] at c7; omega]; rfl, rfl⟩
      · have hi2 : i < P.length := by rw [hz, nI_leI (by omega) (by omega)] at c7; omega
        refine lv_aload_n hx hb dQ_firstUnknown_10 rfl (lv_at hl 1 rfl) ?_
        refine lv_iload_n hx hb dQ_firstUnknown_11 rfl (lv_at hl 2 rfl) ?_
        refine x_calli (x_runV (n := 1) (As := [.int (nI i)]) (rest := []) ⟨hx, hb, hml, hown, hts⟩ (cT_kindAt l D tys A ws cI hI ad kq P (nI i) hT) tw_403 tw_330 tw_331 tw_5 tw_332 (by decide +kernel) rfl rfl ⟨by decide, by decide⟩ ⟨Nat.zero_le _, Nat.zero_le _⟩ (va_recv hK hP (ci := 4) (q0 := kq) rfl hpo) hK hP hD hS hA hN rfl hl.1 rfl (lv_room (Nat.le_of_ble_eq_true rfl)) dQ_firstUnknown_12) hS (fun rka ws_3 H locs hka hP hD hS => ?_)
        obtain ⟨hka, rfl⟩ := hka
        rw [tpE_n P (by omega)] at hka
        refine lv_iconst (v := 2) hx hb dQ_firstUnknown_15 (by decide) ?_
        refine lv_icmp_ne (tgt := 37) hx hb dQ_firstUnknown_16 (by decide) (fun c16 => ?_) (fun c16 => ?_)
        · refine lv_iinc (v := (nI (i + 1))) (lv' := [(2, .int (nI (i + 1))), (0, .ref (ad k)), (1, .ref (ad kq))]) hx hb dQ_firstUnknown_37 hl (k := 2) rfl (nI_1 _) (by decide) rfl (fun ls hl => ?_)
          refine lv_goto (tgt := 2) hx hb dQ_firstUnknown_40 (by decide) ?_
          exact ih (i + 1) (by omega) ws _ _ _ (by rw [hfu, show P.length - i = (P.length - (i + 1)) + 1 by omega]; show (if _ ∧ _ then _ else _) = _; rw [show P.length - (P.length - (i + 1) + 1) = i by omega, if_neg (fun hc => c16 (by rw [hka]; exact hc.1))]) rfl (by omega) hP hD hS (lv_sub hl [1, 2, 0] rfl)
        · refine lv_aload_n hx hb dQ_firstUnknown_19 rfl (lv_at hl 0 rfl) ?_
          refine va_get (D := D) (cl := xCl) (ci := 6) (v := .ref (ad (k + 1))) (C := rnQ) (T := tbQ) (N := 7) hx hb hts inQ hown hK hP k h0 rfl 0 (by decide) (hts _ tw_148) (fun _ h9 => h9) rfl dQ_firstUnknown_20 ?_
          refine lv_aload_n hx hb dQ_firstUnknown_23 rfl (lv_at hl 1 rfl) ?_
          refine lv_iload_n hx hb dQ_firstUnknown_24 rfl (lv_at hl 2 rfl) ?_
          refine x_calli (x_runV (n := 1) (As := [.int (nI i)]) (rest := [.ref (ad (k + 1))]) ⟨hx, hb, hml, hown, hts⟩ (cT_valueAt l D tys A ws cI hI ad kq P (nI i) hT) tw_404 tw_334 tw_335 tw_5 tw_336 (by decide +kernel) rfl rfl ⟨by decide, by decide⟩ ⟨Nat.zero_le _, Nat.zero_le _⟩ (va_recv hK hP (ci := 4) (q0 := kq) rfl hpo) hK hP hD hS hA hN rfl hl.1 rfl (lv_room (Nat.le_of_ble_eq_true rfl)) dQ_firstUnknown_25) hS (fun rva ws_4 H locs hva hP hD hS => ?_)
          obtain ⟨hva, rfl⟩ := hva
          rw [tpE_n P (by omega)] at hva
          refine x_calli (x_runV (n := 1) (As := [.int rva]) (rest := []) ⟨hx, hb, hml, hown, hts⟩ (cG_numberOf l D tys A ws cI hI ad (k + 1) q.1 rva hg) tw_405 tw_406 tw_407 tw_2 tw_408 (by decide +kernel) rfl rfl ⟨by decide, by decide⟩ ⟨Nat.zero_le _, Nat.zero_le _⟩ (va_recv hK hP (ci := 0) (q0 := k + 1) rfl hgo) hK hP hD hS hA hN rfl hl.1 rfl (lv_room (Nat.le_of_ble_eq_true rfl)) dQ_firstUnknown_28) hS (fun rnu ws_5 H locs hnu hP hD hS => ?_)
          obtain ⟨hnu, rfl⟩ := hnu
          refine lv_iconst (v := (-1)) hx hb dQ_firstUnknown_31 (by decide) ?_
          refine lv_icmp_ne (tgt := 37) hx hb dQ_firstUnknown_32 (by decide) (fun c32 => ?_) (fun c32 => ?_)
          · refine lv_iinc (v := (nI (i + 1))) (lv' := [(2, .int (nI (i + 1))), (0, .ref (ad k)), (1, .ref (ad kq))]) hx hb dQ_firstUnknown_37 hl (k := 2) rfl (nI_1 _) (by decide) rfl (fun ls hl => ?_)
            refine lv_goto (tgt := 2) hx hb dQ_firstUnknown_40 (by decide) ?_
            exact ih (i + 1) (by omega) ws _ _ _ (by rw [hfu, show P.length - i = (P.length - (i + 1)) + 1 by omega]; show (if _ ∧ _ then _ else _) = _; rw [show P.length - (P.length - (i + 1) + 1) = i by omega, if_neg (fun hc => c32 (by rw [hnu, hva]; exact hc.2))]) rfl (by omega) hP hD hS (lv_sub hl [1, 2, 0] rfl)
          · refine lv_iload_n hx hb dQ_firstUnknown_35 rfl (lv_at hl 2 rfl) ?_
            exact x_iret hx hb hr hlk hK hP hD hS dQ_firstUnknown_36 ⟨by rw [hfu, show P.length - i = (P.length - i - 1) + 1 by omega]; show _ = (if _ ∧ _ then _ else _); rw [show P.length - (P.length - i - 1 + 1) = i by omega, if_pos ⟨by rw [← hka]; exact c16, by rw [← hva, ← hnu]; exact c32⟩], rfl⟩
  refine lv_iconst (v := 0) hx hb dQ_firstUnknown_0 (by decide) ?_
  refine lv_istore_n (lv' := [(2, .int 0), (0, .ref (ad k)), (1, .ref (ad kq))]) hx hb dQ_firstUnknown_1 rfl hl (by decide) rfl (fun ls hl => ?_)
  exact loop_2 _ 0 (Nat.zero_le _) ws _ _ _ rfl rfl (Nat.lt_succ_self _) hP hD hS (lv_sub hl [1, 2, 0] rfl)
