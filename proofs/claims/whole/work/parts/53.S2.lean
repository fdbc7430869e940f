/-- the j-th character of a literal -/
def sch (i j : Nat) : Int32 := (sByt.getD i []).getD j 0 &&& 255
theorem sLen_lt : ∀ i, i < 9 → sLen.getD i 0 < 6 := by decide

set_option maxHeartbeats 4000000 in
set_option maxRecDepth 100000 in
theorem cS_length (l : Launch) (D : va_G) (tys : List (ClassId × FieldType)) (A : Nat → Prop) (ws : va_W) (adK adV : Nat → Nat) (zf : Value) (hzf : zf = .null ∨ ∃ t, zf = .ref t) (i : Nat) (hi : i < 9) : x_Msi l yS_length wS_length (xR 1) adK adV zf D xCl tys A [.ref (adK i)] ws (fun r ws1 => r = nI (sLen.getD i 0) ∧ ws = ws1) := by
  refine x_enters (by decide) rfl (Nat.le_of_ble_eq_true rfl) (fun p e s m args below meth c ls hx hb hr hlk hml hown hnm hts hK hP hD hS hA hN hE hl => ?_)
  have hl : lv_has ls 1 [(0, .ref (adK i))] := hl
  refine lv_aload_n hx hb dS_length_0 rfl (lv_at hl 0 rfl) ?_
  refine vk_getf hx hb (hE.2.2.1.1 i hi).2.2.1 hS hown (hts _ tw_897) (fun _ h9 => h9) dS_length_1 ?_
  refine va_tlen (v := nI (sLen.getD i 0)) hx hb (hE.2.2.1.1 i hi).2.2.2 hS rfl dS_length_4 ?_
  refine lv_aload_n hx hb dS_length_5 rfl (lv_at hl 0 rfl) ?_
  refine x_calli (x_runVs (n := 0) (As := []) (rest := [.int (nI (sLen.getD i 0))]) ⟨hx, hb, hml, hown, hts⟩ (cS_coder l D tys A ws adK adV zf i hi) tw_254 tw_255 tw_256 tw_9 tw_257 (by decide +kernel) rfl rfl ⟨by decide, by decide⟩ ⟨Nat.zero_le _, Nat.zero_le _⟩ (vk_recv hE.2.2.1 hi hS) hK hP hD hS hA hN hE rfl hl.1 rfl (lv_room (Nat.le_of_ble_eq_true rfl)) dS_length_6) hS (fun rco ws_1 H locs hco hP hD hS => ?_)
  obtain ⟨hco, rfl⟩ := hco
  refine lv_ishr hx hb dS_length_9 ?_
  exact x_iret hx hb hr hlk hK hP hD hS dS_length_10 ⟨by rw [hco]; exact sb_shr0 _, rfl⟩

set_option maxHeartbeats 4000000 in
set_option maxRecDepth 100000 in
theorem cK_checkIndex_n (l : Launch) (D : va_G) (tys : List (ClassId × FieldType)) (A : Nat → Prop) (ws : va_W) (adK adV : Nat → Nat)  (j n : Nat) (hj : j < n) (hn : n < 1000) : x_Msi l yK_checkIndex wK_checkIndex (xR 0) adK adV .null D xCl tys A [.int (nI j), .int (nI n), .null] ws (fun r ws1 => r = nI j ∧ ws = ws1) := by
  refine x_enters (by decide) rfl (Nat.le_of_ble_eq_true rfl) (fun p e s m args below meth c ls hx hb hr hlk hml hown hnm hts hK hP hD hS hA hN hE hl => ?_)
  have hl : lv_has ls 3 [(0, .int (nI j)), (1, .int (nI n)), (2, .null)] := hl
  refine lv_iload_n hx hb dK_checkIndex_0 rfl (lv_at hl 0 rfl) ?_
  refine lv_if_lt (tgt := 9) hx hb dK_checkIndex_1 (by decide) (fun c1 => ?_) (fun c1 => ?_)
  · exact absurd c1 (nI_pos (by omega))
  · refine lv_iload_n hx hb dK_checkIndex_4 rfl (lv_at hl 0 rfl) ?_
    refine lv_iload_n hx hb dK_checkIndex_5 rfl (lv_at hl 1 rfl) ?_
    refine lv_icmp_lt (tgt := 16) hx hb dK_checkIndex_6 (by decide) (fun c6 => ?_) (fun c6 => ?_)
    · refine lv_iload_n hx hb dK_checkIndex_16 rfl (lv_at hl 0 rfl) ?_
      exact x_iret hx hb hr hlk hK hP hD hS dK_checkIndex_17 ⟨rfl, rfl⟩
    · exact absurd (nI_lt hj (by omega)) c6

set_option maxHeartbeats 4000000 in
set_option maxRecDepth 100000 in
theorem cS_checkIndex_n (l : Launch) (D : va_G) (tys : List (ClassId × FieldType)) (A : Nat → Prop) (ws : va_W) (adK adV : Nat → Nat)  (j n : Nat) (hj : j < n) (hn : n < 1000) : x_Msv l yS_checkIndex wS_checkIndex (xR 1) adK adV .null D xCl tys A [.int (nI j), .int (nI n)] ws (fun ws1 => ws = ws1) := by
  refine x_enters (by decide) rfl (Nat.le_of_ble_eq_true rfl) (fun p e s m args below meth c ls hx hb hr hlk hml hown hnm hts hK hP hD hS hA hN hE hl => ?_)
  have hl : lv_has ls 2 [(0, .int (nI j)), (1, .int (nI n))] := hl
  refine lv_iload_n hx hb dS_checkIndex_0 rfl (lv_at hl 0 rfl) ?_
  refine lv_iload_n hx hb dS_checkIndex_1 rfl (lv_at hl 1 rfl) ?_
  refine va_gets hx hb hE.2.1 hS hown (hts _ tw_274) (fun _ h9 => h9) dS_checkIndex_2 ?_
  refine x_calli (x_runSs (n := 3) (As := [.int (nI j), .int (nI n), .null]) (rest := []) ⟨hx, hb, hml, hown, hts⟩ (cK_checkIndex_n l D tys A ws adK adV  j n hj hn) tw_276 tw_277 tw_11 tw_278 (by decide +kernel) rfl rfl ⟨by decide, by decide⟩ ⟨Nat.zero_le _, Nat.zero_le _⟩ hK hP hD hS hA hN hE rfl hl.1 rfl (lv_room (Nat.le_of_ble_eq_true rfl)) dS_checkIndex_5) hS (fun rck ws_1 H locs hck hP hD hS => ?_)
  obtain ⟨hck, rfl⟩ := hck
  refine lv_pop hx hb dS_checkIndex_8 rfl ?_
  exact x_vret hx hb hr hlk hK hP hD hS dS_checkIndex_9 rfl

set_option maxHeartbeats 4000000 in
set_option maxRecDepth 100000 in
theorem cK_checkIndex_r (l : Launch) (D : va_G) (tys : List (ClassId × FieldType)) (A : Nat → Prop) (ws : va_W) (adK adV : Nat → Nat) (zz : Nat) (j n : Nat) (hj : j < n) (hn : n < 1000) : x_Msi l yK_checkIndex wK_checkIndex (xR 0) adK adV (.ref zz) D xCl tys A [.int (nI j), .int (nI n), .ref zz] ws (fun r ws1 => r = nI j ∧ ws = ws1) := by
  refine x_enters (by decide) rfl (Nat.le_of_ble_eq_true rfl) (fun p e s m args below meth c ls hx hb hr hlk hml hown hnm hts hK hP hD hS hA hN hE hl => ?_)
  have hl : lv_has ls 3 [(0, .int (nI j)), (1, .int (nI n)), (2, .ref zz)] := hl
  refine lv_iload_n hx hb dK_checkIndex_0 rfl (lv_at hl 0 rfl) ?_
  refine lv_if_lt (tgt := 9) hx hb dK_checkIndex_1 (by decide) (fun c1 => ?_) (fun c1 => ?_)
  · exact absurd c1 (nI_pos (by omega))
  · refine lv_iload_n hx hb dK_checkIndex_4 rfl (lv_at hl 0 rfl) ?_
    refine lv_iload_n hx hb dK_checkIndex_5 rfl (lv_at hl 1 rfl) ?_
    refine lv_icmp_lt (tgt := 16) hx hb dK_checkIndex_6 (by decide) (fun c6 => ?_) (fun c6 => ?_)
    · refine lv_iload_n hx hb dK_checkIndex_16 rfl (lv_at hl 0 rfl) ?_
      exact x_iret hx hb hr hlk hK hP hD hS dK_checkIndex_17 ⟨rfl, rfl⟩
    · exact absurd (nI_lt hj (by omega)) c6

set_option maxHeartbeats 4000000 in
set_option maxRecDepth 100000 in
theorem cS_checkIndex_r (l : Launch) (D : va_G) (tys : List (ClassId × FieldType)) (A : Nat → Prop) (ws : va_W) (adK adV : Nat → Nat) (zz : Nat) (j n : Nat) (hj : j < n) (hn : n < 1000) : x_Msv l yS_checkIndex wS_checkIndex (xR 1) adK adV (.ref zz) D xCl tys A [.int (nI j), .int (nI n)] ws (fun ws1 => ws = ws1) := by
  refine x_enters (by decide) rfl (Nat.le_of_ble_eq_true rfl) (fun p e s m args below meth c ls hx hb hr hlk hml hown hnm hts hK hP hD hS hA hN hE hl => ?_)
  have hl : lv_has ls 2 [(0, .int (nI j)), (1, .int (nI n))] := hl
  refine lv_iload_n hx hb dS_checkIndex_0 rfl (lv_at hl 0 rfl) ?_
  refine lv_iload_n hx hb dS_checkIndex_1 rfl (lv_at hl 1 rfl) ?_
  refine va_gets hx hb hE.2.1 hS hown (hts _ tw_274) (fun _ h9 => h9) dS_checkIndex_2 ?_
  refine x_calli (x_runSs (n := 3) (As := [.int (nI j), .int (nI n), .ref zz]) (rest := []) ⟨hx, hb, hml, hown, hts⟩ (cK_checkIndex_r l D tys A ws adK adV zz j n hj hn) tw_276 tw_277 tw_11 tw_278 (by decide +kernel) rfl rfl ⟨by decide, by decide⟩ ⟨Nat.zero_le _, Nat.zero_le _⟩ hK hP hD hS hA hN hE rfl hl.1 rfl (lv_room (Nat.le_of_ble_eq_true rfl)) dS_checkIndex_5) hS (fun rck ws_1 H locs hck hP hD hS => ?_)
  obtain ⟨hck, rfl⟩ := hck
  refine lv_pop hx hb dS_checkIndex_8 rfl ?_
  exact x_vret hx hb hr hlk hK hP hD hS dS_checkIndex_9 rfl

theorem cS_checkIndex (l : Launch) (D : va_G) (tys : List (ClassId × FieldType)) (A : Nat → Prop) (ws : va_W) (adK adV : Nat → Nat) (zf : Value) (hzf : zf = .null ∨ ∃ t, zf = .ref t) (j n : Nat) (hj : j < n) (hn : n < 1000) : x_Msv l yS_checkIndex wS_checkIndex (xR 1) adK adV zf D xCl tys A [.int (nI j), .int (nI n)] ws (fun ws1 => ws = ws1) := by
  rcases hzf with rfl | ⟨t, rfl⟩
  · exact cS_checkIndex_n l D tys A ws adK adV j n hj hn
  · exact cS_checkIndex_r l D tys A ws adK adV t j n hj hn

set_option maxHeartbeats 4000000 in
set_option maxRecDepth 100000 in
theorem cJ_charAt (l : Launch) (D : va_G) (tys : List (ClassId × FieldType)) (A : Nat → Prop) (ws : va_W) (adK adV : Nat → Nat) (zf : Value) (hzf : zf = .null ∨ ∃ t, zf = .ref t) (i : Nat) (hi : i < 9) (j : Nat) (hj : j < sLen.getD i 0) : x_Msi l yJ_charAt wJ_charAt (xR 2) adK adV zf D xCl tys A [.ref (adV i), .int (nI j)] ws (fun r ws1 => r = sch i j ∧ ws = ws1) := by
  have h6 := sLen_lt i hi
  refine x_enters (by decide) rfl (Nat.le_of_ble_eq_true rfl) (fun p e s m args below meth c ls hx hb hr hlk hml hown hnm hts hK hP hD hS hA hN hE hl => ?_)
  have hl : lv_has ls 2 [(0, .ref (adV i)), (1, .int (nI j))] := hl
  refine lv_iload_n hx hb dJ_charAt_0 rfl (lv_at hl 1 rfl) ?_
  refine lv_aload_n hx hb dJ_charAt_1 rfl (lv_at hl 0 rfl) ?_
  refine va_tlen (v := nI (sLen.getD i 0)) hx hb (hE.2.2.1.1 i hi).2.2.2 hS rfl dJ_charAt_2 ?_
  refine x_callv (x_runSs (n := 2) (As := [.int (nI j), .int (nI (sLen.getD i 0))]) (rest := []) ⟨hx, hb, hml, hown, hts⟩ (cS_checkIndex l D tys A ws adK adV zf hzf j (sLen.getD i 0) hj (by omega)) tw_271 tw_272 tw_9 tw_273 (by decide +kernel) rfl rfl ⟨by decide, by decide⟩ ⟨Nat.zero_le _, Nat.zero_le _⟩ hK hP hD hS hA hN hE rfl hl.1 rfl (lv_room (Nat.le_of_ble_eq_true rfl)) dJ_charAt_3) hS (fun ws_1 H locs hci hP hD hS => ?_)
  obtain rfl := hci
  refine lv_aload_n hx hb dJ_charAt_6 rfl (lv_at hl 0 rfl) ?_
  refine lv_iload_n hx hb dJ_charAt_7 rfl (lv_at hl 1 rfl) ?_
  refine va_tb (v := .int ((sByt.getD i []).getD j 0)) hx hb (hE.2.2.1.1 i hi).2.2.2 hS (vp_in_nI hj (by omega)) (by rw [nI_clamp (by omega)]) dJ_charAt_8 ?_
  refine lv_sipush (v := 255) hx hb dJ_charAt_9 (by decide) ?_
  refine lv_iand hx hb dJ_charAt_12 ?_
  refine lv_i2c (v := (((((sByt.getD i []).getD j 0) &&& 255) : Int32).toUInt32 % 65536).toInt32) hx hb dJ_charAt_13 rfl ?_
  exact x_zret hx hb hr (by rw [sc_c2]; exact sc_nar _) hlk hK hP hD hS dJ_charAt_14 ⟨sc_c2 _, rfl⟩

set_option maxHeartbeats 4000000 in
set_option maxRecDepth 100000 in
theorem cS_charAt (l : Launch) (D : va_G) (tys : List (ClassId × FieldType)) (A : Nat → Prop) (ws : va_W) (adK adV : Nat → Nat) (zf : Value) (hzf : zf = .null ∨ ∃ t, zf = .ref t) (i : Nat) (hi : i < 9) (j : Nat) (hj : j < sLen.getD i 0) : x_Msi l yS_charAt wS_charAt (xR 3) adK adV zf D xCl tys A [.ref (adK i), .int (nI j)] ws (fun r ws1 => r = sch i j ∧ ws = ws1) := by
  refine x_enters (by decide) rfl (Nat.le_of_ble_eq_true rfl) (fun p e s m args below meth c ls hx hb hr hlk hml hown hnm hts hK hP hD hS hA hN hE hl => ?_)
  have hl : lv_has ls 2 [(0, .ref (adK i)), (1, .int (nI j))] := hl
  refine lv_aload_n hx hb dS_charAt_0 rfl (lv_at hl 0 rfl) ?_
  refine x_calli (x_runVs (n := 0) (As := []) (rest := []) ⟨hx, hb, hml, hown, hts⟩ (cS_isLatin1 l D tys A ws adK adV zf i hi) tw_264 tw_265 tw_266 tw_9 tw_267 (by decide +kernel) rfl rfl ⟨by decide, by decide⟩ ⟨Nat.zero_le _, Nat.zero_le _⟩ (vk_recv hE.2.2.1 hi hS) hK hP hD hS hA hN hE rfl hl.1 rfl (lv_room (Nat.le_of_ble_eq_true rfl)) dS_charAt_1) hS (fun ril ws_1 H locs hil hP hD hS => ?_)
  obtain ⟨hil, rfl⟩ := hil
  refine lv_if_eq (tgt := 16) hx hb dS_charAt_4 (by decide) (fun c4 => ?_) (fun c4 => ?_)
  · exact absurd c4 (by rw [hil]; decide)
  · refine lv_aload_n hx hb dS_charAt_7 rfl (lv_at hl 0 rfl) ?_
    refine vk_getf hx hb (hE.2.2.1.1 i hi).2.2.1 hS hown (hts _ tw_897) (fun _ h9 => h9) dS_charAt_8 ?_
    refine lv_iload_n hx hb dS_charAt_11 rfl (lv_at hl 1 rfl) ?_
    refine x_calli (x_runSs (n := 2) (As := [.ref (adV i), .int (nI j)]) (rest := []) ⟨hx, hb, hml, hown, hts⟩ (cJ_charAt l D tys A ws adK adV zf hzf i hi j hj) tw_268 tw_269 tw_10 tw_270 (by decide +kernel) rfl rfl ⟨by decide, by decide⟩ ⟨Nat.zero_le _, Nat.zero_le _⟩ hK hP hD hS hA hN hE rfl hl.1 rfl (lv_room (Nat.le_of_ble_eq_true rfl)) dS_charAt_12) hS (fun rjc ws_2 H locs hjc hP hD hS => ?_)
    obtain ⟨hjc, rfl⟩ := hjc
    exact x_zret hx hb hr (by rw [hjc]; exact sc_nar _) hlk hK hP hD hS dS_charAt_15 ⟨hjc, rfl⟩
