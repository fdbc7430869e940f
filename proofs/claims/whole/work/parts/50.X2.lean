/-- the value of a row's token -/
def rvF (cs : List Nat) (K : Int32) (a b : Nat) : Int32 := if K = 3 then nI (chN cs a) - 65 else if K = 2 then (nI (chN cs a) - 97) * 10 + nI (chN cs b) - 48 else if K = 4 then (if a = b then nI (chN cs b) - 48 else (nI (chN cs a) - 48) * 10 + nI (chN cs b) - 48) else 0
theorem sw_rv (x : Int32) : x = 2 ∨ x = 3 ∨ x = 4 ∨ (¬ x = 2 ∧ ¬ x = 3 ∧ ¬ x = 4) := by
  by_cases h2 : x = 2
  · exact Or.inl h2
  by_cases h3 : x = 3
  · exact Or.inr (Or.inl h3)
  by_cases h4 : x = 4
  · exact Or.inr (Or.inr (Or.inl h4))
  exact Or.inr (Or.inr (Or.inr ⟨h2, h3, h4⟩))
theorem sw_out {x : Int32} (h : ¬ x = 2 ∧ ¬ x = 3 ∧ ¬ x = 4) : x.toInt < 2 ∨ 4 < x.toInt := by
  have h2 : ¬ x.toInt = 2 := fun e => h.1 (by rw [i32_eq, e]; rfl)
  have h3 : ¬ x.toInt = 3 := fun e => h.2.1 (by rw [i32_eq, e]; rfl)
  have h4 : ¬ x.toInt = 4 := fun e => h.2.2 (by rw [i32_eq, e]; rfl)
  omega

set_option maxHeartbeats 4000000 in
set_option maxRecDepth 100000 in
/-- Text.rowValue(kind, start, last) -/
theorem cX_rowValue (l : Launch) (D : va_G) (tys : List (ClassId × FieldType)) (A : Nat → Prop) (ws : va_W) (cC : ClassId) (hC : tys[1]? = some (cC, .char)) (ad : Nat → Nat) (k : Nat) (cs : List Nat) (kk : Int32) (a b : Nat) (ha : a < 1000) (hb9 : b < 1000) (hT : TextAt cC ad ws k cs) : x_Mi l yX_rowValue wX_rowValue (xR 1) D xCl tys A [.ref (ad k), .int kk, .int (nI a), .int (nI b)] ws (fun r ws1 => r = rvF cs kk a b ∧ ws = ws1) := by
  obtain ⟨fs9, h0⟩ := hT.obj
  refine x_enter (by decide) rfl (Nat.le_of_ble_eq_true rfl) (fun p e s m args below meth c ls hx hb hr hlk hml hown hnm hts hK hP hD hS hA hN hl => ?_)
  have hl : lv_has ls 6 [(0, .ref (ad k)), (1, .int kk), (2, .int (nI a)), (3, .int (nI b))] := hl
  refine lv_aload_n hx hb dX_rowValue_0 rfl (lv_at hl 0 rfl) ?_
  refine lv_iload_n hx hb dX_rowValue_1 rfl (lv_at hl 2 rfl) ?_
  refine x_calli (x_runV (n := 1) (As := [.int (nI a)]) (rest := []) ⟨hx, hb, hml, hown, hts⟩ (cX_charAt l D tys A ws cC hC ad k cs (nI a) hT) tw_224 tw_226 ts_X_charAt tw_3 tw_227 (by decide +kernel) rfl rfl ⟨by decide, by decide⟩ ⟨Nat.zero_le _, Nat.zero_le _⟩ (va_recv hK hP (ci := 5) (q0 := k) rfl h0) hK hP hD hS hA hN rfl hl.1 rfl (lv_room (Nat.le_of_ble_eq_true rfl)) dX_rowValue_2) hS (fun rc1 ws_1 H locs hc1 hP hD hS => ?_)
  obtain ⟨hc1, rfl⟩ := hc1
  obtain rfl : rc1 = nI (chN cs a) := by rw [hc1, chI_nI cs (by omega)]
  refine lv_istore (lv' := [(4, .int (nI (chN cs a))), (0, .ref (ad k)), (1, .int kk), (2, .int (nI a)), (3, .int (nI b))]) hx hb dX_rowValue_5 hl (by decide) rfl (fun ls hl => ?_)
  refine lv_aload_n hx hb dX_rowValue_7 rfl (lv_at hl 1 rfl) ?_
  refine lv_iload_n hx hb dX_rowValue_8 rfl (lv_at hl 4 rfl) ?_
  refine x_calli (x_runV (n := 1) (As := [.int (nI b)]) (rest := []) ⟨hx, hb, hml, hown, hts⟩ (cX_charAt l D tys A ws cC hC ad k cs (nI b) hT) tw_224 tw_226 ts_X_charAt tw_3 tw_227 (by decide +kernel) rfl rfl ⟨by decide, by decide⟩ ⟨Nat.zero_le _, Nat.zero_le _⟩ (va_recv hK hP (ci := 5) (q0 := k) rfl h0) hK hP hD hS hA hN rfl hl.1 rfl (lv_room (Nat.le_of_ble_eq_true rfl)) dX_rowValue_9) hS (fun rc2 ws_2 H locs hc2 hP hD hS => ?_)
  obtain ⟨hc2, rfl⟩ := hc2
  obtain rfl : rc2 = nI (chN cs b) := by rw [hc2, chI_nI cs (by omega)]
  refine lv_istore (lv' := [(5, .int (nI (chN cs b))), (4, .int (nI (chN cs a))), (0, .ref (ad k)), (1, .int kk), (2, .int (nI a)), (3, .int (nI b))]) hx hb dX_rowValue_12 hl (by decide) rfl (fun ls hl => ?_)
  refine lv_iload_n hx hb dX_rowValue_14 rfl (lv_at hl 3 rfl) ?_
  rcases sw_rv kk with rfl | rfl | rfl | hno
  · refine lv_tableIn (tgt := 46) hx hb dX_rowValue_15 (by decide) (by decide) rfl (by decide) ?_
    refine lv_iload hx hb dX_rowValue_46 (lv_at hl 1 rfl) ?_
    refine lv_bipush (v := 97) hx hb dX_rowValue_48 (by decide) ?_
    refine lv_isub hx hb dX_rowValue_50 ?_
    refine lv_bipush (v := 10) hx hb dX_rowValue_51 (by decide) ?_
    refine lv_imul hx hb dX_rowValue_53 ?_
    refine lv_iload hx hb dX_rowValue_54 (lv_at hl 0 rfl) ?_
    refine lv_iadd hx hb dX_rowValue_56 ?_
    refine lv_bipush (v := 48) hx hb dX_rowValue_57 (by decide) ?_
    refine lv_isub hx hb dX_rowValue_59 ?_
    exact x_iret hx hb hr hlk hK hP hD hS dX_rowValue_60 ⟨by unfold rvF; rw [if_neg (by decide), if_pos rfl], rfl⟩
  · refine lv_tableIn (tgt := 40) hx hb dX_rowValue_15 (by decide) (by decide) rfl (by decide) ?_
    refine lv_iload hx hb dX_rowValue_40 (lv_at hl 1 rfl) ?_
    refine lv_bipush (v := 65) hx hb dX_rowValue_42 (by decide) ?_
    refine lv_isub hx hb dX_rowValue_44 ?_
    exact x_iret hx hb hr hlk hK hP hD hS dX_rowValue_45 ⟨by unfold rvF; rw [if_pos rfl], rfl⟩
  · refine lv_tableIn (tgt := 61) hx hb dX_rowValue_15 (by decide) (by decide) rfl (by decide) ?_
    refine lv_iload_n hx hb dX_rowValue_61 rfl (lv_at hl 4 rfl) ?_
    refine lv_iload_n hx hb dX_rowValue_62 rfl (lv_at hl 5 rfl) ?_
    refine lv_icmp_ne (tgt := 74) hx hb dX_rowValue_63 (by decide) (fun c63 => ?_) (fun c63 => ?_)
    · refine lv_iload hx hb dX_rowValue_74 (lv_at hl 1 rfl) ?_
      refine lv_bipush (v := 48) hx hb dX_rowValue_76 (by decide) ?_
      refine lv_isub hx hb dX_rowValue_78 ?_
      refine lv_bipush (v := 10) hx hb dX_rowValue_79 (by decide) ?_
      refine lv_imul hx hb dX_rowValue_81 ?_
      refine lv_iload hx hb dX_rowValue_82 (lv_at hl 0 rfl) ?_
      refine lv_iadd hx hb dX_rowValue_84 ?_
      refine lv_bipush (v := 48) hx hb dX_rowValue_85 (by decide) ?_
      refine lv_isub hx hb dX_rowValue_87 ?_
      exact x_iret hx hb hr hlk hK hP hD hS dX_rowValue_88 ⟨by unfold rvF; rw [if_neg (by decide), if_neg (by decide), if_pos rfl, if_neg (fun z => c63 (by rw [z]))], rfl⟩
    · refine lv_iload hx hb dX_rowValue_66 (lv_at hl 0 rfl) ?_
      refine lv_bipush (v := 48) hx hb dX_rowValue_68 (by decide) ?_
      refine lv_isub hx hb dX_rowValue_70 ?_
      refine lv_goto (tgt := 88) hx hb dX_rowValue_71 (by decide) ?_
      exact x_iret hx hb hr hlk hK hP hD hS dX_rowValue_88 ⟨by unfold rvF; rw [if_neg (by decide), if_neg (by decide), if_pos rfl, if_pos ((nI_eq (by omega) (by omega)).mp c63)], rfl⟩
  · refine lv_tableOut (tgt := 89) hx hb dX_rowValue_15 (sw_out hno) (by decide) ?_
    refine lv_iconst (v := 0) hx hb dX_rowValue_89 (by decide) ?_
    exact x_iret hx hb hr hlk hK hP hD hS dX_rowValue_90 ⟨by unfold rvF; rw [if_neg hno.2.1, if_neg hno.1, if_neg hno.2.2], rfl⟩
