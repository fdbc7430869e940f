/-- the word that the z characters from a on are; 1 where they are none -/
def wkF (cs : List Nat) (a z : Nat) : Int32 := if spB cs 0 a z = true then 5 else if spB cs 1 a z = true then 6 else if spB cs 2 a z = true then 7 else if spB cs 3 a z = true then 8 else if spB cs 4 a z = true then 9 else if spB cs 5 a z = true then 10 else if spB cs 6 a z = true then 11 else if spB cs 7 a z = true then 12 else if spB cs 8 a z = true then 13 else 1

set_option maxHeartbeats 4000000 in
set_option maxRecDepth 100000 in
/-- Text.wordKind(start, size) -/
theorem cX_wordKind (l : Launch) (D : va_G) (tys : List (ClassId × FieldType)) (A : Nat → Prop) (ws : va_W) (adK adV : Nat → Nat) (zf : Value) (hzf : zf = .null ∨ ∃ t, zf = .ref t) (cC : ClassId) (hC : tys[1]? = some (cC, .char)) (ad : Nat → Nat) (k : Nat) (cs : List Nat) (a z : Nat) (ha : a < 1000) (hz : z < 1000) (hT : TextAt cC ad ws k cs) : x_Msi l yX_wordKind wX_wordKind (xR 5) adK adV zf D xCl tys A [.ref (ad k), .int (nI a), .int (nI z)] ws (fun r ws1 => r = wkF cs a z ∧ ws = ws1) := by
  obtain ⟨fs9, h0⟩ := hT.obj
  refine x_enters (by decide) rfl (Nat.le_of_ble_eq_true rfl) (fun p e s m args below meth c ls hx hb hr hlk hml hown hnm hts hK hP hD hS hA hN hE hl => ?_)
  have hl : lv_has ls 3 [(0, .ref (ad k)), (1, .int (nI a)), (2, .int (nI z))] := hl
  refine lv_aload_n hx hb dX_wordKind_0 rfl (lv_at hl 0 rfl) ?_
  refine va_ldcS (index := 56) (tx := "all") (q := adK 0) hx hb hown (hE.2.2.2 0 (by decide)) dX_wordKind_1 ?_
  refine lv_iload_n hx hb dX_wordKind_3 rfl (lv_at hl 1 rfl) ?_
  refine lv_iload_n hx hb dX_wordKind_4 rfl (lv_at hl 2 rfl) ?_
  refine x_calli (x_runVs (n := 3) (As := [.ref (adK 0), .int (nI a), .int (nI z)]) (rest := []) ⟨hx, hb, hml, hown, hts⟩ (cX_spells l D tys A ws adK adV zf hzf cC hC ad k cs 0 a z (by decide) ha hz hT) tw_246 tw_248 ts_X_spells tw_3 tw_249 (by decide +kernel) rfl rfl ⟨by decide, by decide⟩ ⟨Nat.zero_le _, Nat.zero_le _⟩ (va_recv hK hP (ci := 5) (q0 := k) rfl h0) hK hP hD hS hA hN hE rfl hl.1 rfl (lv_room (Nat.le_of_ble_eq_true rfl)) dX_wordKind_5) hS (fun rs0 ws_1 H locs hs0 hP hD hS => ?_)
  obtain ⟨hs0, rfl⟩ := hs0
  refine lv_if_eq (tgt := 13) hx hb dX_wordKind_8 (by decide) (fun c8 => ?_) (fun c8 => ?_)
  · refine lv_aload_n hx hb dX_wordKind_13 rfl (lv_at hl 0 rfl) ?_
    refine va_ldcS (index := 62) (tx := "deps") (q := adK 1) hx hb hown (hE.2.2.2 1 (by decide)) dX_wordKind_14 ?_
    refine lv_iload_n hx hb dX_wordKind_16 rfl (lv_at hl 1 rfl) ?_
    refine lv_iload_n hx hb dX_wordKind_17 rfl (lv_at hl 2 rfl) ?_
    refine x_calli (x_runVs (n := 3) (As := [.ref (adK 1), .int (nI a), .int (nI z)]) (rest := []) ⟨hx, hb, hml, hown, hts⟩ (cX_spells l D tys A ws adK adV zf hzf cC hC ad k cs 1 a z (by decide) ha hz hT) tw_246 tw_248 ts_X_spells tw_3 tw_249 (by decide +kernel) rfl rfl ⟨by decide, by decide⟩ ⟨Nat.zero_le _, Nat.zero_le _⟩ (va_recv hK hP (ci := 5) (q0 := k) rfl h0) hK hP hD hS hA hN hE rfl hl.1 rfl (lv_room (Nat.le_of_ble_eq_true rfl)) dX_wordKind_18) hS (fun rs1 ws_2 H locs hs1 hP hD hS => ?_)
    obtain ⟨hs1, rfl⟩ := hs1
    refine lv_if_eq (tgt := 27) hx hb dX_wordKind_21 (by decide) (fun c21 => ?_) (fun c21 => ?_)
    · refine lv_aload_n hx hb dX_wordKind_27 rfl (lv_at hl 0 rfl) ?_
      refine va_ldcS (index := 64) (tx := "users") (q := adK 2) hx hb hown (hE.2.2.2 2 (by decide)) dX_wordKind_28 ?_
      refine lv_iload_n hx hb dX_wordKind_30 rfl (lv_at hl 1 rfl) ?_
      refine lv_iload_n hx hb dX_wordKind_31 rfl (lv_at hl 2 rfl) ?_
      refine x_calli (x_runVs (n := 3) (As := [.ref (adK 2), .int (nI a), .int (nI z)]) (rest := []) ⟨hx, hb, hml, hown, hts⟩ (cX_spells l D tys A ws adK adV zf hzf cC hC ad k cs 2 a z (by decide) ha hz hT) tw_246 tw_248 ts_X_spells tw_3 tw_249 (by decide +kernel) rfl rfl ⟨by decide, by decide⟩ ⟨Nat.zero_le _, Nat.zero_le _⟩ (va_recv hK hP (ci := 5) (q0 := k) rfl h0) hK hP hD hS hA hN hE rfl hl.1 rfl (lv_room (Nat.le_of_ble_eq_true rfl)) dX_wordKind_32) hS (fun rs2 ws_3 H locs hs2 hP hD hS => ?_)
      obtain ⟨hs2, rfl⟩ := hs2
      refine lv_if_eq (tgt := 41) hx hb dX_wordKind_35 (by decide) (fun c35 => ?_) (fun c35 => ?_)
      · refine lv_aload_n hx hb dX_wordKind_41 rfl (lv_at hl 0 rfl) ?_
        refine va_ldcS (index := 66) (tx := "way") (q := adK 3) hx hb hown (hE.2.2.2 3 (by decide)) dX_wordKind_42 ?_
        refine lv_iload_n hx hb dX_wordKind_44 rfl (lv_at hl 1 rfl) ?_
        refine lv_iload_n hx hb dX_wordKind_45 rfl (lv_at hl 2 rfl) ?_
        refine x_calli (x_runVs (n := 3) (As := [.ref (adK 3), .int (nI a), .int (nI z)]) (rest := []) ⟨hx, hb, hml, hown, hts⟩ (cX_spells l D tys A ws adK adV zf hzf cC hC ad k cs 3 a z (by decide) ha hz hT) tw_246 tw_248 ts_X_spells tw_3 tw_249 (by decide +kernel) rfl rfl ⟨by decide, by decide⟩ ⟨Nat.zero_le _, Nat.zero_le _⟩ (va_recv hK hP (ci := 5) (q0 := k) rfl h0) hK hP hD hS hA hN hE rfl hl.1 rfl (lv_room (Nat.le_of_ble_eq_true rfl)) dX_wordKind_46) hS (fun rs3 ws_4 H locs hs3 hP hD hS => ?_)
        obtain ⟨hs3, rfl⟩ := hs3
        refine lv_if_eq (tgt := 55) hx hb dX_wordKind_49 (by decide) (fun c49 => ?_) (fun c49 => ?_)
        · refine lv_aload_n hx hb dX_wordKind_55 rfl (lv_at hl 0 rfl) ?_
          refine va_ldcS (index := 68) (tx := "kind") (q := adK 4) hx hb hown (hE.2.2.2 4 (by decide)) dX_wordKind_56 ?_
          refine lv_iload_n hx hb dX_wordKind_58 rfl (lv_at hl 1 rfl) ?_
          refine lv_iload_n hx hb dX_wordKind_59 rfl (lv_at hl 2 rfl) ?_
          refine x_calli (x_runVs (n := 3) (As := [.ref (adK 4), .int (nI a), .int (nI z)]) (rest := []) ⟨hx, hb, hml, hown, hts⟩ (cX_spells l D tys A ws adK adV zf hzf cC hC ad k cs 4 a z (by decide) ha hz hT) tw_246 tw_248 ts_X_spells tw_3 tw_249 (by decide +kernel) rfl rfl ⟨by decide, by decide⟩ ⟨Nat.zero_le _, Nat.zero_le _⟩ (va_recv hK hP (ci := 5) (q0 := k) rfl h0) hK hP hD hS hA hN hE rfl hl.1 rfl (lv_room (Nat.le_of_ble_eq_true rfl)) dX_wordKind_60) hS (fun rs4 ws_5 H locs hs4 hP hD hS => ?_)
          obtain ⟨hs4, rfl⟩ := hs4
          refine lv_if_eq (tgt := 69) hx hb dX_wordKind_63 (by decide) (fun c63 => ?_) (fun c63 => ?_)
          · refine lv_aload_n hx hb dX_wordKind_69 rfl (lv_at hl 0 rfl) ?_
            refine va_ldcS (index := 70) (tx := "tests") (q := adK 5) hx hb hown (hE.2.2.2 5 (by decide)) dX_wordKind_70 ?_
            refine lv_iload_n hx hb dX_wordKind_72 rfl (lv_at hl 1 rfl) ?_
            refine lv_iload_n hx hb dX_wordKind_73 rfl (lv_at hl 2 rfl) ?_
            refine x_calli (x_runVs (n := 3) (As := [.ref (adK 5), .int (nI a), .int (nI z)]) (rest := []) ⟨hx, hb, hml, hown, hts⟩ (cX_spells l D tys A ws adK adV zf hzf cC hC ad k cs 5 a z (by decide) ha hz hT) tw_246 tw_248 ts_X_spells tw_3 tw_249 (by decide +kernel) rfl rfl ⟨by decide, by decide⟩ ⟨Nat.zero_le _, Nat.zero_le _⟩ (va_recv hK hP (ci := 5) (q0 := k) rfl h0) hK hP hD hS hA hN hE rfl hl.1 rfl (lv_room (Nat.le_of_ble_eq_true rfl)) dX_wordKind_74) hS (fun rs5 ws_6 H locs hs5 hP hD hS => ?_)
            obtain ⟨hs5, rfl⟩ := hs5
            refine lv_if_eq (tgt := 83) hx hb dX_wordKind_77 (by decide) (fun c77 => ?_) (fun c77 => ?_)
            · refine lv_aload_n hx hb dX_wordKind_83 rfl (lv_at hl 0 rfl) ?_
              refine va_ldcS (index := 72) (tx := "same") (q := adK 6) hx hb hown (hE.2.2.2 6 (by decide)) dX_wordKind_84 ?_
              refine lv_iload_n hx hb dX_wordKind_86 rfl (lv_at hl 1 rfl) ?_
              refine lv_iload_n hx hb dX_wordKind_87 rfl (lv_at hl 2 rfl) ?_
              refine x_calli (x_runVs (n := 3) (As := [.ref (adK 6), .int (nI a), .int (nI z)]) (rest := []) ⟨hx, hb, hml, hown, hts⟩ (cX_spells l D tys A ws adK adV zf hzf cC hC ad k cs 6 a z (by decide) ha hz hT) tw_246 tw_248 ts_X_spells tw_3 tw_249 (by decide +kernel) rfl rfl ⟨by decide, by decide⟩ ⟨Nat.zero_le _, Nat.zero_le _⟩ (va_recv hK hP (ci := 5) (q0 := k) rfl h0) hK hP hD hS hA hN hE rfl hl.1 rfl (lv_room (Nat.le_of_ble_eq_true rfl)) dX_wordKind_88) hS (fun rs6 ws_7 H locs hs6 hP hD hS => ?_)
              obtain ⟨hs6, rfl⟩ := hs6
              refine lv_if_eq (tgt := 97) hx hb dX_wordKind_91 (by decide) (fun c91 => ?_) (fun c91 => ?_)
              · refine lv_aload_n hx hb dX_wordKind_97 rfl (lv_at hl 0 rfl) ?_
                refine va_ldcS (index := 74) (tx := "let") (q := adK 7) hx hb hown (hE.2.2.2 7 (by decide)) dX_wordKind_98 ?_
                refine lv_iload_n hx hb dX_wordKind_100 rfl (lv_at hl 1 rfl) ?_
                refine lv_iload_n hx hb dX_wordKind_101 rfl (lv_at hl 2 rfl) ?_
                refine x_calli (x_runVs (n := 3) (As := [.ref (adK 7), .int (nI a), .int (nI z)]) (rest := []) ⟨hx, hb, hml, hown, hts⟩ (cX_spells l D tys A ws adK adV zf hzf cC hC ad k cs 7 a z (by decide) ha hz hT) tw_246 tw_248 ts_X_spells tw_3 tw_249 (by decide +kernel) rfl rfl ⟨by decide, by decide⟩ ⟨Nat.zero_le _, Nat.zero_le _⟩ (va_recv hK hP (ci := 5) (q0 := k) rfl h0) hK hP hD hS hA hN hE rfl hl.1 rfl (lv_room (Nat.le_of_ble_eq_true rfl)) dX_wordKind_102) hS (fun rs7 ws_8 H locs hs7 hP hD hS => ?_)
                obtain ⟨hs7, rfl⟩ := hs7
                refine lv_if_eq (tgt := 111) hx hb dX_wordKind_105 (by decide) (fun c105 => ?_) (fun c105 => ?_)
                · refine lv_aload_n hx hb dX_wordKind_111 rfl (lv_at hl 0 rfl) ?_
                  refine va_ldcS (index := 76) (tx := "in") (q := adK 8) hx hb hown (hE.2.2.2 8 (by decide)) dX_wordKind_112 ?_
                  refine lv_iload_n hx hb dX_wordKind_114 rfl (lv_at hl 1 rfl) ?_
                  refine lv_iload_n hx hb dX_wordKind_115 rfl (lv_at hl 2 rfl) ?_
                  refine x_calli (x_runVs (n := 3) (As := [.ref (adK 8), .int (nI a), .int (nI z)]) (rest := []) ⟨hx, hb, hml, hown, hts⟩ (cX_spells l D tys A ws adK adV zf hzf cC hC ad k cs 8 a z (by decide) ha hz hT) tw_246 tw_248 ts_X_spells tw_3 tw_249 (by decide +kernel) rfl rfl ⟨by decide, by decide⟩ ⟨Nat.zero_le _, Nat.zero_le _⟩ (va_recv hK hP (ci := 5) (q0 := k) rfl h0) hK hP hD hS hA hN hE rfl hl.1 rfl (lv_room (Nat.le_of_ble_eq_true rfl)) dX_wordKind_116) hS (fun rs8 ws_9 H locs hs8 hP hD hS => ?_)
                  obtain ⟨hs8, rfl⟩ := hs8
                  refine lv_if_eq (tgt := 127) hx hb dX_wordKind_119 (by decide) (fun c119 => ?_) (fun c119 => ?_)
                  · refine lv_iconst (v := 1) hx hb dX_wordKind_127 (by decide) ?_
                    exact x_iret hx hb hr hlk hK hP hD hS dX_wordKind_128 ⟨by have n0 : ¬ spB cs 0 a z = true := (by have w9 := b2i_0.mp (by rw [← hs0]; exact c8); rw [w9]; decide); have n1 : ¬ spB cs 1 a z = true := (by have w9 := b2i_0.mp (by rw [← hs1]; exact c21); rw [w9]; decide); have n2 : ¬ spB cs 2 a z = true := (by have w9 := b2i_0.mp (by rw [← hs2]; exact c35); rw [w9]; decide); have n3 : ¬ spB cs 3 a z = true := (by have w9 := b2i_0.mp (by rw [← hs3]; exact c49); rw [w9]; decide); have n4 : ¬ spB cs 4 a z = true := (by have w9 := b2i_0.mp (by rw [← hs4]; exact c63); rw [w9]; decide); have n5 : ¬ spB cs 5 a z = true := (by have w9 := b2i_0.mp (by rw [← hs5]; exact c77); rw [w9]; decide); have n6 : ¬ spB cs 6 a z = true := (by have w9 := b2i_0.mp (by rw [← hs6]; exact c91); rw [w9]; decide); have n7 : ¬ spB cs 7 a z = true := (by have w9 := b2i_0.mp (by rw [← hs7]; exact c105); rw [w9]; decide); have n8 : ¬ spB cs 8 a z = true := (by have w9 := b2i_0.mp (by rw [← hs8]; exact c119); rw [w9]; decide); unfold wkF; rw [if_neg n0, if_neg n1, if_neg n2, if_neg n3, if_neg n4, if_neg n5, if_neg n6, if_neg n7, if_neg n8], rfl⟩
                  · refine lv_bipush (v := 13) hx hb dX_wordKind_122 (by decide) ?_
                    refine lv_goto (tgt := 128) hx hb dX_wordKind_124 (by decide) ?_
                    exact x_iret hx hb hr hlk hK hP hD hS dX_wordKind_128 ⟨by have n0 : ¬ spB cs 0 a z = true := (by have w9 := b2i_0.mp (by rw [← hs0]; exact c8); rw [w9]; decide); have n1 : ¬ spB cs 1 a z = true := (by have w9 := b2i_0.mp (by rw [← hs1]; exact c21); rw [w9]; decide); have n2 : ¬ spB cs 2 a z = true := (by have w9 := b2i_0.mp (by rw [← hs2]; exact c35); rw [w9]; decide); have n3 : ¬ spB cs 3 a z = true := (by have w9 := b2i_0.mp (by rw [← hs3]; exact c49); rw [w9]; decide); have n4 : ¬ spB cs 4 a z = true := (by have w9 := b2i_0.mp (by rw [← hs4]; exact c63); rw [w9]; decide); have n5 : ¬ spB cs 5 a z = true := (by have w9 := b2i_0.mp (by rw [← hs5]; exact c77); rw [w9]; decide); have n6 : ¬ spB cs 6 a z = true := (by have w9 := b2i_0.mp (by rw [← hs6]; exact c91); rw [w9]; decide); have n7 : ¬ spB cs 7 a z = true := (by have w9 := b2i_0.mp (by rw [← hs7]; exact c105); rw [w9]; decide); have n8 : spB cs 8 a z = true := b2i_n0.mp (by rw [← hs8]; exact c119); unfold wkF; rw [if_neg n0, if_neg n1, if_neg n2, if_neg n3, if_neg n4, if_neg n5, if_neg n6, if_neg n7, if_pos n8], rfl⟩
                · refine lv_bipush (v := 12) hx hb dX_wordKind_108 (by decide) ?_
                  exact x_iret hx hb hr hlk hK hP hD hS dX_wordKind_110 ⟨by have n0 : ¬ spB cs 0 a z = true := (by have w9 := b2i_0.mp (by rw [← hs0]; exact c8); rw [w9]; decide); have n1 : ¬ spB cs 1 a z = true := (by have w9 := b2i_0.mp (by rw [← hs1]; exact c21); rw [w9]; decide); have n2 : ¬ spB cs 2 a z = true := (by have w9 := b2i_0.mp (by rw [← hs2]; exact c35); rw [w9]; decide); have n3 : ¬ spB cs 3 a z = true := (by have w9 := b2i_0.mp (by rw [← hs3]; exact c49); rw [w9]; decide); have n4 : ¬ spB cs 4 a z = true := (by have w9 := b2i_0.mp (by rw [← hs4]; exact c63); rw [w9]; decide); have n5 : ¬ spB cs 5 a z = true := (by have w9 := b2i_0.mp (by rw [← hs5]; exact c77); rw [w9]; decide); have n6 : ¬ spB cs 6 a z = true := (by have w9 := b2i_0.mp (by rw [← hs6]; exact c91); rw [w9]; decide); have n7 : spB cs 7 a z = true := b2i_n0.mp (by rw [← hs7]; exact c105); unfold wkF; rw [if_neg n0, if_neg n1, if_neg n2, if_neg n3, if_neg n4, if_neg n5, if_neg n6, if_pos n7], rfl⟩
              · refine lv_bipush (v := 11) hx hb dX_wordKind_94 (by decide) ?_
                exact x_iret hx hb hr hlk hK hP hD hS dX_wordKind_96 ⟨by have n0 : ¬ spB cs 0 a z = true := (by have w9 := b2i_0.mp (by rw [← hs0]; exact c8); rw [w9]; decide); have n1 : ¬ spB cs 1 a z = true := (by have w9 := b2i_0.mp (by rw [← hs1]; exact c21); rw [w9]; decide); have n2 : ¬ spB cs 2 a z = true := (by have w9 := b2i_0.mp (by rw [← hs2]; exact c35); rw [w9]; decide); have n3 : ¬ spB cs 3 a z = true := (by have w9 := b2i_0.mp (by rw [← hs3]; exact c49); rw [w9]; decide); have n4 : ¬ spB cs 4 a z = true := (by have w9 := b2i_0.mp (by rw [← hs4]; exact c63); rw [w9]; decide); have n5 : ¬ spB cs 5 a z = true := (by have w9 := b2i_0.mp (by rw [← hs5]; exact c77); rw [w9]; decide); have n6 : spB cs 6 a z = true := b2i_n0.mp (by rw [← hs6]; exact c91); unfold wkF; rw [if_neg n0, if_neg n1, if_neg n2, if_neg n3, if_neg n4, if_neg n5, if_pos n6], rfl⟩
            · refine lv_bipush (v := 10) hx hb dX_wordKind_80 (by decide) ?_
              exact x_iret hx hb hr hlk hK hP hD hS dX_wordKind_82 ⟨by have n0 : ¬ spB cs 0 a z = true := (by have w9 := b2i_0.mp (by rw [← hs0]; exact c8); rw [w9]; decide); have n1 : ¬ spB cs 1 a z = true := (by have w9 := b2i_0.mp (by rw [← hs1]; exact c21); rw [w9]; decide); have n2 : ¬ spB cs 2 a z = true := (by have w9 := b2i_0.mp (by rw [← hs2]; exact c35); rw [w9]; decide); have n3 : ¬ spB cs 3 a z = true := (by have w9 := b2i_0.mp (by rw [← hs3]; exact c49); rw [w9]; decide); have n4 : ¬ spB cs 4 a z = true := (by have w9 := b2i_0.mp (by rw [← hs4]; exact c63); rw [w9]; decide); have n5 : spB cs 5 a z = true := b2i_n0.mp (by rw [← hs5]; exact c77); unfold wkF; rw [if_neg n0, if_neg n1, if_neg n2, if_neg n3, if_neg n4, if_pos n5], rfl⟩
          · refine lv_bipush (v := 9) hx hb dX_wordKind_66 (by decide) ?_
            exact x_iret hx hb hr hlk hK hP hD hS dX_wordKind_68 ⟨by have n0 : ¬ spB cs 0 a z = true := (by have w9 := b2i_0.mp (by rw [← hs0]; exact c8); rw [w9]; decide); have n1 : ¬ spB cs 1 a z = true := (by have w9 := b2i_0.mp (by rw [← hs1]; exact c21); rw [w9]; decide); have n2 : ¬ spB cs 2 a z = true := (by have w9 := b2i_0.mp (by rw [← hs2]; exact c35); rw [w9]; decide); have n3 : ¬ spB cs 3 a z = true := (by have w9 := b2i_0.mp (by rw [← hs3]; exact c49); rw [w9]; decide); have n4 : spB cs 4 a z = true := b2i_n0.mp (by rw [← hs4]; exact c63); unfold wkF; rw [if_neg n0, if_neg n1, if_neg n2, if_neg n3, if_pos n4], rfl⟩
        · refine lv_bipush (v := 8) hx hb dX_wordKind_52 (by decide) ?_
          exact x_iret hx hb hr hlk hK hP hD hS dX_wordKind_54 ⟨by have n0 : ¬ spB cs 0 a z = true := (by have w9 := b2i_0.mp (by rw [← hs0]; exact c8); rw [w9]; decide); have n1 : ¬ spB cs 1 a z = true := (by have w9 := b2i_0.mp (by rw [← hs1]; exact c21); rw [w9]; decide); have n2 : ¬ spB cs 2 a z = true := (by have w9 := b2i_0.mp (by rw [← hs2]; exact c35); rw [w9]; decide); have n3 : spB cs 3 a z = true := b2i_n0.mp (by rw [← hs3]; exact c49); unfold wkF; rw [if_neg n0, if_neg n1, if_neg n2, if_pos n3], rfl⟩
      · refine lv_bipush (v := 7) hx hb dX_wordKind_38 (by decide) ?_
        exact x_iret hx hb hr hlk hK hP hD hS dX_wordKind_40 ⟨by have n0 : ¬ spB cs 0 a z = true := (by have w9 := b2i_0.mp (by rw [← hs0]; exact c8); rw [w9]; decide); have n1 : ¬ spB cs 1 a z = true := (by have w9 := b2i_0.mp (by rw [← hs1]; exact c21); rw [w9]; decide); have n2 : spB cs 2 a z = true := b2i_n0.mp (by rw [← hs2]; exact c35); unfold wkF; rw [if_neg n0, if_neg n1, if_pos n2], rfl⟩
    · refine lv_bipush (v := 6) hx hb dX_wordKind_24 (by decide) ?_
      exact x_iret hx hb hr hlk hK hP hD hS dX_wordKind_26 ⟨by have n0 : ¬ spB cs 0 a z = true := (by have w9 := b2i_0.mp (by rw [← hs0]; exact c8); rw [w9]; decide); have n1 : spB cs 1 a z = true := b2i_n0.mp (by rw [← hs1]; exact c21); unfold wkF; rw [if_neg n0, if_pos n1], rfl⟩
  · refine lv_iconst (v := 5) hx hb dX_wordKind_11 (by decide) ?_
    exact x_iret hx hb hr hlk hK hP hD hS dX_wordKind_12 ⟨by have n0 : spB cs 0 a z = true := b2i_n0.mp (by rw [← hs0]; exact c8); unfold wkF; rw [if_pos n0], rfl⟩
