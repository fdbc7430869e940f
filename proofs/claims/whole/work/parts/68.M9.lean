-- ===== the model's words =====
/-- the text in the model's row -/
def MTx (cs : List Nat) (v : Nat → Int32) (F : Nat → Nat → Int32) : Prop := v 8 = nI cs.length ∧ cs.length ≤ 80 ∧ (∀ i, i < cs.length → F 6 i = nI (chN cs i)) ∧ ∀ j, 32 ≤ chN cs j ∧ chN cs j ≤ 126
theorem MTx_of {q : QS} {v : Nat → Int32} {F : Nat → Nat → Int32} (h : MR q v F) : MTx q.2.1 v F := by
  obtain ⟨-, ⟨h1, h2, h3, h4⟩, -⟩ := h
  exact ⟨h1, h2, fun i hi => by rw [chN_in hi]; exact h3 i hi, chN_lt h4⟩
theorem wv_step {cs : List Nat} {a j : Nat} (hc : ∀ j, 32 ≤ chN cs j ∧ chN cs j ≤ 126) : (Int64.ofNat (wv cs a j) <<< ((8 : Int32).toInt64 &&& 63)) ||| (nI (chN cs (a + j)) : Int32).toInt64 = Int64.ofNat (wv cs a (j + 1)) := by
  have h := hc (a + j)
  rw [show ((8 : Int32).toInt64 &&& 63) = 8 from by decide]
  rw [show (nI (chN cs (a + j)) : Int32).toInt64 = Int64.ofNat (chN cs (a + j)) from Int64.toInt_inj.mp (by rw [Int32.toInt_toInt64, nI_toInt (by omega), Int64.toInt_ofNat_of_lt (by omega)])]
  exact wv_l _ _ (by omega)
theorem lc_0 {x y : Int64} : lg_cmp x y = 0 ↔ x = y := by
  unfold lg_cmp
  constructor
  · intro h
    by_cases h1 : y < x
    · rw [if_pos h1] at h; exact absurd h (by decide)
    · rw [if_neg h1] at h
      by_cases h2 : x = y
      · exact h2
      · rw [if_neg h2] at h; exact absurd h (by decide)
  · intro h
    subst h
    rw [if_neg (by show ¬ x < x; rw [Int64.lt_iff_toInt_lt]; omega), if_pos rfl]
theorem wl {cs : List Nat} {a z k i : Nat} {K : Int64} (hK : K = Int64.ofNat k) (hk : k < 2 ^ 40) (hc : ∀ j, 32 ≤ chN cs j ∧ chN cs j ≤ 126) (hz : z ≤ 5) (h : wv cs a z = k ↔ spB cs i a z = true) : lg_cmp (Int64.ofNat (wv cs a z)) K = 0 ↔ spB cs i a z = true := by
  rw [lc_0, hK, l_eq (by have := wv_lt (a := a) hc hz; omega) (by omega)]
  exact h

set_option maxHeartbeats 4000000 in
set_option maxRecDepth 100000 in
/-- wordToken() -/
theorem cM_wordToken (l : Launch) (D : va_G) (tys : List (ClassId × FieldType)) (A : Nat → Prop) (ws : va_W) (cI : ClassId) (hI : tys[0]? = some (cI, .int)) (ad : Nat → Nat) (km : Nat) (v : Nat → Int32) (F : Nat → Nat → Int32) (cs : List Nat) (htx : MTx cs v F) (a en : Nat) (hae : a ≤ en) (hel : en ≤ cs.length) (hv10 : v 10 = nI a) (hv11 : v 11 = nI en) (hM : ModF cI ad ws km v F) : x_Mi l yM_wordToken wM_wordToken (xR 0) D xCl tys A [.ref (ad km)] ws (fun r ws1 => r = wkF cs a (en - a) ∧ ws = ws1) := by
  have hF : x_fr km (km + 24) ws ws := x_fr.rf
  have hle := htx.2.1
  refine x_enter (by decide) rfl (Nat.le_of_ble_eq_true rfl) (fun p e s m args below meth c ls hx hb hr hlk hml hown hnm hts hK hP hD hS hA hN hl => ?_)
  have hl : lv_has ls 4 [(0, .ref (ad km))] := hl
  have loop_7 : ∀ (fu9 : Nat) (j : Nat) (hj : a + j ≤ en) (ws1 : va_W) (H : Heap) (locs : List Loc) (ls : Array Slot), j ≤ 8 → ws = ws1 → en - (a + j) < fu9 → va_P D xCl ws1 H → va_D A ws1 → va_S A s.heap H locs → lv_has ls 4 [(0, .ref (ad km)), (1, .long (Int64.ofNat (wv cs a j))), (3, .int (nI (a + j)))] → W p l e (xR 0) s m args below meth c H locs 0 0 (MQ below (va_Qi (fun r ws1 => r = wkF cs a (en - a) ∧ ws = ws1) (x_B D xCl tys A) A) args s 0 0 A) (F0 m 7 ls []) := by
    intro fu9
    induction fu9 with
    | zero => intro j hj ws1 H locs ls hj8 hws hme; exact absurd hme (Nat.not_lt_zero _)
    | succ fu9 ih =>
      intro j hj ws1 H locs ls hj8 hws hme hP hD hS hl
      subst hws
      refine lv_iload_n hx hb dM_wordToken_7 rfl (lv_at hl 2 rfl) ?_
      refine lv_aload_n hx hb dM_wordToken_8 rfl (lv_at hl 0 rfl) ?_
      refine va_get (D := D) (cl := xCl) (ci := 7) (v := .int (v 11)) (C := rnM) (T := tbM) (N := 39) hx hb hts inM hown hK hP km hM.1 rfl 11 (by decide) (hts _ tw_628) (fun _ h9 => h9) rfl dM_wordToken_9 ?_
      refine lv_icmp_ge (tgt := 45) hx hb dM_wordToken_12 (by decide) (fun c12 => ?_) (fun c12 => ?_)
      · refine lv_aload_n hx hb dM_wordToken_45 rfl (lv_at hl 0 rfl) ?_
        refine va_get (D := D) (cl := xCl) (ci := 7) (v := .int (v 11)) (C := rnM) (T := tbM) (N := 39) hx hb hts inM hown hK hP km hM.1 rfl 11 (by decide) (hts _ tw_628) (fun _ h9 => h9) rfl dM_wordToken_46 ?_
        refine lv_aload_n hx hb dM_wordToken_49 rfl (lv_at hl 0 rfl) ?_
        refine va_get (D := D) (cl := xCl) (ci := 7) (v := .int (v 10)) (C := rnM) (T := tbM) (N := 39) hx hb hts inM hown hK hP km hM.1 rfl 10 (by decide) (hts _ tw_627) (fun _ h9 => h9) rfl dM_wordToken_50 ?_
        refine lv_isub hx hb dM_wordToken_53 ?_
        refine lv_topi (fun v_1 ev_1 => ?_)
        refine lv_iconst (v := 5) hx hb dM_wordToken_54 (by decide) ?_
        refine lv_icmp_le (tgt := 60) hx hb dM_wordToken_55 (by decide) (fun c55 => ?_) (fun c55 => ?_)
        · have hz5 : en - a ≤ 5 := by rw [ev_1, hv11, hv10, pk_sub (by omega), show (5 : Int32) = nI 5 from rfl, nI_leI (by omega) (by omega)] at c55; exact c55
          have hje : j = en - a := by rw [hv11, nI_leI (by omega) (by omega)] at c12; omega
          obtain rfl := hje
          refine lv_lload_n hx hb dM_wordToken_60 rfl (lv_at hl 1 rfl) ?_
          refine lv_ldc2 hx hb hown (hts _ tw_788) dM_wordToken_61 ?_
          refine W.lcmp hx hb dM_wordToken_64 ?_
          refine lv_topi (fun v_2 ev_2 => ?_)
          refine lv_if_ne (tgt := 72) hx hb dM_wordToken_65 (by decide) (fun c65 => ?_) (fun c65 => ?_)
          · refine lv_lload_n hx hb dM_wordToken_72 rfl (lv_at hl 1 rfl) ?_
            refine lv_ldc2 hx hb hown (hts _ tw_789) dM_wordToken_73 ?_
            refine W.lcmp hx hb dM_wordToken_76 ?_
            refine lv_topi (fun v_3 ev_3 => ?_)
            refine lv_if_ne (tgt := 85) hx hb dM_wordToken_77 (by decide) (fun c77 => ?_) (fun c77 => ?_)
            · refine lv_lload_n hx hb dM_wordToken_85 rfl (lv_at hl 1 rfl) ?_
              refine lv_ldc2 hx hb hown (hts _ tw_790) dM_wordToken_86 ?_
              refine W.lcmp hx hb dM_wordToken_89 ?_
              refine lv_topi (fun v_4 ev_4 => ?_)
              refine lv_if_ne (tgt := 98) hx hb dM_wordToken_90 (by decide) (fun c90 => ?_) (fun c90 => ?_)
              · refine lv_lload_n hx hb dM_wordToken_98 rfl (lv_at hl 1 rfl) ?_
                refine lv_ldc2 hx hb hown (hts _ tw_791) dM_wordToken_99 ?_
                refine W.lcmp hx hb dM_wordToken_102 ?_
                refine lv_topi (fun v_5 ev_5 => ?_)
                refine lv_if_ne (tgt := 111) hx hb dM_wordToken_103 (by decide) (fun c103 => ?_) (fun c103 => ?_)
                · refine lv_lload_n hx hb dM_wordToken_111 rfl (lv_at hl 1 rfl) ?_
                  refine lv_ldc2 hx hb hown (hts _ tw_792) dM_wordToken_112 ?_
                  refine W.lcmp hx hb dM_wordToken_115 ?_
                  refine lv_topi (fun v_6 ev_6 => ?_)
                  refine lv_if_ne (tgt := 124) hx hb dM_wordToken_116 (by decide) (fun c116 => ?_) (fun c116 => ?_)
                  · refine lv_lload_n hx hb dM_wordToken_124 rfl (lv_at hl 1 rfl) ?_
                    refine lv_ldc2 hx hb hown (hts _ tw_793) dM_wordToken_125 ?_
                    refine W.lcmp hx hb dM_wordToken_128 ?_
                    refine lv_topi (fun v_7 ev_7 => ?_)
                    refine lv_if_ne (tgt := 137) hx hb dM_wordToken_129 (by decide) (fun c129 => ?_) (fun c129 => ?_)
                    · refine lv_lload_n hx hb dM_wordToken_137 rfl (lv_at hl 1 rfl) ?_
                      refine lv_ldc2 hx hb hown (hts _ tw_794) dM_wordToken_138 ?_
                      refine W.lcmp hx hb dM_wordToken_141 ?_
                      refine lv_topi (fun v_8 ev_8 => ?_)
                      refine lv_if_ne (tgt := 150) hx hb dM_wordToken_142 (by decide) (fun c142 => ?_) (fun c142 => ?_)
                      · refine lv_lload_n hx hb dM_wordToken_150 rfl (lv_at hl 1 rfl) ?_
                        refine lv_ldc2 hx hb hown (hts _ tw_795) dM_wordToken_151 ?_
                        refine W.lcmp hx hb dM_wordToken_154 ?_
                        refine lv_topi (fun v_9 ev_9 => ?_)
                        refine lv_if_ne (tgt := 163) hx hb dM_wordToken_155 (by decide) (fun c155 => ?_) (fun c155 => ?_)
                        · refine lv_lload_n hx hb dM_wordToken_163 rfl (lv_at hl 1 rfl) ?_
                          refine lv_ldc2 hx hb hown (hts _ tw_796) dM_wordToken_164 ?_
                          refine W.lcmp hx hb dM_wordToken_167 ?_
                          refine lv_topi (fun v_10 ev_10 => ?_)
                          refine lv_if_ne (tgt := 176) hx hb dM_wordToken_168 (by decide) (fun c168 => ?_) (fun c168 => ?_)
                          · refine lv_iconst (v := 1) hx hb dM_wordToken_176 (by decide) ?_
                            exact x_iret hx hb hr hlk hK hP hD hS dM_wordToken_177 ⟨by unfold wkF; rw [if_neg (fun z9 => c65 (by rw [ev_2]; exact (wl (i := 0) (k := 6384748) (K := 6384748) rfl (by decide) htx.2.2.2 hz5 (wv_0 htx.2.2.2 hz5)).mpr z9)), if_neg (fun z9 => c77 (by rw [ev_3]; exact (wl (i := 1) (k := 1684369523) (K := 1684369523) rfl (by decide) htx.2.2.2 hz5 (wv_1 htx.2.2.2 hz5)).mpr z9)), if_neg (fun z9 => c90 (by rw [ev_4]; exact (wl (i := 2) (k := 504447201907) (K := 504447201907) rfl (by decide) htx.2.2.2 hz5 (wv_2 htx.2.2.2 hz5)).mpr z9)), if_neg (fun z9 => c103 (by rw [ev_5]; exact (wl (i := 3) (k := 7823737) (K := 7823737) rfl (by decide) htx.2.2.2 hz5 (wv_3 htx.2.2.2 hz5)).mpr z9)), if_neg (fun z9 => c116 (by rw [ev_6]; exact (wl (i := 4) (k := 1802071652) (K := 1802071652) rfl (by decide) htx.2.2.2 hz5 (wv_4 htx.2.2.2 hz5)).mpr z9)), if_neg (fun z9 => c129 (by rw [ev_7]; exact (wl (i := 5) (k := 499918271603) (K := 499918271603) rfl (by decide) htx.2.2.2 hz5 (wv_5 htx.2.2.2 hz5)).mpr z9)), if_neg (fun z9 => c142 (by rw [ev_8]; exact (wl (i := 6) (k := 1935764837) (K := 1935764837) rfl (by decide) htx.2.2.2 hz5 (wv_6 htx.2.2.2 hz5)).mpr z9)), if_neg (fun z9 => c155 (by rw [ev_9]; exact (wl (i := 7) (k := 7103860) (K := 7103860) rfl (by decide) htx.2.2.2 hz5 (wv_7 htx.2.2.2 hz5)).mpr z9)), if_neg (fun z9 => c168 (by rw [ev_10]; exact (wl (i := 8) (k := 26990) (K := 26990) rfl (by decide) htx.2.2.2 hz5 (wv_8 htx.2.2.2 hz5)).mpr z9))], rfl⟩
                          · refine lv_bipush (v := 13) hx hb dM_wordToken_171 (by decide) ?_
                            refine lv_goto (tgt := 177) hx hb dM_wordToken_173 (by decide) ?_
                            exact x_iret hx hb hr hlk hK hP hD hS dM_wordToken_177 ⟨by unfold wkF; rw [if_neg (fun z9 => c65 (by rw [ev_2]; exact (wl (i := 0) (k := 6384748) (K := 6384748) rfl (by decide) htx.2.2.2 hz5 (wv_0 htx.2.2.2 hz5)).mpr z9)), if_neg (fun z9 => c77 (by rw [ev_3]; exact (wl (i := 1) (k := 1684369523) (K := 1684369523) rfl (by decide) htx.2.2.2 hz5 (wv_1 htx.2.2.2 hz5)).mpr z9)), if_neg (fun z9 => c90 (by rw [ev_4]; exact (wl (i := 2) (k := 504447201907) (K := 504447201907) rfl (by decide) htx.2.2.2 hz5 (wv_2 htx.2.2.2 hz5)).mpr z9)), if_neg (fun z9 => c103 (by rw [ev_5]; exact (wl (i := 3) (k := 7823737) (K := 7823737) rfl (by decide) htx.2.2.2 hz5 (wv_3 htx.2.2.2 hz5)).mpr z9)), if_neg (fun z9 => c116 (by rw [ev_6]; exact (wl (i := 4) (k := 1802071652) (K := 1802071652) rfl (by decide) htx.2.2.2 hz5 (wv_4 htx.2.2.2 hz5)).mpr z9)), if_neg (fun z9 => c129 (by rw [ev_7]; exact (wl (i := 5) (k := 499918271603) (K := 499918271603) rfl (by decide) htx.2.2.2 hz5 (wv_5 htx.2.2.2 hz5)).mpr z9)), if_neg (fun z9 => c142 (by rw [ev_8]; exact (wl (i := 6) (k := 1935764837) (K := 1935764837) rfl (by decide) htx.2.2.2 hz5 (wv_6 htx.2.2.2 hz5)).mpr z9)), if_neg (fun z9 => c155 (by rw [ev_9]; exact (wl (i := 7) (k := 7103860) (K := 7103860) rfl (by decide) htx.2.2.2 hz5 (wv_7 htx.2.2.2 hz5)).mpr z9)), if_pos ((wl (i := 8) (k := 26990) (K := 26990) rfl (by decide) htx.2.2.2 hz5 (wv_8 htx.2.2.2 hz5)).mp (by rw [← ev_10]; exact c168))], rfl⟩
                        · refine lv_bipush (v := 12) hx hb dM_wordToken_158 (by decide) ?_
                          refine lv_goto (tgt := 177) hx hb dM_wordToken_160 (by decide) ?_
                          exact x_iret hx hb hr hlk hK hP hD hS dM_wordToken_177 ⟨by unfold wkF; rw [if_neg (fun z9 => c65 (by rw [ev_2]; exact (wl (i := 0) (k := 6384748) (K := 6384748) rfl (by decide) htx.2.2.2 hz5 (wv_0 htx.2.2.2 hz5)).mpr z9)), if_neg (fun z9 => c77 (by rw [ev_3]; exact (wl (i := 1) (k := 1684369523) (K := 1684369523) rfl (by decide) htx.2.2.2 hz5 (wv_1 htx.2.2.2 hz5)).mpr z9)), if_neg (fun z9 => c90 (by rw [ev_4]; exact (wl (i := 2) (k := 504447201907) (K := 504447201907) rfl (by decide) htx.2.2.2 hz5 (wv_2 htx.2.2.2 hz5)).mpr z9)), if_neg (fun z9 => c103 (by rw [ev_5]; exact (wl (i := 3) (k := 7823737) (K := 7823737) rfl (by decide) htx.2.2.2 hz5 (wv_3 htx.2.2.2 hz5)).mpr z9)), if_neg (fun z9 => c116 (by rw [ev_6]; exact (wl (i := 4) (k := 1802071652) (K := 1802071652) rfl (by decide) htx.2.2.2 hz5 (wv_4 htx.2.2.2 hz5)).mpr z9)), if_neg (fun z9 => c129 (by rw [ev_7]; exact (wl (i := 5) (k := 499918271603) (K := 499918271603) rfl (by decide) htx.2.2.2 hz5 (wv_5 htx.2.2.2 hz5)).mpr z9)), if_neg (fun z9 => c142 (by rw [ev_8]; exact (wl (i := 6) (k := 1935764837) (K := 1935764837) rfl (by decide) htx.2.2.2 hz5 (wv_6 htx.2.2.2 hz5)).mpr z9)), if_pos ((wl (i := 7) (k := 7103860) (K := 7103860) rfl (by decide) htx.2.2.2 hz5 (wv_7 htx.2.2.2 hz5)).mp (by rw [← ev_9]; exact c155))], rfl⟩
                      · refine lv_bipush (v := 11) hx hb dM_wordToken_145 (by decide) ?_
                        refine lv_goto (tgt := 177) hx hb dM_wordToken_147 (by decide) ?_
                        exact x_iret hx hb hr hlk hK hP hD hS dM_wordToken_177 ⟨by unfold wkF; rw [if_neg (fun z9 => c65 (by rw [ev_2]; exact (wl (i := 0) (k := 6384748) (K := 6384748) rfl (by decide) htx.2.2.2 hz5 (wv_0 htx.2.2.2 hz5)).mpr z9)), if_neg (fun z9 => c77 (by rw [ev_3]; exact (wl (i := 1) (k := 1684369523) (K := 1684369523) rfl (by decide) htx.2.2.2 hz5 (wv_1 htx.2.2.2 hz5)).mpr z9)), if_neg (fun z9 => c90 (by rw [ev_4]; exact (wl (i := 2) (k := 504447201907) (K := 504447201907) rfl (by decide) htx.2.2.2 hz5 (wv_2 htx.2.2.2 hz5)).mpr z9)), if_neg (fun z9 => c103 (by rw [ev_5]; exact (wl (i := 3) (k := 7823737) (K := 7823737) rfl (by decide) htx.2.2.2 hz5 (wv_3 htx.2.2.2 hz5)).mpr z9)), if_neg (fun z9 => c116 (by rw [ev_6]; exact (wl (i := 4) (k := 1802071652) (K := 1802071652) rfl (by decide) htx.2.2.2 hz5 (wv_4 htx.2.2.2 hz5)).mpr z9)), if_neg (fun z9 => c129 (by rw [ev_7]; exact (wl (i := 5) (k := 499918271603) (K := 499918271603) rfl (by decide) htx.2.2.2 hz5 (wv_5 htx.2.2.2 hz5)).mpr z9)), if_pos ((wl (i := 6) (k := 1935764837) (K := 1935764837) rfl (by decide) htx.2.2.2 hz5 (wv_6 htx.2.2.2 hz5)).mp (by rw [← ev_8]; exact c142))], rfl⟩
                    · refine lv_bipush (v := 10) hx hb dM_wordToken_132 (by decide) ?_
                      refine lv_goto (tgt := 177) hx hb dM_wordToken_134 (by decide) ?_
                      exact x_iret hx hb hr hlk hK hP hD hS dM_wordToken_177 ⟨by unfold wkF; rw [if_neg (fun z9 => c65 (by rw [ev_2]; exact (wl (i := 0) (k := 6384748) (K := 6384748) rfl (by decide) htx.2.2.2 hz5 (wv_0 htx.2.2.2 hz5)).mpr z9)), if_neg (fun z9 => c77 (by rw [ev_3]; exact (wl (i := 1) (k := 1684369523) (K := 1684369523) rfl (by decide) htx.2.2.2 hz5 (wv_1 htx.2.2.2 hz5)).mpr z9)), if_neg (fun z9 => c90 (by rw [ev_4]; exact (wl (i := 2) (k := 504447201907) (K := 504447201907) rfl (by decide) htx.2.2.2 hz5 (wv_2 htx.2.2.2 hz5)).mpr z9)), if_neg (fun z9 => c103 (by rw [ev_5]; exact (wl (i := 3) (k := 7823737) (K := 7823737) rfl (by decide) htx.2.2.2 hz5 (wv_3 htx.2.2.2 hz5)).mpr z9)), if_neg (fun z9 => c116 (by rw [ev_6]; exact (wl (i := 4) (k := 1802071652) (K := 1802071652) rfl (by decide) htx.2.2.2 hz5 (wv_4 htx.2.2.2 hz5)).mpr z9)), if_pos ((wl (i := 5) (k := 499918271603) (K := 499918271603) rfl (by decide) htx.2.2.2 hz5 (wv_5 htx.2.2.2 hz5)).mp (by rw [← ev_7]; exact c129))], rfl⟩
                  · refine lv_bipush (v := 9) hx hb dM_wordToken_119 (by decide) ?_
                    refine lv_goto (tgt := 177) hx hb dM_wordToken_121 (by decide) ?_
                    exact x_iret hx hb hr hlk hK hP hD hS dM_wordToken_177 ⟨by unfold wkF; rw [if_neg (fun z9 => c65 (by rw [ev_2]; exact (wl (i := 0) (k := 6384748) (K := 6384748) rfl (by decide) htx.2.2.2 hz5 (wv_0 htx.2.2.2 hz5)).mpr z9)), if_neg (fun z9 => c77 (by rw [ev_3]; exact (wl (i := 1) (k := 1684369523) (K := 1684369523) rfl (by decide) htx.2.2.2 hz5 (wv_1 htx.2.2.2 hz5)).mpr z9)), if_neg (fun z9 => c90 (by rw [ev_4]; exact (wl (i := 2) (k := 504447201907) (K := 504447201907) rfl (by decide) htx.2.2.2 hz5 (wv_2 htx.2.2.2 hz5)).mpr z9)), if_neg (fun z9 => c103 (by rw [ev_5]; exact (wl (i := 3) (k := 7823737) (K := 7823737) rfl (by decide) htx.2.2.2 hz5 (wv_3 htx.2.2.2 hz5)).mpr z9)), if_pos ((wl (i := 4) (k := 1802071652) (K := 1802071652) rfl (by decide) htx.2.2.2 hz5 (wv_4 htx.2.2.2 hz5)).mp (by rw [← ev_6]; exact c116))], rfl⟩
                · refine lv_bipush (v := 8) hx hb dM_wordToken_106 (by decide) ?_
                  refine lv_goto (tgt := 177) hx hb dM_wordToken_108 (by decide) ?_
                  exact x_iret hx hb hr hlk hK hP hD hS dM_wordToken_177 ⟨by unfold wkF; rw [if_neg (fun z9 => c65 (by rw [ev_2]; exact (wl (i := 0) (k := 6384748) (K := 6384748) rfl (by decide) htx.2.2.2 hz5 (wv_0 htx.2.2.2 hz5)).mpr z9)), if_neg (fun z9 => c77 (by rw [ev_3]; exact (wl (i := 1) (k := 1684369523) (K := 1684369523) rfl (by decide) htx.2.2.2 hz5 (wv_1 htx.2.2.2 hz5)).mpr z9)), if_neg (fun z9 => c90 (by rw [ev_4]; exact (wl (i := 2) (k := 504447201907) (K := 504447201907) rfl (by decide) htx.2.2.2 hz5 (wv_2 htx.2.2.2 hz5)).mpr z9)), if_pos ((wl (i := 3) (k := 7823737) (K := 7823737) rfl (by decide) htx.2.2.2 hz5 (wv_3 htx.2.2.2 hz5)).mp (by rw [← ev_5]; exact c103))], rfl⟩
              · refine lv_bipush (v := 7) hx hb dM_wordToken_93 (by decide) ?_
                refine lv_goto (tgt := 177) hx hb dM_wordToken_95 (by decide) ?_
                exact x_iret hx hb hr hlk hK hP hD hS dM_wordToken_177 ⟨by unfold wkF; rw [if_neg (fun z9 => c65 (by rw [ev_2]; exact (wl (i := 0) (k := 6384748) (K := 6384748) rfl (by decide) htx.2.2.2 hz5 (wv_0 htx.2.2.2 hz5)).mpr z9)), if_neg (fun z9 => c77 (by rw [ev_3]; exact (wl (i := 1) (k := 1684369523) (K := 1684369523) rfl (by decide) htx.2.2.2 hz5 (wv_1 htx.2.2.2 hz5)).mpr z9)), if_pos ((wl (i := 2) (k := 504447201907) (K := 504447201907) rfl (by decide) htx.2.2.2 hz5 (wv_2 htx.2.2.2 hz5)).mp (by rw [← ev_4]; exact c90))], rfl⟩
            · refine lv_bipush (v := 6) hx hb dM_wordToken_80 (by decide) ?_
              refine lv_goto (tgt := 177) hx hb dM_wordToken_82 (by decide) ?_
              exact x_iret hx hb hr hlk hK hP hD hS dM_wordToken_177 ⟨by unfold wkF; rw [if_neg (fun z9 => c65 (by rw [ev_2]; exact (wl (i := 0) (k := 6384748) (K := 6384748) rfl (by decide) htx.2.2.2 hz5 (wv_0 htx.2.2.2 hz5)).mpr z9)), if_pos ((wl (i := 1) (k := 1684369523) (K := 1684369523) rfl (by decide) htx.2.2.2 hz5 (wv_1 htx.2.2.2 hz5)).mp (by rw [← ev_3]; exact c77))], rfl⟩
          · refine lv_iconst (v := 5) hx hb dM_wordToken_68 (by decide) ?_
            refine lv_goto (tgt := 177) hx hb dM_wordToken_69 (by decide) ?_
            exact x_iret hx hb hr hlk hK hP hD hS dM_wordToken_177 ⟨by unfold wkF; rw [if_pos ((wl (i := 0) (k := 6384748) (K := 6384748) rfl (by decide) htx.2.2.2 hz5 (wv_0 htx.2.2.2 hz5)).mp (by rw [← ev_2]; exact c65))], rfl⟩
        · refine lv_iconst (v := 1) hx hb dM_wordToken_58 (by decide) ?_
          exact x_iret hx hb hr hlk hK hP hD hS dM_wordToken_59 ⟨by rw [ev_1, hv11, hv10, pk_sub (by omega)] at c55; rw [wkF_big (z := en - a) (by rw [show (5 : Int32) = nI 5 from rfl, nI_leI (by omega) (by omega)] at c55; omega)], rfl⟩
      · refine lv_iload_n hx hb dM_wordToken_15 rfl (lv_at hl 2 rfl) ?_
        refine lv_aload_n hx hb dM_wordToken_16 rfl (lv_at hl 0 rfl) ?_
        refine va_get (D := D) (cl := xCl) (ci := 7) (v := .int (v 10)) (C := rnM) (T := tbM) (N := 39) hx hb hts inM hown hK hP km hM.1 rfl 10 (by decide) (hts _ tw_627) (fun _ h9 => h9) rfl dM_wordToken_17 ?_
        refine lv_bipush (v := 8) hx hb dM_wordToken_20 (by decide) ?_
        refine lv_iadd hx hb dM_wordToken_22 ?_
        refine lv_topi (fun v_11 ev_11 => ?_)
        refine lv_icmp_ge (tgt := 45) hx hb dM_wordToken_23 (by decide) (fun c23 => ?_) (fun c23 => ?_)
        · refine lv_aload_n hx hb dM_wordToken_45 rfl (lv_at hl 0 rfl) ?_
          refine va_get (D := D) (cl := xCl) (ci := 7) (v := .int (v 11)) (C := rnM) (T := tbM) (N := 39) hx hb hts inM hown hK hP km hM.1 rfl 11 (by decide) (hts _ tw_628) (fun _ h9 => h9) rfl dM_wordToken_46 ?_
          refine lv_aload_n hx hb dM_wordToken_49 rfl (lv_at hl 0 rfl) ?_
          refine va_get (D := D) (cl := xCl) (ci := 7) (v := .int (v 10)) (C := rnM) (T := tbM) (N := 39) hx hb hts inM hown hK hP km hM.1 rfl 10 (by decide) (hts _ tw_627) (fun _ h9 => h9) rfl dM_wordToken_50 ?_
          refine lv_isub hx hb dM_wordToken_53 ?_
          refine lv_topi (fun v_12 ev_12 => ?_)
          refine lv_iconst (v := 5) hx hb dM_wordToken_54 (by decide) ?_
          refine lv_icmp_le (tgt := 60) hx hb dM_wordToken_55 (by decide) (fun c55 => ?_) (fun c55 => ?_)
          · have hz5 : en - a ≤ 5 := by rw [ev_12, hv11, hv10, pk_sub (by omega), show (5 : Int32) = nI 5 from rfl, nI_leI (by omega) (by omega)] at c55; exact c55
            have hje : j = en - a := by exfalso; rw [ev_11, hv10, show (8 : Int32) = nI 8 from rfl, nI_add, nI_leI (by omega) (by omega)] at c23; omega
            obtain rfl := hje
            refine lv_lload_n hx hb dM_wordToken_60 rfl (lv_at hl 1 rfl) ?_
            refine lv_ldc2 hx hb hown (hts _ tw_788) dM_wordToken_61 ?_
            refine W.lcmp hx hb dM_wordToken_64 ?_
            refine lv_topi (fun v_13 ev_13 => ?_)
            refine lv_if_ne (tgt := 72) hx hb dM_wordToken_65 (by decide) (fun c65 => ?_) (fun c65 => ?_)
            · refine lv_lload_n hx hb dM_wordToken_72 rfl (lv_at hl 1 rfl) ?_
              refine lv_ldc2 hx hb hown (hts _ tw_789) dM_wordToken_73 ?_
              refine W.lcmp hx hb dM_wordToken_76 ?_
              refine lv_topi (fun v_14 ev_14 => ?_)
              refine lv_if_ne (tgt := 85) hx hb dM_wordToken_77 (by decide) (fun c77 => ?_) (fun c77 => ?_)
              · refine lv_lload_n hx hb dM_wordToken_85 rfl (lv_at hl 1 rfl) ?_
                refine lv_ldc2 hx hb hown (hts _ tw_790) dM_wordToken_86 ?_
                refine W.lcmp hx hb dM_wordToken_89 ?_
                refine lv_topi (fun v_15 ev_15 => ?_)
                refine lv_if_ne (tgt := 98) hx hb dM_wordToken_90 (by decide) (fun c90 => ?_) (fun c90 => ?_)
                · refine lv_lload_n hx hb dM_wordToken_98 rfl (lv_at hl 1 rfl) ?_
                  refine lv_ldc2 hx hb hown (hts _ tw_791) dM_wordToken_99 ?_
                  refine W.lcmp hx hb dM_wordToken_102 ?_
                  refine lv_topi (fun v_16 ev_16 => ?_)
                  refine lv_if_ne (tgt := 111) hx hb dM_wordToken_103 (by decide) (fun c103 => ?_) (fun c103 => ?_)
                  · refine lv_lload_n hx hb dM_wordToken_111 rfl (lv_at hl 1 rfl) ?_
                    refine lv_ldc2 hx hb hown (hts _ tw_792) dM_wordToken_112 ?_
                    refine W.lcmp hx hb dM_wordToken_115 ?_
                    refine lv_topi (fun v_17 ev_17 => ?_)
                    refine lv_if_ne (tgt := 124) hx hb dM_wordToken_116 (by decide) (fun c116 => ?_) (fun c116 => ?_)
                    · refine lv_lload_n hx hb dM_wordToken_124 rfl (lv_at hl 1 rfl) ?_
                      refine lv_ldc2 hx hb hown (hts _ tw_793) dM_wordToken_125 ?_
                      refine W.lcmp hx hb dM_wordToken_128 ?_
                      refine lv_topi (fun v_18 ev_18 => ?_)
                      refine lv_if_ne (tgt := 137) hx hb dM_wordToken_129 (by decide) (fun c129 => ?_) (fun c129 => ?_)
                      · refine lv_lload_n hx hb dM_wordToken_137 rfl (lv_at hl 1 rfl) ?_
                        refine lv_ldc2 hx hb hown (hts _ tw_794) dM_wordToken_138 ?_
                        refine W.lcmp hx hb dM_wordToken_141 ?_
                        refine lv_topi (fun v_19 ev_19 => ?_)
                        refine lv_if_ne (tgt := 150) hx hb dM_wordToken_142 (by decide) (fun c142 => ?_) (fun c142 => ?_)
                        · refine lv_lload_n hx hb dM_wordToken_150 rfl (lv_at hl 1 rfl) ?_
                          refine lv_ldc2 hx hb hown (hts _ tw_795) dM_wordToken_151 ?_
                          refine W.lcmp hx hb dM_wordToken_154 ?_
                          refine lv_topi (fun v_20 ev_20 => ?_)
                          refine lv_if_ne (tgt := 163) hx hb dM_wordToken_155 (by decide) (fun c155 => ?_) (fun c155 => ?_)
                          · refine lv_lload_n hx hb dM_wordToken_163 rfl (lv_at hl 1 rfl) ?_
                            refine lv_ldc2 hx hb hown (hts _ tw_796) dM_wordToken_164 ?_
                            refine W.lcmp hx hb dM_wordToken_167 ?_
                            refine lv_topi (fun v_21 ev_21 => ?_)
                            refine lv_if_ne (tgt := 176) hx hb dM_wordToken_168 (by decide) (fun c168 => ?_) (fun c168 => ?_)
                            · refine lv_iconst (v := 1) hx hb dM_wordToken_176 (by decide) ?_
                              exact x_iret hx hb hr hlk hK hP hD hS dM_wordToken_177 ⟨by unfold wkF; rw [if_neg (fun z9 => c65 (by rw [ev_13]; exact (wl (i := 0) (k := 6384748) (K := 6384748) rfl (by decide) htx.2.2.2 hz5 (wv_0 htx.2.2.2 hz5)).mpr z9)), if_neg (fun z9 => c77 (by rw [ev_14]; exact (wl (i := 1) (k := 1684369523) (K := 1684369523) rfl (by decide) htx.2.2.2 hz5 (wv_1 htx.2.2.2 hz5)).mpr z9)), if_neg (fun z9 => c90 (by rw [ev_15]; exact (wl (i := 2) (k := 504447201907) (K := 504447201907) rfl (by decide) htx.2.2.2 hz5 (wv_2 htx.2.2.2 hz5)).mpr z9)), if_neg (fun z9 => c103 (by rw [ev_16]; exact (wl (i := 3) (k := 7823737) (K := 7823737) rfl (by decide) htx.2.2.2 hz5 (wv_3 htx.2.2.2 hz5)).mpr z9)), if_neg (fun z9 => c116 (by rw [ev_17]; exact (wl (i := 4) (k := 1802071652) (K := 1802071652) rfl (by decide) htx.2.2.2 hz5 (wv_4 htx.2.2.2 hz5)).mpr z9)), if_neg (fun z9 => c129 (by rw [ev_18]; exact (wl (i := 5) (k := 499918271603) (K := 499918271603) rfl (by decide) htx.2.2.2 hz5 (wv_5 htx.2.2.2 hz5)).mpr z9)), if_neg (fun z9 => c142 (by rw [ev_19]; exact (wl (i := 6) (k := 1935764837) (K := 1935764837) rfl (by decide) htx.2.2.2 hz5 (wv_6 htx.2.2.2 hz5)).mpr z9)), if_neg (fun z9 => c155 (by rw [ev_20]; exact (wl (i := 7) (k := 7103860) (K := 7103860) rfl (by decide) htx.2.2.2 hz5 (wv_7 htx.2.2.2 hz5)).mpr z9)), if_neg (fun z9 => c168 (by rw [ev_21]; exact (wl (i := 8) (k := 26990) (K := 26990) rfl (by decide) htx.2.2.2 hz5 (wv_8 htx.2.2.2 hz5)).mpr z9))], rfl⟩
                            · refine lv_bipush (v := 13) hx hb dM_wordToken_171 (by decide) ?_
                              refine lv_goto (tgt := 177) hx hb dM_wordToken_173 (by decide) ?_
                              exact x_iret hx hb hr hlk hK hP hD hS dM_wordToken_177 ⟨by unfold wkF; rw [if_neg (fun z9 => c65 (by rw [ev_13]; exact (wl (i := 0) (k := 6384748) (K := 6384748) rfl (by decide) htx.2.2.2 hz5 (wv_0 htx.2.2.2 hz5)).mpr z9)), if_neg (fun z9 => c77 (by rw [ev_14]; exact (wl (i := 1) (k := 1684369523) (K := 1684369523) rfl (by decide) htx.2.2.2 hz5 (wv_1 htx.2.2.2 hz5)).mpr z9)), if_neg (fun z9 => c90 (by rw [ev_15]; exact (wl (i := 2) (k := 504447201907) (K := 504447201907) rfl (by decide) htx.2.2.2 hz5 (wv_2 htx.2.2.2 hz5)).mpr z9)), if_neg (fun z9 => c103 (by rw [ev_16]; exact (wl (i := 3) (k := 7823737) (K := 7823737) rfl (by decide) htx.2.2.2 hz5 (wv_3 htx.2.2.2 hz5)).mpr z9)), if_neg (fun z9 => c116 (by rw [ev_17]; exact (wl (i := 4) (k := 1802071652) (K := 1802071652) rfl (by decide) htx.2.2.2 hz5 (wv_4 htx.2.2.2 hz5)).mpr z9)), if_neg (fun z9 => c129 (by rw [ev_18]; exact (wl (i := 5) (k := 499918271603) (K := 499918271603) rfl (by decide) htx.2.2.2 hz5 (wv_5 htx.2.2.2 hz5)).mpr z9)), if_neg (fun z9 => c142 (by rw [ev_19]; exact (wl (i := 6) (k := 1935764837) (K := 1935764837) rfl (by decide) htx.2.2.2 hz5 (wv_6 htx.2.2.2 hz5)).mpr z9)), if_neg (fun z9 => c155 (by rw [ev_20]; exact (wl (i := 7) (k := 7103860) (K := 7103860) rfl (by decide) htx.2.2.2 hz5 (wv_7 htx.2.2.2 hz5)).mpr z9)), if_pos ((wl (i := 8) (k := 26990) (K := 26990) rfl (by decide) htx.2.2.2 hz5 (wv_8 htx.2.2.2 hz5)).mp (by rw [← ev_21]; exact c168))], rfl⟩
                          · refine lv_bipush (v := 12) hx hb dM_wordToken_158 (by decide) ?_
                            refine lv_goto (tgt := 177) hx hb dM_wordToken_160 (by decide) ?_
                            exact x_iret hx hb hr hlk hK hP hD hS dM_wordToken_177 ⟨by unfold wkF; rw [if_neg (fun z9 => c65 (by rw [ev_13]; exact (wl (i := 0) (k := 6384748) (K := 6384748) rfl (by decide) htx.2.2.2 hz5 (wv_0 htx.2.2.2 hz5)).mpr z9)), if_neg (fun z9 => c77 (by rw [ev_14]; exact (wl (i := 1) (k := 1684369523) (K := 1684369523) rfl (by decide) htx.2.2.2 hz5 (wv_1 htx.2.2.2 hz5)).mpr z9)), if_neg (fun z9 => c90 (by rw [ev_15]; exact (wl (i := 2) (k := 504447201907) (K := 504447201907) rfl (by decide) htx.2.2.2 hz5 (wv_2 htx.2.2.2 hz5)).mpr z9)), if_neg (fun z9 => c103 (by rw [ev_16]; exact (wl (i := 3) (k := 7823737) (K := 7823737) rfl (by decide) htx.2.2.2 hz5 (wv_3 htx.2.2.2 hz5)).mpr z9)), if_neg (fun z9 => c116 (by rw [ev_17]; exact (wl (i := 4) (k := 1802071652) (K := 1802071652) rfl (by decide) htx.2.2.2 hz5 (wv_4 htx.2.2.2 hz5)).mpr z9)), if_neg (fun z9 => c129 (by rw [ev_18]; exact (wl (i := 5) (k := 499918271603) (K := 499918271603) rfl (by decide) htx.2.2.2 hz5 (wv_5 htx.2.2.2 hz5)).mpr z9)), if_neg (fun z9 => c142 (by rw [ev_19]; exact (wl (i := 6) (k := 1935764837) (K := 1935764837) rfl (by decide) htx.2.2.2 hz5 (wv_6 htx.2.2.2 hz5)).mpr z9)), if_pos ((wl (i := 7) (k := 7103860) (K := 7103860) rfl (by decide) htx.2.2.2 hz5 (wv_7 htx.2.2.2 hz5)).mp (by rw [← ev_20]; exact c155))], rfl⟩
                        · refine lv_bipush (v := 11) hx hb dM_wordToken_145 (by decide) ?_
                          refine lv_goto (tgt := 177) hx hb dM_wordToken_147 (by decide) ?_
                          exact x_iret hx hb hr hlk hK hP hD hS dM_wordToken_177 ⟨by unfold wkF; rw [if_neg (fun z9 => c65 (by rw [ev_13]; exact (wl (i := 0) (k := 6384748) (K := 6384748) rfl (by decide) htx.2.2.2 hz5 (wv_0 htx.2.2.2 hz5)).mpr z9)), if_neg (fun z9 => c77 (by rw [ev_14]; exact (wl (i := 1) (k := 1684369523) (K := 1684369523) rfl (by decide) htx.2.2.2 hz5 (wv_1 htx.2.2.2 hz5)).mpr z9)), if_neg (fun z9 => c90 (by rw [ev_15]; exact (wl (i := 2) (k := 504447201907) (K := 504447201907) rfl (by decide) htx.2.2.2 hz5 (wv_2 htx.2.2.2 hz5)).mpr z9)), if_neg (fun z9 => c103 (by rw [ev_16]; exact (wl (i := 3) (k := 7823737) (K := 7823737) rfl (by decide) htx.2.2.2 hz5 (wv_3 htx.2.2.2 hz5)).mpr z9)), if_neg (fun z9 => c116 (by rw [ev_17]; exact (wl (i := 4) (k := 1802071652) (K := 1802071652) rfl (by decide) htx.2.2.2 hz5 (wv_4 htx.2.2.2 hz5)).mpr z9)), if_neg (fun z9 => c129 (by rw [ev_18]; exact (wl (i := 5) (k := 499918271603) (K := 499918271603) rfl (by decide) htx.2.2.2 hz5 (wv_5 htx.2.2.2 hz5)).mpr z9)), if_pos ((wl (i := 6) (k := 1935764837) (K := 1935764837) rfl (by decide) htx.2.2.2 hz5 (wv_6 htx.2.2.2 hz5)).mp (by rw [← ev_19]; exact c142))], rfl⟩
                      · refine lv_bipush (v := 10) hx hb dM_wordToken_132 (by decide) ?_
                        refine lv_goto (tgt := 177) hx hb dM_wordToken_134 (by decide) ?_
                        exact x_iret hx hb hr hlk hK hP hD hS dM_wordToken_177 ⟨by unfold wkF; rw [if_neg (fun z9 => c65 (by rw [ev_13]; exact (wl (i := 0) (k := 6384748) (K := 6384748) rfl (by decide) htx.2.2.2 hz5 (wv_0 htx.2.2.2 hz5)).mpr z9)), if_neg (fun z9 => c77 (by rw [ev_14]; exact (wl (i := 1) (k := 1684369523) (K := 1684369523) rfl (by decide) htx.2.2.2 hz5 (wv_1 htx.2.2.2 hz5)).mpr z9)), if_neg (fun z9 => c90 (by rw [ev_15]; exact (wl (i := 2) (k := 504447201907) (K := 504447201907) rfl (by decide) htx.2.2.2 hz5 (wv_2 htx.2.2.2 hz5)).mpr z9)), if_neg (fun z9 => c103 (by rw [ev_16]; exact (wl (i := 3) (k := 7823737) (K := 7823737) rfl (by decide) htx.2.2.2 hz5 (wv_3 htx.2.2.2 hz5)).mpr z9)), if_neg (fun z9 => c116 (by rw [ev_17]; exact (wl (i := 4) (k := 1802071652) (K := 1802071652) rfl (by decide) htx.2.2.2 hz5 (wv_4 htx.2.2.2 hz5)).mpr z9)), if_pos ((wl (i := 5) (k := 499918271603) (K := 499918271603) rfl (by decide) htx.2.2.2 hz5 (wv_5 htx.2.2.2 hz5)).mp (by rw [← ev_18]; exact c129))], rfl⟩
                    · refine lv_bipush (v := 9) hx hb dM_wordToken_119 (by decide) ?_
                      refine lv_goto (tgt := 177) hx hb dM_wordToken_121 (by decide) ?_
                      exact x_iret hx hb hr hlk hK hP hD hS dM_wordToken_177 ⟨by unfold wkF; rw [if_neg (fun z9 => c65 (by rw [ev_13]; exact (wl (i := 0) (k := 6384748) (K := 6384748) rfl (by decide) htx.2.2.2 hz5 (wv_0 htx.2.2.2 hz5)).mpr z9)), if_neg (fun z9 => c77 (by rw [ev_14]; exact (wl (i := 1) (k := 1684369523) (K := 1684369523) rfl (by decide) htx.2.2.2 hz5 (wv_1 htx.2.2.2 hz5)).mpr z9)), if_neg (fun z9 => c90 (by rw [ev_15]; exact (wl (i := 2) (k := 504447201907) (K := 504447201907) rfl (by decide) htx.2.2.2 hz5 (wv_2 htx.2.2.2 hz5)).mpr z9)), if_neg (fun z9 => c103 (by rw [ev_16]; exact (wl (i := 3) (k := 7823737) (K := 7823737) rfl (by decide) htx.2.2.2 hz5 (wv_3 htx.2.2.2 hz5)).mpr z9)), if_pos ((wl (i := 4) (k := 1802071652) (K := 1802071652) rfl (by decide) htx.2.2.2 hz5 (wv_4 htx.2.2.2 hz5)).mp (by rw [← ev_17]; exact c116))], rfl⟩
                  · refine lv_bipush (v := 8) hx hb dM_wordToken_106 (by decide) ?_
                    refine lv_goto (tgt := 177) hx hb dM_wordToken_108 (by decide) ?_
                    exact x_iret hx hb hr hlk hK hP hD hS dM_wordToken_177 ⟨by unfold wkF; rw [if_neg (fun z9 => c65 (by rw [ev_13]; exact (wl (i := 0) (k := 6384748) (K := 6384748) rfl (by decide) htx.2.2.2 hz5 (wv_0 htx.2.2.2 hz5)).mpr z9)), if_neg (fun z9 => c77 (by rw [ev_14]; exact (wl (i := 1) (k := 1684369523) (K := 1684369523) rfl (by decide) htx.2.2.2 hz5 (wv_1 htx.2.2.2 hz5)).mpr z9)), if_neg (fun z9 => c90 (by rw [ev_15]; exact (wl (i := 2) (k := 504447201907) (K := 504447201907) rfl (by decide) htx.2.2.2 hz5 (wv_2 htx.2.2.2 hz5)).mpr z9)), if_pos ((wl (i := 3) (k := 7823737) (K := 7823737) rfl (by decide) htx.2.2.2 hz5 (wv_3 htx.2.2.2 hz5)).mp (by rw [← ev_16]; exact c103))], rfl⟩
                · refine lv_bipush (v := 7) hx hb dM_wordToken_93 (by decide) ?_
                  refine lv_goto (tgt := 177) hx hb dM_wordToken_95 (by decide) ?_
                  exact x_iret hx hb hr hlk hK hP hD hS dM_wordToken_177 ⟨by unfold wkF; rw [if_neg (fun z9 => c65 (by rw [ev_13]; exact (wl (i := 0) (k := 6384748) (K := 6384748) rfl (by decide) htx.2.2.2 hz5 (wv_0 htx.2.2.2 hz5)).mpr z9)), if_neg (fun z9 => c77 (by rw [ev_14]; exact (wl (i := 1) (k := 1684369523) (K := 1684369523) rfl (by decide) htx.2.2.2 hz5 (wv_1 htx.2.2.2 hz5)).mpr z9)), if_pos ((wl (i := 2) (k := 504447201907) (K := 504447201907) rfl (by decide) htx.2.2.2 hz5 (wv_2 htx.2.2.2 hz5)).mp (by rw [← ev_15]; exact c90))], rfl⟩
              · refine lv_bipush (v := 6) hx hb dM_wordToken_80 (by decide) ?_
                refine lv_goto (tgt := 177) hx hb dM_wordToken_82 (by decide) ?_
                exact x_iret hx hb hr hlk hK hP hD hS dM_wordToken_177 ⟨by unfold wkF; rw [if_neg (fun z9 => c65 (by rw [ev_13]; exact (wl (i := 0) (k := 6384748) (K := 6384748) rfl (by decide) htx.2.2.2 hz5 (wv_0 htx.2.2.2 hz5)).mpr z9)), if_pos ((wl (i := 1) (k := 1684369523) (K := 1684369523) rfl (by decide) htx.2.2.2 hz5 (wv_1 htx.2.2.2 hz5)).mp (by rw [← ev_14]; exact c77))], rfl⟩
            · refine lv_iconst (v := 5) hx hb dM_wordToken_68 (by decide) ?_
              refine lv_goto (tgt := 177) hx hb dM_wordToken_69 (by decide) ?_
              exact x_iret hx hb hr hlk hK hP hD hS dM_wordToken_177 ⟨by unfold wkF; rw [if_pos ((wl (i := 0) (k := 6384748) (K := 6384748) rfl (by decide) htx.2.2.2 hz5 (wv_0 htx.2.2.2 hz5)).mp (by rw [← ev_13]; exact c65))], rfl⟩
          · refine lv_iconst (v := 1) hx hb dM_wordToken_58 (by decide) ?_
            exact x_iret hx hb hr hlk hK hP hD hS dM_wordToken_59 ⟨by rw [ev_12, hv11, hv10, pk_sub (by omega)] at c55; rw [wkF_big (z := en - a) (by rw [show (5 : Int32) = nI 5 from rfl, nI_leI (by omega) (by omega)] at c55; omega)], rfl⟩
        · have hj2 : a + j < en := by rw [hv11, nI_leI (by omega) (by omega)] at c12; omega
          have hj3 : j < 8 := by rw [ev_11, hv10, show (8 : Int32) = nI 8 from rfl, nI_add, nI_leI (by omega) (by omega)] at c23; omega
          refine lv_lload_n hx hb dM_wordToken_26 rfl (lv_at hl 1 rfl) ?_
          refine lv_bipush (v := 8) hx hb dM_wordToken_27 (by decide) ?_
          refine lv_lshl (v := ((Int64.ofNat (wv cs a j)) <<< ((8 : Int32).toInt64 &&& 63))) hx hb dM_wordToken_29 rfl ?_
          refine lv_aload_n hx hb dM_wordToken_30 rfl (lv_at hl 0 rfl) ?_
          refine va_get (D := D) (cl := xCl) (ci := 7) (v := .ref (ad (km + 6))) (C := rnM) (T := tbM) (N := 39) hx hb hts inM hown hK hP km hM.1 rfl 7 (by decide) (hts _ tw_624) (fun _ h9 => h9) rfl dM_wordToken_31 ?_
          refine lv_iload_n hx hb dM_wordToken_34 rfl (lv_at hl 2 rfl) ?_
          refine va_iald hx hb hK hP (km + 6) 0 (hM.a 6 80 rfl (by omega) (by omega)) hI (vp_in_nI (by omega) (by omega)) dM_wordToken_35 ?_
          refine lv_topi (fun v_22 ev_22 => ?_)
          obtain rfl : v_22 = nI (chN cs (a + j)) := by rw [ev_22, nI_clamp (by omega)]; exact htx.2.2.1 _ (by omega)
          refine lv_i2l (v := ((nI (chN cs (a + j))) : Int32).toInt64) hx hb dM_wordToken_36 rfl ?_
          refine lv_lor hx hb dM_wordToken_37 ?_
          refine W.eq (g2 := F0 m 38 ls [.long (Int64.ofNat (wv cs a (j + 1)))]) (by rw [wv_step htx.2.2.2]) ?_
          refine lv_lstore_n (lv' := [(1, .long (Int64.ofNat (wv cs a (j + 1)))), (0, .ref (ad km)), (3, .int (nI (a + j)))]) hx hb dM_wordToken_38 rfl hl (by decide) rfl (fun ls hl => ?_)
          refine lv_iinc (v := (nI ((a + j) + 1))) (lv' := [(3, .int (nI ((a + j) + 1))), (1, .long (Int64.ofNat (wv cs a (j + 1)))), (0, .ref (ad km))]) hx hb dM_wordToken_39 hl (k := 2) rfl (nI_1 _) (by decide) rfl (fun ls hl => ?_)
          refine lv_goto (tgt := 7) hx hb dM_wordToken_42 (by decide) ?_
          exact ih (j + 1) (by omega) ws _ _ _ (by omega) rfl (by omega) hP hD hS (lv_sub hl [2, 1, 0] rfl)
  refine lv_lconst (v := 0) hx hb dM_wordToken_0 rfl ?_
  refine lv_lstore_n (lv' := [(1, .long 0), (0, .ref (ad km))]) hx hb dM_wordToken_1 rfl hl (by decide) rfl (fun ls hl => ?_)
  refine lv_aload_n hx hb dM_wordToken_2 rfl (lv_at hl 1 rfl) ?_
  refine va_get (D := D) (cl := xCl) (ci := 7) (v := .int (v 10)) (C := rnM) (T := tbM) (N := 39) hx hb hts inM hown hK hP km hM.1 rfl 10 (by decide) (hts _ tw_627) (fun _ h9 => h9) rfl dM_wordToken_3 ?_
  refine lv_istore_n (lv' := [(3, .int (v 10)), (1, .long 0), (0, .ref (ad km))]) hx hb dM_wordToken_6 rfl hl (by decide) rfl (fun ls hl => ?_)
  have hl : lv_has ls 4 [(3, .int (nI (a + 0))), (1, .long (Int64.ofNat (wv cs a 0))), (0, .ref (ad km))] := by have e9 : v 10 = nI (a + 0) := hv10; rw [← e9]; exact hl
  exact loop_7 _ 0 (by omega) ws _ _ _ (Nat.zero_le _) rfl (Nat.lt_succ_self _) hP hD hS (lv_sub hl [2, 1, 0] rfl)
