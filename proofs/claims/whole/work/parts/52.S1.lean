set_option maxHeartbeats 4000000 in
set_option maxRecDepth 100000 in
theorem cS_coder (l : Launch) (D : va_G) (tys : List (ClassId × FieldType)) (A : Nat → Prop) (ws : va_W) (adK adV : Nat → Nat) (zf : Value) (i : Nat) (hi : i < 9) : x_Msi l yS_coder wS_coder (xR 0) adK adV zf D xCl tys A [.ref (adK i)] ws (fun r ws1 => r = 0 ∧ ws = ws1) := by
  refine x_enters (by decide) rfl (Nat.le_of_ble_eq_true rfl) (fun p e s m args below meth c ls hx hb hr hlk hml hown hnm hts hK hP hD hS hA hN hE hl => ?_)
  have hl : lv_has ls 1 [(0, .ref (adK i))] := hl
  refine va_gets hx hb hE.1 hS hown (hts _ tw_258) (fun _ h9 => h9) dS_coder_0 ?_
  refine lv_if_eq (tgt := 13) hx hb dS_coder_3 (by decide) (fun c3 => ?_) (fun c3 => ?_)
  · exact absurd c3 (by decide)
  · refine lv_aload_n hx hb dS_coder_6 rfl (lv_at hl 0 rfl) ?_
    refine vk_getf hx hb (hE.2.2.1.1 i hi).2.1 hS hown (hts _ tw_898) (fun _ h9 => h9) dS_coder_7 ?_
    refine lv_goto (tgt := 14) hx hb dS_coder_10 (by decide) ?_
    exact x_zret hx hb hr rfl hlk hK hP hD hS dS_coder_14 ⟨rfl, rfl⟩

set_option maxHeartbeats 4000000 in
set_option maxRecDepth 100000 in
theorem cS_isLatin1 (l : Launch) (D : va_G) (tys : List (ClassId × FieldType)) (A : Nat → Prop) (ws : va_W) (adK adV : Nat → Nat) (zf : Value) (i : Nat) (hi : i < 9) : x_Msi l yS_isLatin1 wS_isLatin1 (xR 0) adK adV zf D xCl tys A [.ref (adK i)] ws (fun r ws1 => r = 1 ∧ ws = ws1) := by
  refine x_enters (by decide) rfl (Nat.le_of_ble_eq_true rfl) (fun p e s m args below meth c ls hx hb hr hlk hml hown hnm hts hK hP hD hS hA hN hE hl => ?_)
  have hl : lv_has ls 1 [(0, .ref (adK i))] := hl
  refine va_gets hx hb hE.1 hS hown (hts _ tw_258) (fun _ h9 => h9) dS_isLatin1_0 ?_
  refine lv_if_eq (tgt := 17) hx hb dS_isLatin1_3 (by decide) (fun c3 => ?_) (fun c3 => ?_)
  · exact absurd c3 (by decide)
  · refine lv_aload_n hx hb dS_isLatin1_6 rfl (lv_at hl 0 rfl) ?_
    refine vk_getf hx hb (hE.2.2.1.1 i hi).2.1 hS hown (hts _ tw_898) (fun _ h9 => h9) dS_isLatin1_7 ?_
    refine lv_if_ne (tgt := 17) hx hb dS_isLatin1_10 (by decide) (fun c10 => ?_) (fun c10 => ?_)
    · exact absurd rfl c10
    · refine lv_iconst (v := 1) hx hb dS_isLatin1_13 (by decide) ?_
      refine lv_goto (tgt := 18) hx hb dS_isLatin1_14 (by decide) ?_
      exact x_zret hx hb hr rfl hlk hK hP hD hS dS_isLatin1_18 ⟨rfl, rfl⟩
