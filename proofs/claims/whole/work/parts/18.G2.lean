theorem gNumN_s {g : Gr} {nm t : Nat} : ∀ {n : Nat}, gNumN g nm n = some t → t < n ∧ gN g t = nm := by
  intro n
  induction n with
  | zero => intro h; cases h
  | succ n ih =>
    intro h
    unfold gNumN at h
    split at h
    · next u hu =>
      cases h
      have := ih hu
      exact ⟨by omega, this.2⟩
    · next hu =>
      split at h
      · next e => cases h; exact ⟨by omega, e⟩
      · cases h
theorem gNumN_n {g : Gr} {nm : Nat} : ∀ {n : Nat}, gNumN g nm n = none ↔ ∀ t, t < n → gN g t ≠ nm := by
  intro n
  induction n with
  | zero => exact ⟨fun _ t ht => absurd ht (Nat.not_lt_zero t), fun _ => rfl⟩
  | succ n ih =>
    unfold gNumN
    constructor
    · intro h
      split at h
      · cases h
      · next hu =>
        split at h
        · cases h
        · next e =>
          intro t ht
          by_cases e2 : t = n
          · subst e2; exact e
          · exact ih.mp hu t (by omega)
    · intro h
      rw [ih.mpr (fun t ht => h t (by omega))]
      exact if_neg (h n (by omega))
theorem gNumN_congr {g g2 : Gr} {nm : Nat} : ∀ {n : Nat}, (∀ t, t < n → gN g t = gN g2 t) → gNumN g nm n = gNumN g2 nm n := by
  intro n
  induction n with
  | zero => intro _; rfl
  | succ n ih =>
    intro h
    unfold gNumN
    rw [ih (fun t ht => h t (by omega)), h n (by omega)]
theorem gNum_lt {g : Gr} {nm t : Nat} (h : gNum g nm = some t) : t < g.length ∧ gN g t = nm := gNumN_s h
theorem gNo_none {g : Gr} {nm : Nat} (hg : g.length ≤ 30) : gNo g nm = -1 ↔ gNum g nm = none := by
  unfold gNo
  split
  · next t ht =>
    have := (gNum_lt ht).1
    constructor
    · intro h
      rw [i32_eq, nI_toInt (by omega), show (-1 : Int32).toInt = -1 from rfl] at h
      omega
    · intro h; rw [h] at ht; cases ht
  · next h => exact ⟨fun _ => h, fun _ => rfl⟩
-- ===== a target more =====
def gApp (g : Gr) (nm kd : Nat) : Gr := g ++ [(nm, kd, [])]
theorem gApp_len (g : Gr) (nm kd : Nat) : (gApp g nm kd).length = g.length + 1 := by unfold gApp; rw [List.length_append]; rfl
theorem gApp_get (g : Gr) (nm kd : Nat) {t : Nat} : (gApp g nm kd).getD t (0, 0, []) = if t < g.length then g.getD t (0, 0, []) else if t = g.length then (nm, kd, []) else (0, 0, []) := by
  unfold gApp
  rw [List.getD_eq_getElem?_getD, List.getD_eq_getElem?_getD]
  by_cases h : t < g.length
  · rw [if_pos h, List.getElem?_append_left h]
  · rw [if_neg h, List.getElem?_append_right (by omega)]
    by_cases e : t = g.length
    · rw [if_pos e, e, Nat.sub_self]; rfl
    · rw [if_neg e, List.getElem?_eq_none (by simp only [List.length_singleton]; omega)]; rfl
theorem gApp_N (g : Gr) (nm kd : Nat) {t : Nat} : gN (gApp g nm kd) t = if t < g.length then gN g t else if t = g.length then nm else 0 := by
  unfold gN
  rw [gApp_get]
  split
  · rfl
  · split <;> rfl
theorem gApp_K (g : Gr) (nm kd : Nat) {t : Nat} : gK (gApp g nm kd) t = if t < g.length then gK g t else if t = g.length then kd else 0 := by
  unfold gK
  rw [gApp_get]
  split
  · rfl
  · split <;> rfl
theorem gApp_D (g : Gr) (nm kd : Nat) {t : Nat} : gD (gApp g nm kd) t = gD g t := by
  by_cases h : t < g.length
  · unfold gD; rw [gApp_get, if_pos h]
  · rw [gD_out (g := g) (by omega)]
    unfold gD
    rw [gApp_get, if_neg h]
    split <;> rfl
theorem gApp_num (g : Gr) (nm kd : Nat) (x : Nat) (h : gNum g nm = none) : gNum (gApp g nm kd) x = if x = nm then some g.length else gNum g x := by
  unfold gNum
  rw [gApp_len]
  have e : gNumN (gApp g nm kd) x g.length = gNumN g x g.length := gNumN_congr (fun t ht => by rw [gApp_N, if_pos ht])
  show (match gNumN (gApp g nm kd) x g.length with | some t => some t | none => if gN (gApp g nm kd) g.length = x then some g.length else none) = _
  have eN : gN (gApp g nm kd) g.length = nm := by rw [gApp_N, if_neg (Nat.lt_irrefl _), if_pos rfl]
  rw [e, eN]
  by_cases hx : x = nm
  · rw [if_pos hx]
    subst hx
    rw [show gNumN g x g.length = none from h]
    exact if_pos rfl
  · rw [if_neg hx, if_neg (fun e => hx e.symm)]
    split
    · next t ht => rw [ht]
    · next ht => rw [ht]
theorem GrOK.app {g : Gr} (h : GrOK g) {nm kd : Nat} (hl : g.length < 30) (hn : nm < 60) (hk : kd < 4) (hno : gNum g nm = none) : GrOK (gApp g nm kd) := by
  obtain ⟨h1, h2, h3, h4⟩ := h
  have hno2 := gNumN_n.mp hno
  refine ⟨by rw [gApp_len]; omega, ?_, ?_, ?_⟩
  · intro t ht
    rw [gApp_len] at ht
    rw [gApp_N, gApp_K]
    by_cases e : t < g.length
    · rw [if_pos e, if_pos e]; exact h2 t e
    · rw [if_neg e, if_pos (by omega), if_neg e, if_pos (by omega)]; exact ⟨hn, hk⟩
  · intro t u ht hu
    rw [gApp_len] at ht hu
    rw [gApp_N, gApp_N]
    by_cases e : t < g.length <;> by_cases e2 : u < g.length
    · rw [if_pos e, if_pos e2]; exact h3 t u e e2
    · rw [if_pos e, if_neg e2, if_pos (by omega)]; intro q; exact absurd q (hno2 t e)
    · rw [if_neg e, if_pos e2, if_pos (by omega)]; intro q; exact absurd q.symm (hno2 u e2)
    · intro _; omega
  · intro t
    rw [gApp_D]
    exact ⟨(h4 t).1, (h4 t).2.1, fun u hu => by rw [gApp_len]; have := (h4 t).2.2 u hu; omega⟩
theorem GrRel.app {g : Gr} {F F1 : Nat → Nat → Int32} (h : GrRel g F) {nm kd : Nat} (hl : g.length < 30) (hn : nm < 60) (hk : kd < 4) (hno : gNum g nm = none) (e1 : F1 1 = upd (F 1) g.length (nI nm)) (e2 : F1 2 = upd (F 2) g.length (nI kd)) (e3 : F1 3 = upd (F 3) nm (nI g.length)) (e4 : F1 4 = F 4) (e5 : F1 5 = F 5) (e6 : F1 6 = F 6) (e7 : F1 7 = F 7) : GrRel (gApp g nm kd) F1 := by
  obtain ⟨h0, h1, h2, h3, h4, h5, h6, h7⟩ := h
  refine ⟨h0.app hl hn hk hno, ?_, ?_, ?_, ?_, ?_, ?_, ?_⟩
  · intro t ht
    rw [gApp_len] at ht
    rw [e1, gApp_N]
    unfold upd
    by_cases e : t = g.length
    · rw [if_pos e, if_neg (by omega), if_pos e]
    · rw [if_neg e, if_pos (by omega)]; exact h1 t (by omega)
  · intro t ht
    rw [gApp_len] at ht
    rw [e2, gApp_K]
    unfold upd
    by_cases e : t = g.length
    · rw [if_pos e, if_neg (by omega), if_pos e]
    · rw [if_neg e, if_pos (by omega)]; exact h2 t (by omega)
  · intro x hx
    rw [e3]
    unfold upd gNo
    rw [gApp_num g nm kd x hno]
    by_cases e : x = nm
    · rw [if_pos e, if_pos e]
    · rw [if_neg e, if_neg e]; exact h3 x hx
  · intro t i ht hi
    rw [gApp_D] at hi ⊢
    rw [e4]; exact h4 t i ht hi
  · intro t ht
    rw [gApp_D, e5]; exact h5 t ht
  · intro t ht i hi
    rw [gApp_D, e6]; exact h6 t ht i hi
  · intro u hu i hi
    rw [gApp_D, e7]; exact h7 u hu i hi
def tgtC (g : Gr) (pa di ki : Int32) : Prop := g.length < 30 ∧ (0 ≤ pa.toInt ∧ pa.toInt < 6) ∧ (0 ≤ di.toInt ∧ di.toInt < 10) ∧ (0 ≤ ki.toInt ∧ ki.toInt < 4) ∧ gNum g (pa.toInt.toNat * 10 + di.toInt.toNat) = none
/-- promise 2: the answer, and the targets behind it -/
noncomputable def tgtS (g : Gr) (pa di ki : Int32) : Int32 × Gr := by
  classical
  exact if tgtC g pa di ki then (nI g.length, gApp g (pa.toInt.toNat * 10 + di.toInt.toNat) ki.toInt.toNat) else (-1, g)
theorem tgtS_no {g : Gr} {pa di ki : Int32} (h : ¬ tgtC g pa di ki) : tgtS g pa di ki = (-1, g) := if_neg h
theorem tgtS_yes {g : Gr} {pa di ki : Nat} (h1 : g.length < 30) (h2 : pa < 6) (h3 : di < 10) (h4 : ki < 4) (h5 : gNum g (pa * 10 + di) = none) : tgtS g (nI pa) (nI di) (nI ki) = (nI g.length, gApp g (pa * 10 + di) ki) := by
  have c : tgtC g (nI pa) (nI di) (nI ki) := by
    unfold tgtC
    rw [nI_toInt (by omega), nI_toInt (by omega), nI_toInt (by omega)]
    exact ⟨h1, by omega, by omega, by omega, by simpa using h5⟩
  unfold tgtS
  rw [if_pos c, nI_toInt (by omega), nI_toInt (by omega), nI_toInt (by omega)]
  simp
/-- F with another array in place i -/
def setF (F : Nat → Nat → Int32) (i : Nat) (f : Nat → Int32) : Nat → Nat → Int32 := fun j => if j = i then f else F j

set_option maxHeartbeats 4000000 in
set_option maxRecDepth 100000 in
/-- Graph.addTarget(pack, digit, kind) -/
theorem cG_addTarget (l : Launch) (D : va_G) (tys : List (ClassId × FieldType)) (A : Nat → Prop) (ws : va_W) (cI : ClassId) (hI : tys[0]? = some (cI, .int)) (ad : Nat → Nat) (k : Nat) (g : Gr) (pa di ki : Int32) (hG : GraphAt cI ad ws k g) : x_Mi l yG_addTarget wG_addTarget (xR 1) D xCl tys A [.ref (ad k), .int pa, .int di, .int ki] ws (fun r ws1 => x_fr k (k + 9) ws ws1 ∧ r = (tgtS g pa di ki).1 ∧ GraphAt cI ad ws1 k (tgtS g pa di ki).2) := by
  obtain ⟨F, ⟨h0, h1, h2, h3, h4, h5, h6, h7, h8⟩, hR⟩ := id hG
  obtain ⟨⟨hle, hok1, hok2, hok3⟩, hr1, hr2, hr3, hr4, hr5, hr6, hr7⟩ := id hR
  refine x_enter (by decide) rfl (Nat.le_of_ble_eq_true rfl) (fun p e s m args below meth c ls hx hb hr hlk hml hown hnm hts hK hP hD hS hA hN hl => ?_)
  have hl : lv_has ls 6 [(0, .ref (ad k)), (1, .int pa), (2, .int di), (3, .int ki)] := hl
  refine lv_aload_n hx hb dG_addTarget_0 rfl (lv_at hl 0 rfl) ?_
  refine va_get (D := D) (cl := xCl) (ci := 0) (v := .int (nI g.length)) (C := rnG) (T := tbG) (N := 9) hx hb hts inG hown hK hP k h0 rfl 8 (by decide) (hts _ tw_37) (fun _ h9 => h9) rfl dG_addTarget_1 ?_
  refine lv_bipush (v := 30) hx hb dG_addTarget_4 (by decide) ?_
  refine lv_icmp_ge (tgt := 35) hx hb dG_addTarget_6 (by decide) (fun c6 => ?_) (fun c6 => ?_)
  · refine lv_iconst (v := (-1)) hx hb dG_addTarget_35 (by decide) ?_
    exact x_iret hx hb hr hlk hK hP hD hS dG_addTarget_36 ⟨x_fr.rf, by rw [tgtS_no (fun hc => absurd hc.1 (by have c6 : nI 30 ≤ nI g.length := c6; rw [nI_leI (by omega) (by omega)] at c6; omega))], by rw [tgtS_no (fun hc => absurd hc.1 (by have c6 : nI 30 ≤ nI g.length := c6; rw [nI_leI (by omega) (by omega)] at c6; omega))]; exact hG⟩
  · have hll : g.length < 30 := by have c6 : ¬ nI 30 ≤ nI g.length := c6; rw [nI_leI (by omega) (by omega)] at c6; omega
    refine lv_iload_n hx hb dG_addTarget_9 rfl (lv_at hl 1 rfl) ?_
    refine lv_bipush (v := 6) hx hb dG_addTarget_10 (by decide) ?_
    refine x_calli (x_runS (n := 2) (As := [.int pa, .int 6]) (rest := []) ⟨hx, hb, hml, hown, hts⟩ (cG_below l D tys A ws pa 6) tw_178 tw_179 tw_2 tw_180 (by decide +kernel) rfl rfl ⟨by decide, by decide⟩ ⟨Nat.zero_le _, Nat.zero_le _⟩ hK hP hD hS hA hN rfl hl.1 rfl (lv_room (Nat.le_of_ble_eq_true rfl)) dG_addTarget_12) hS (fun rhb1 ws_1 H locs hb1 hP hD hS => ?_)
    obtain ⟨hb1, rfl⟩ := hb1
    refine lv_if_eq (tgt := 35) hx hb dG_addTarget_15 (by decide) (fun c15 => ?_) (fun c15 => ?_)
    · refine lv_iconst (v := (-1)) hx hb dG_addTarget_35 (by decide) ?_
      exact x_iret hx hb hr hlk hK hP hD hS dG_addTarget_36 ⟨x_fr.rf, by rw [tgtS_no (fun hc => blw_no (n := 6) (by omega) hb1 c15 hc.2.1)], by rw [tgtS_no (fun hc => blw_no (n := 6) (by omega) hb1 c15 hc.2.1)]; exact hG⟩
    · refine lv_iload_n hx hb dG_addTarget_18 rfl (lv_at hl 2 rfl) ?_
      refine lv_bipush (v := 10) hx hb dG_addTarget_19 (by decide) ?_
      refine x_calli (x_runS (n := 2) (As := [.int di, .int 10]) (rest := []) ⟨hx, hb, hml, hown, hts⟩ (cG_below l D tys A ws di 10) tw_178 tw_179 tw_2 tw_180 (by decide +kernel) rfl rfl ⟨by decide, by decide⟩ ⟨Nat.zero_le _, Nat.zero_le _⟩ hK hP hD hS hA hN rfl hl.1 rfl (lv_room (Nat.le_of_ble_eq_true rfl)) dG_addTarget_21) hS (fun rhb2 ws_2 H locs hb2 hP hD hS => ?_)
      obtain ⟨hb2, rfl⟩ := hb2
      refine lv_if_eq (tgt := 35) hx hb dG_addTarget_24 (by decide) (fun c24 => ?_) (fun c24 => ?_)
      · refine lv_iconst (v := (-1)) hx hb dG_addTarget_35 (by decide) ?_
        exact x_iret hx hb hr hlk hK hP hD hS dG_addTarget_36 ⟨x_fr.rf, by rw [tgtS_no (fun hc => blw_no (n := 10) (by omega) hb2 c24 hc.2.2.1)], by rw [tgtS_no (fun hc => blw_no (n := 10) (by omega) hb2 c24 hc.2.2.1)]; exact hG⟩
      · refine lv_iload_n hx hb dG_addTarget_27 rfl (lv_at hl 3 rfl) ?_
        refine lv_iconst (v := 4) hx hb dG_addTarget_28 (by decide) ?_
        refine x_calli (x_runS (n := 2) (As := [.int ki, .int 4]) (rest := []) ⟨hx, hb, hml, hown, hts⟩ (cG_below l D tys A ws ki 4) tw_178 tw_179 tw_2 tw_180 (by decide +kernel) rfl rfl ⟨by decide, by decide⟩ ⟨Nat.zero_le _, Nat.zero_le _⟩ hK hP hD hS hA hN rfl hl.1 rfl (lv_room (Nat.le_of_ble_eq_true rfl)) dG_addTarget_29) hS (fun rhb3 ws_3 H locs hb3 hP hD hS => ?_)
        obtain ⟨hb3, rfl⟩ := hb3
        refine lv_if_ne (tgt := 37) hx hb dG_addTarget_32 (by decide) (fun c32 => ?_) (fun c32 => ?_)
        · obtain ⟨a, ha, rfl⟩ := blw_of (n := 6) (by omega) hb1 c15
          obtain ⟨b9, hb9, rfl⟩ := blw_of (n := 10) (by omega) hb2 c24
          obtain ⟨c9, hc9, rfl⟩ := blw_of (n := 4) (by omega) hb3 c32
          refine lv_iload_n hx hb dG_addTarget_37 rfl (lv_at hl 1 rfl) ?_
          refine lv_bipush (v := 10) hx hb dG_addTarget_38 (by decide) ?_
          refine lv_imul hx hb dG_addTarget_40 ?_
          refine lv_topi (fun v_4 ev_4 => ?_)
          refine lv_iload_n hx hb dG_addTarget_41 rfl (lv_at hl 2 rfl) ?_
          refine lv_iadd hx hb dG_addTarget_42 ?_
          refine lv_topi (fun v_5 ev_5 => ?_)
          obtain rfl : v_5 = nI (a * 10 + b9) := by rw [ev_5, ev_4, show (10 : Int32) = nI 10 from rfl, pk_mul, nI_add]
          refine lv_istore (lv' := [(4, .int (nI (a * 10 + b9))), (0, .ref (ad k)), (1, .int (nI a)), (2, .int (nI b9)), (3, .int (nI c9))]) hx hb dG_addTarget_43 hl (by decide) rfl (fun ls hl => ?_)
          refine lv_aload_n hx hb dG_addTarget_45 rfl (lv_at hl 1 rfl) ?_
          refine va_get (D := D) (cl := xCl) (ci := 0) (v := .ref (ad (k + 3))) (C := rnG) (T := tbG) (N := 9) hx hb hts inG hown hK hP k h0 rfl 2 (by decide) (hts _ tw_31) (fun _ h9 => h9) rfl dG_addTarget_46 ?_
          refine lv_iload hx hb dG_addTarget_49 (lv_at hl 0 rfl) ?_
          refine va_iald hx hb hK hP (k + 3) 0 h3 hI (vp_in_nI (by omega) (by omega)) dG_addTarget_51 ?_
          refine lv_topi (fun v_6 ev_6 => ?_)
          refine lv_iconst (v := (-1)) hx hb dG_addTarget_52 (by decide) ?_
          refine lv_icmp_eq (tgt := 58) hx hb dG_addTarget_53 (by decide) (fun c53 => ?_) (fun c53 => ?_)
          · have hno : gNum g (a * 10 + b9) = none := by rw [ev_6, nI_clamp (by omega), hr3 _ (by omega), gNo_none hle] at c53; exact c53
            refine lv_aload_n hx hb dG_addTarget_58 rfl (lv_at hl 1 rfl) ?_
            refine va_get (D := D) (cl := xCl) (ci := 0) (v := .int (nI g.length)) (C := rnG) (T := tbG) (N := 9) hx hb hts inG hown hK hP k h0 rfl 8 (by decide) (hts _ tw_37) (fun _ h9 => h9) rfl dG_addTarget_59 ?_
            refine lv_istore (lv' := [(5, .int (nI g.length)), (4, .int (nI (a * 10 + b9))), (0, .ref (ad k)), (1, .int (nI a)), (2, .int (nI b9)), (3, .int (nI c9))]) hx hb dG_addTarget_62 hl (by decide) rfl (fun ls hl => ?_)
            refine lv_aload_n hx hb dG_addTarget_64 rfl (lv_at hl 2 rfl) ?_
            refine va_get (D := D) (cl := xCl) (ci := 0) (v := .ref (ad (k + 3))) (C := rnG) (T := tbG) (N := 9) hx hb hts inG hown hK hP k h0 rfl 2 (by decide) (hts _ tw_31) (fun _ h9 => h9) rfl dG_addTarget_65 ?_
            refine lv_iload hx hb dG_addTarget_68 (lv_at hl 1 rfl) ?_
            refine lv_iload hx hb dG_addTarget_70 (lv_at hl 0 rfl) ?_
            refine va_iast hx hb hK hP hD hS (k + 3) 0 h3 hI (vp_in_nI (by omega) (by omega)) dG_addTarget_72 (fun H locs hP hD hS => ?_)
            obtain ⟨ws_8, hu_7, hP, hD⟩ := x_gen h3 hP hD
            have h_9 : ws_8[k + 3]? = some (ad (k + 3), .inl (cI, 60, .inl (upd (F 3) ((nI (a * 10 + b9))).toNatClampNeg ((nI g.length))))) := hu_7.1
            have h_10 := (hu_7.2 k (by omega)).trans h0
            have h_11 := (hu_7.2 (k + 1) (by omega)).trans h1
            have h_12 := (hu_7.2 (k + 2) (by omega)).trans h2
            have h_13 := (hu_7.2 (k + 4) (by omega)).trans h4
            have h_14 := (hu_7.2 (k + 5) (by omega)).trans h5
            have h_15 := (hu_7.2 (k + 6) (by omega)).trans h6
            have h_16 := (hu_7.2 (k + 7) (by omega)).trans h7
            have h_17 := (hu_7.2 (k + 8) (by omega)).trans h8
            refine lv_aload_n hx hb dG_addTarget_73 rfl (lv_at hl 2 rfl) ?_
            refine va_get (D := D) (cl := xCl) (ci := 0) (v := .ref (ad (k + 1))) (C := rnG) (T := tbG) (N := 9) hx hb hts inG hown hK hP k h_10 rfl 0 (by decide) (hts _ tw_29) (fun _ h9 => h9) rfl dG_addTarget_74 ?_
            refine lv_iload hx hb dG_addTarget_77 (lv_at hl 0 rfl) ?_
            refine lv_iload hx hb dG_addTarget_79 (lv_at hl 1 rfl) ?_
            refine va_iast hx hb hK hP hD hS (k + 1) 0 h_11 hI (vp_in_nI (by omega) (by omega)) dG_addTarget_81 (fun H locs hP hD hS => ?_)
            obtain ⟨ws_19, hu_18, hP, hD⟩ := x_gen h_11 hP hD
            have h_20 : ws_19[k + 1]? = some (ad (k + 1), .inl (cI, 30, .inl (upd (F 1) ((nI g.length)).toNatClampNeg ((nI (a * 10 + b9)))))) := hu_18.1
            have h_21 := (hu_18.2 k (by omega)).trans h_10
            have h_22 := (hu_18.2 (k + 2) (by omega)).trans h_12
            have h_23 := (hu_18.2 (k + 3) (by omega)).trans h_9
            have h_24 := (hu_18.2 (k + 4) (by omega)).trans h_13
            have h_25 := (hu_18.2 (k + 5) (by omega)).trans h_14
            have h_26 := (hu_18.2 (k + 6) (by omega)).trans h_15
            have h_27 := (hu_18.2 (k + 7) (by omega)).trans h_16
            have h_28 := (hu_18.2 (k + 8) (by omega)).trans h_17
            refine lv_aload_n hx hb dG_addTarget_82 rfl (lv_at hl 2 rfl) ?_
            refine va_get (D := D) (cl := xCl) (ci := 0) (v := .ref (ad (k + 2))) (C := rnG) (T := tbG) (N := 9) hx hb hts inG hown hK hP k h_21 rfl 1 (by decide) (hts _ tw_30) (fun _ h9 => h9) rfl dG_addTarget_83 ?_
            refine lv_iload hx hb dG_addTarget_86 (lv_at hl 0 rfl) ?_
            refine lv_iload_n hx hb dG_addTarget_88 rfl (lv_at hl 5 rfl) ?_
            refine va_iast hx hb hK hP hD hS (k + 2) 0 h_22 hI (vp_in_nI (by omega) (by omega)) dG_addTarget_89 (fun H locs hP hD hS => ?_)
            obtain ⟨ws_30, hu_29, hP, hD⟩ := x_gen h_22 hP hD
            have h_31 : ws_30[k + 2]? = some (ad (k + 2), .inl (cI, 30, .inl (upd (F 2) ((nI g.length)).toNatClampNeg ((nI c9))))) := hu_29.1
            have h_32 := (hu_29.2 k (by omega)).trans h_21
            have h_33 := (hu_29.2 (k + 1) (by omega)).trans h_20
            have h_34 := (hu_29.2 (k + 3) (by omega)).trans h_23
            have h_35 := (hu_29.2 (k + 4) (by omega)).trans h_24
            have h_36 := (hu_29.2 (k + 5) (by omega)).trans h_25
            have h_37 := (hu_29.2 (k + 6) (by omega)).trans h_26
            have h_38 := (hu_29.2 (k + 7) (by omega)).trans h_27
            have h_39 := (hu_29.2 (k + 8) (by omega)).trans h_28
            refine lv_aload_n hx hb dG_addTarget_90 rfl (lv_at hl 2 rfl) ?_
            refine lv_dup hx hb dG_addTarget_91 rfl ?_
            refine va_get (D := D) (cl := xCl) (ci := 0) (v := .int (nI g.length)) (C := rnG) (T := tbG) (N := 9) hx hb hts inG hown hK hP k h_32 rfl 8 (by decide) (hts _ tw_37) (fun _ h9 => h9) rfl dG_addTarget_92 ?_
            refine lv_iconst (v := 1) hx hb dG_addTarget_95 (by decide) ?_
            refine lv_iadd hx hb dG_addTarget_96 ?_
            refine lv_topi (fun v_40 ev_40 => ?_)
            refine va_put (D := D) (cl := xCl) (ci := 0) (v := .int v_40) (ty := .int) (C := rnG) (T := tbG) (N := 9) hx hb hts inG tyG toG nmG hown hK hP hD hS k h_32 rfl 8 (by decide) (hts _ tw_37) (fun _ h9 => h9) rfl (by decide +kernel) rfl rfl (Nat.le_of_ble_eq_true rfl) dG_addTarget_97 (fun H locs hP hD hS => ?_)
            obtain ⟨ws_42, hu_41, hP, hD⟩ := x_gen h_32 hP hD
            have h_43 : ws_42[k]? = some (ad k, .inr (0, [.ref (ad (k + 1)), .ref (ad (k + 2)), .ref (ad (k + 3)), .ref (ad (k + 4)), .ref (ad (k + 5)), .ref (ad (k + 6)), .ref (ad (k + 7)), .ref (ad (k + 8)), .int v_40])) := hu_41.1
            have h_44 := (hu_41.2 (k + 1) (by omega)).trans h_33
            have h_45 := (hu_41.2 (k + 2) (by omega)).trans h_31
            have h_46 := (hu_41.2 (k + 3) (by omega)).trans h_34
            have h_47 := (hu_41.2 (k + 4) (by omega)).trans h_35
            have h_48 := (hu_41.2 (k + 5) (by omega)).trans h_36
            have h_49 := (hu_41.2 (k + 6) (by omega)).trans h_37
            have h_50 := (hu_41.2 (k + 7) (by omega)).trans h_38
            have h_51 := (hu_41.2 (k + 8) (by omega)).trans h_39
            refine lv_iload hx hb dG_addTarget_100 (lv_at hl 0 rfl) ?_
            exact x_iret hx hb hr hlk hK hP hD hS dG_addTarget_102 ⟨((((hu_7.fr (a := k) (b := k + 9) (by omega) (by omega)).tr (hu_18.fr (a := k) (b := k + 9) (by omega) (by omega))).tr (hu_29.fr (a := k) (b := k + 9) (by omega) (by omega))).tr (hu_41.fr (a := k) (b := k + 9) (by omega) (by omega))), by rw [tgtS_yes hll ha hb9 hc9 hno], by rw [tgtS_yes hll ha hb9 hc9 hno]; exact ⟨setF (setF (setF F 3 (upd (F 3) ((nI (a * 10 + b9))).toNatClampNeg ((nI g.length)))) 1 (upd (F 1) ((nI g.length)).toNatClampNeg ((nI (a * 10 + b9))))) 2 (upd (F 2) ((nI g.length)).toNatClampNeg ((nI c9))), ⟨by rw [gApp_len, ← nI_1, ← ev_40]; exact h_43, h_44, h_45, h_46, h_47, h_48, h_49, h_50, h_51⟩, GrRel.app hR hll (by omega) hc9 hno (by show upd _ _ _ = _; rw [nI_clamp (by omega)]) (by show upd _ _ _ = _; rw [nI_clamp (by omega)]) (by show upd _ _ _ = _; rw [nI_clamp (by omega)]) rfl rfl rfl rfl⟩⟩
          · refine lv_iconst (v := (-1)) hx hb dG_addTarget_56 (by decide) ?_
            exact x_iret hx hb hr hlk hK hP hD hS dG_addTarget_57 ⟨x_fr.rf, by rw [tgtS_no (fun hc => c53 (by rw [ev_6, nI_clamp (by omega), hr3 _ (by omega), gNo_none hle]; have q := hc.2.2.2.2; rw [nI_toInt (by omega), nI_toInt (by omega)] at q; simpa using q))], by rw [tgtS_no (fun hc => c53 (by rw [ev_6, nI_clamp (by omega), hr3 _ (by omega), gNo_none hle]; have q := hc.2.2.2.2; rw [nI_toInt (by omega), nI_toInt (by omega)] at q; simpa using q))]; exact hG⟩
        · refine lv_iconst (v := (-1)) hx hb dG_addTarget_35 (by decide) ?_
          exact x_iret hx hb hr hlk hK hP hD hS dG_addTarget_36 ⟨x_fr.rf, by rw [tgtS_no (fun hc => blw_no (n := 4) (by omega) hb3 c32 hc.2.2.2.1)], by rw [tgtS_no (fun hc => blw_no (n := 4) (by omega) hb3 c32 hc.2.2.2.1)]; exact hG⟩
