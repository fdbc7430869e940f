theorem le_of9 {x M : Int32} {n : Nat} (hM : M.toInt = n) (h : ¬ x < 0) (h2 : ¬ M < x) : ∃ j : Nat, j < n + 1 ∧ x = nI j := by
  obtain ⟨j, hj, e⟩ := nI_of2 hM h (by rw [i32_le]; rw [i32_lt] at h2; omega)
  exact ⟨j, by omega, e⟩
theorem MGr.app {g : Gr} {v v1 : Nat → Int32} {F F1 : Nat → Nat → Int32} {a b c : Nat} (h : MGr g v F) (hl : g.length < 30) (ha : a < 6) (hb : b < 10) (hc : c < 4) (hno : gNum g (a * 10 + b) = none) (ev : v1 1 = nI (g.length + 1)) (e1 : F1 1 = upd (F 1) g.length (nI a)) (e2 : F1 2 = upd (F 2) g.length (nI b)) (e3 : F1 3 = upd (F 3) g.length (nI c)) (e4 : F1 4 = F 4) (e5 : F1 5 = F 5) : MGr (gApp g (a * 10 + b) c) v1 F1 := by
  obtain ⟨h1, h2, h3, h4, h5⟩ := h
  refine ⟨h1.app hl (by omega) hc hno, by rw [ev, gApp_len], ?_, ?_, ?_⟩
  · intro t ht
    rw [gApp_len] at ht
    rw [e1, e2, e3, gApp_N, gApp_K]
    unfold upd
    by_cases e : t = g.length
    · rw [if_pos e, if_pos e, if_pos e, if_neg (by omega), if_pos e, if_neg (by omega), if_pos e, show (a * 10 + b) / 10 = a by omega, show (a * 10 + b) % 10 = b by omega]; exact ⟨rfl, rfl, rfl⟩
    · have e2 : t < g.length := by omega
      rw [if_pos e2, if_pos e2, if_neg e, if_neg e, if_neg e]; exact h3 t e2
  · intro t ht
    rw [gApp_D, e4]; exact h4 t ht
  · intro t i ht hi
    rw [gApp_D] at hi ⊢
    rw [e5]; exact h5 t i ht hi
theorem MGr.nd {g : Gr} {v v1 : Nat → Int32} {F F1 : Nat → Nat → Int32} {t o : Nat} (h : MGr g v F) (ht : t < g.length) (ho : o < g.length) (hm : o ∉ gD g t) (h8 : (gD g t).length < 8) (ev : v1 1 = v 1) (e1 : F1 1 = F 1) (e2 : F1 2 = F 2) (e3 : F1 3 = F 3) (e4 : F1 4 = upd (F 4) t (nI ((gD g t).length + 1))) (e5 : F1 5 = upd (F 5) (8 * t + (gD g t).length) (nI o)) : MGr (gNd g t o) v1 F1 := by
  obtain ⟨h1, h2, h3, h4, h5⟩ := h
  have hle := h1.1
  refine ⟨h1.nd ht ho hm h8, by rw [ev, gNd_len]; exact h2, ?_, ?_, ?_⟩
  · intro u hu
    rw [gNd_len] at hu
    rw [e1, e2, e3, gNd_N g ht, gNd_K g ht]; exact h3 u hu
  · intro u hu
    rw [e4, gNd_D g ht]
    unfold upd
    by_cases e : u = t
    · rw [if_pos e, if_pos e, List.length_append]; rfl
    · rw [if_neg e, if_neg e]; exact h4 u hu
  · intro u i hu hi
    rw [gNd_D g ht] at hi ⊢
    rw [e5]
    unfold upd
    by_cases e : u = t
    · rw [if_pos e] at hi ⊢
      rw [List.length_append] at hi
      simp only [List.length_singleton] at hi
      subst e
      by_cases e9 : i = (gD g u).length
      · rw [if_pos (by omega), e9]; simp
      · rw [if_neg (by omega), h5 u i hu (by omega)]
        congr 1
        rw [List.getD_eq_getElem?_getD, List.getD_eq_getElem?_getD, List.getElem?_append_left (by omega)]
    · rw [if_neg e] at hi ⊢
      have := (h1.2.2.2 u).2.1
      rw [if_neg (by omega)]; exact h5 u i hu hi

set_option maxHeartbeats 4000000 in
set_option maxRecDepth 100000 in
theorem cM_target (l : Launch) (D : va_G) (tys : List (ClassId × FieldType)) (A : Nat → Prop) (ws : va_W) (cI : ClassId) (hI : tys[0]? = some (cI, .int)) (ad : Nat → Nat) (km : Nat) (v : Nat → Int32) (F : Nat → Nat → Int32) (q : QS) (hR : MR q v F) (pa di ki : Int32) (hM : ModF cI ad ws km v F) : x_Mi l yM_target wM_target (xR 1) D xCl tys A [.ref (ad km), .int pa, .int di, .int ki] ws (fun r ws1 => r = (tgtS q.1 pa di ki).1 ∧ x_fr km (km + 24) ws ws1 ∧ ModelAt cI ad ws1 km ((tgtS q.1 pa di ki).2, q.2)) := by
  have hF : x_fr km (km + 24) ws ws := x_fr.rf
  obtain ⟨⟨hg1, hg2, hg3, hg4, hg5⟩, hRr⟩ := id hR
  have hle := hg1.1
  refine x_enter (by decide) rfl (Nat.le_of_ble_eq_true rfl) (fun p e s m args below meth c ls hx hb hr hlk hml hown hnm hts hK hP hD hS hA hN hl => ?_)
  have hl : lv_has ls 4 [(0, .ref (ad km)), (1, .int pa), (2, .int di), (3, .int ki)] := hl
  refine lv_aload_n hx hb dM_target_0 rfl (lv_at hl 0 rfl) ?_
  refine lv_iconst (v := 0) hx hb dM_target_1 (by decide) ?_
  refine va_put (D := D) (cl := xCl) (ci := 7) (v := .int 0) (ty := .int) (C := rnM) (T := tbM) (N := 39) hx hb hts inM tyM toM nmM hown hK hP hD hS km hM.1 rfl 0 (by decide) (hts _ tw_617) (fun _ h9 => h9) rfl (by decide +kernel) rfl rfl (Nat.le_of_ble_eq_true rfl) dM_target_2 (fun H locs hP hD hS => ?_)
  obtain ⟨ws_2, hu_1, hP, hD⟩ := x_gen hM.1 hP hD
  have hM : ModF cI ad ws_2 km (setV v 0 0) F := hM.fld_0 hu_1
  have hF := hF.tr (hu_1.fr (a := km) (b := km + 24) (by omega) (by omega))
  refine lv_aload_n hx hb dM_target_5 rfl (lv_at hl 0 rfl) ?_
  refine va_get (D := D) (cl := xCl) (ci := 7) (v := .int (v 1)) (C := rnM) (T := tbM) (N := 39) hx hb hts inM hown hK hP km hM.1 rfl 1 (by decide) (hts _ tw_618) (fun _ h9 => h9) rfl dM_target_6 ?_
  refine lv_bipush (v := 30) hx hb dM_target_9 (by decide) ?_
  refine lv_icmp_eq (tgt := 52) hx hb dM_target_11 (by decide) (fun c11 => ?_) (fun c11 => ?_)
  · refine lv_iconst (v := (-1)) hx hb dM_target_52 (by decide) ?_
    exact x_iret hx hb hr hlk hK hP hD hS dM_target_53 ⟨by rw [tgtS_no (fun hc => by have z : nI q.1.length = nI 30 := (by rw [← hg2]; exact c11); rw [nI_eq (by omega) (by omega)] at z; have := hc.1; omega)], hF, _, _, hM, by rw [tgtS_no (fun hc => by have z : nI q.1.length = nI 30 := (by rw [← hg2]; exact c11); rw [nI_eq (by omega) (by omega)] at z; have := hc.1; omega)]; exact hR⟩
  · refine lv_iload_n hx hb dM_target_14 rfl (lv_at hl 1 rfl) ?_
    refine lv_if_lt (tgt := 52) hx hb dM_target_15 (by decide) (fun c15 => ?_) (fun c15 => ?_)
    · refine lv_iconst (v := (-1)) hx hb dM_target_52 (by decide) ?_
      exact x_iret hx hb hr hlk hK hP hD hS dM_target_53 ⟨by rw [tgtS_no (fun hc => by rw [i32_lt, i32_0] at c15; have := hc.2.1; omega)], hF, _, _, hM, by rw [tgtS_no (fun hc => by rw [i32_lt, i32_0] at c15; have := hc.2.1; omega)]; exact hR⟩
    · refine lv_iload_n hx hb dM_target_18 rfl (lv_at hl 1 rfl) ?_
      refine lv_iconst (v := 5) hx hb dM_target_19 (by decide) ?_
      refine lv_icmp_gt (tgt := 52) hx hb dM_target_20 (by decide) (fun c20 => ?_) (fun c20 => ?_)
      · refine lv_iconst (v := (-1)) hx hb dM_target_52 (by decide) ?_
        exact x_iret hx hb hr hlk hK hP hD hS dM_target_53 ⟨by rw [tgtS_no (fun hc => by rw [i32_lt, show (5 : Int32).toInt = 5 from rfl] at c20; have := hc.2.1; omega)], hF, _, _, hM, by rw [tgtS_no (fun hc => by rw [i32_lt, show (5 : Int32).toInt = 5 from rfl] at c20; have := hc.2.1; omega)]; exact hR⟩
      · refine lv_iload_n hx hb dM_target_23 rfl (lv_at hl 2 rfl) ?_
        refine lv_if_lt (tgt := 52) hx hb dM_target_24 (by decide) (fun c24 => ?_) (fun c24 => ?_)
        · refine lv_iconst (v := (-1)) hx hb dM_target_52 (by decide) ?_
          exact x_iret hx hb hr hlk hK hP hD hS dM_target_53 ⟨by rw [tgtS_no (fun hc => by rw [i32_lt, i32_0] at c24; have := hc.2.2.1; omega)], hF, _, _, hM, by rw [tgtS_no (fun hc => by rw [i32_lt, i32_0] at c24; have := hc.2.2.1; omega)]; exact hR⟩
        · refine lv_iload_n hx hb dM_target_27 rfl (lv_at hl 2 rfl) ?_
          refine lv_bipush (v := 9) hx hb dM_target_28 (by decide) ?_
          refine lv_icmp_gt (tgt := 52) hx hb dM_target_30 (by decide) (fun c30 => ?_) (fun c30 => ?_)
          · refine lv_iconst (v := (-1)) hx hb dM_target_52 (by decide) ?_
            exact x_iret hx hb hr hlk hK hP hD hS dM_target_53 ⟨by rw [tgtS_no (fun hc => by rw [i32_lt, show (9 : Int32).toInt = 9 from rfl] at c30; have := hc.2.2.1; omega)], hF, _, _, hM, by rw [tgtS_no (fun hc => by rw [i32_lt, show (9 : Int32).toInt = 9 from rfl] at c30; have := hc.2.2.1; omega)]; exact hR⟩
          · refine lv_iload_n hx hb dM_target_33 rfl (lv_at hl 3 rfl) ?_
            refine lv_if_lt (tgt := 52) hx hb dM_target_34 (by decide) (fun c34 => ?_) (fun c34 => ?_)
            · refine lv_iconst (v := (-1)) hx hb dM_target_52 (by decide) ?_
              exact x_iret hx hb hr hlk hK hP hD hS dM_target_53 ⟨by rw [tgtS_no (fun hc => by rw [i32_lt, i32_0] at c34; have := hc.2.2.2.1; omega)], hF, _, _, hM, by rw [tgtS_no (fun hc => by rw [i32_lt, i32_0] at c34; have := hc.2.2.2.1; omega)]; exact hR⟩
            · refine lv_iload_n hx hb dM_target_37 rfl (lv_at hl 3 rfl) ?_
              refine lv_iconst (v := 3) hx hb dM_target_38 (by decide) ?_
              refine lv_icmp_gt (tgt := 52) hx hb dM_target_39 (by decide) (fun c39 => ?_) (fun c39 => ?_)
              · refine lv_iconst (v := (-1)) hx hb dM_target_52 (by decide) ?_
                exact x_iret hx hb hr hlk hK hP hD hS dM_target_53 ⟨by rw [tgtS_no (fun hc => by rw [i32_lt, show (3 : Int32).toInt = 3 from rfl] at c39; have := hc.2.2.2.1; omega)], hF, _, _, hM, by rw [tgtS_no (fun hc => by rw [i32_lt, show (3 : Int32).toInt = 3 from rfl] at c39; have := hc.2.2.2.1; omega)]; exact hR⟩
              · obtain ⟨a, ha, rfl⟩ := le_of9 (n := 5) rfl c15 c20
                obtain ⟨b9, hb9, rfl⟩ := le_of9 (n := 9) rfl c24 c30
                obtain ⟨c9, hc9, rfl⟩ := le_of9 (n := 3) rfl c34 c39
                have hll : q.1.length < 30 := by have z : ¬ nI q.1.length = nI 30 := (by rw [← hg2]; exact c11); rw [nI_eq (by omega) (by omega)] at z; omega
                refine lv_aload_n hx hb dM_target_42 rfl (lv_at hl 0 rfl) ?_
                refine lv_iload_n hx hb dM_target_43 rfl (lv_at hl 1 rfl) ?_
                refine lv_iload_n hx hb dM_target_44 rfl (lv_at hl 2 rfl) ?_
                refine x_calli (x_runV (n := 2) (As := [.int (nI a), .int (nI b9)]) (rest := []) ⟨hx, hb, hml, hown, hts⟩ (cM_find l D tys A ws_2 cI hI ad km (setV v 0 0) F q.1 hR.1 a b9 ha hb9 hM) tw_739 tw_741 ts_M_find tw_8 tw_742 (by decide +kernel) rfl rfl ⟨by decide, by decide⟩ ⟨Nat.zero_le _, Nat.zero_le _⟩ (va_recv hK hP (ci := 7) (q0 := km) rfl hM.1) hK hP hD hS hA hN rfl hl.1 rfl (lv_room (Nat.le_of_ble_eq_true rfl)) dM_target_45) hS (fun rfi ws_3 H locs hfi hP hD hS => ?_)
                obtain ⟨hfi, rfl⟩ := hfi
                refine lv_iconst (v := (-1)) hx hb dM_target_48 (by decide) ?_
                refine lv_icmp_eq (tgt := 54) hx hb dM_target_49 (by decide) (fun c49 => ?_) (fun c49 => ?_)
                · have hno : gNum q.1 (a * 10 + b9) = none := by rw [hfi, gNo_none hle] at c49; exact c49
                  refine lv_aload_n hx hb dM_target_54 rfl (lv_at hl 0 rfl) ?_
                  refine va_get (D := D) (cl := xCl) (ci := 7) (v := .ref (ad (km + 1))) (C := rnM) (T := tbM) (N := 39) hx hb hts inM hown hK hP km hM.1 rfl 2 (by decide) (hts _ tw_619) (fun _ h9 => h9) rfl dM_target_55 ?_
                  refine lv_aload_n hx hb dM_target_58 rfl (lv_at hl 0 rfl) ?_
                  refine va_get (D := D) (cl := xCl) (ci := 7) (v := .int (v 1)) (C := rnM) (T := tbM) (N := 39) hx hb hts inM hown hK hP km hM.1 rfl 1 (by decide) (hts _ tw_618) (fun _ h9 => h9) rfl dM_target_59 ?_
                  refine lv_iload_n hx hb dM_target_62 rfl (lv_at hl 1 rfl) ?_
                  refine va_iast hx hb hK hP hD hS (km + 1) 0 (hM.a 1 30 rfl (by omega) (by omega)) hI (by show vp_in (v 1) 30; rw [hg2]; exact vp_in_nI (by omega) (by omega)) dM_target_63 (fun H locs hP hD hS => ?_)
                  obtain ⟨ws_5, hu_4, hP, hD⟩ := x_gen (hM.a 1 30 rfl (by omega) (by omega)) hP hD
                  have hM : ModF cI ad ws_5 km (setV v 0 0) (setF F 1 ((upd (F 1) ((v 1)).toNatClampNeg ((nI a))))) := hM.arr 1 30 rfl (by omega) (by omega) hu_4
                  have hF := hF.tr (hu_4.fr (a := km) (b := km + 24) (by omega) (by omega))
                  refine lv_aload_n hx hb dM_target_64 rfl (lv_at hl 0 rfl) ?_
                  refine va_get (D := D) (cl := xCl) (ci := 7) (v := .ref (ad (km + 2))) (C := rnM) (T := tbM) (N := 39) hx hb hts inM hown hK hP km hM.1 rfl 3 (by decide) (hts _ tw_620) (fun _ h9 => h9) rfl dM_target_65 ?_
                  refine lv_aload_n hx hb dM_target_68 rfl (lv_at hl 0 rfl) ?_
                  refine va_get (D := D) (cl := xCl) (ci := 7) (v := .int (v 1)) (C := rnM) (T := tbM) (N := 39) hx hb hts inM hown hK hP km hM.1 rfl 1 (by decide) (hts _ tw_618) (fun _ h9 => h9) rfl dM_target_69 ?_
                  refine lv_iload_n hx hb dM_target_72 rfl (lv_at hl 2 rfl) ?_
                  refine va_iast hx hb hK hP hD hS (km + 2) 0 (hM.a 2 30 rfl (by omega) (by omega)) hI (by show vp_in (v 1) 30; rw [hg2]; exact vp_in_nI (by omega) (by omega)) dM_target_73 (fun H locs hP hD hS => ?_)
                  obtain ⟨ws_7, hu_6, hP, hD⟩ := x_gen (hM.a 2 30 rfl (by omega) (by omega)) hP hD
                  have hM : ModF cI ad ws_7 km (setV v 0 0) (setF (setF F 1 ((upd (F 1) ((v 1)).toNatClampNeg ((nI a))))) 2 ((upd (F 2) ((v 1)).toNatClampNeg ((nI b9))))) := hM.arr 2 30 rfl (by omega) (by omega) hu_6
                  have hF := hF.tr (hu_6.fr (a := km) (b := km + 24) (by omega) (by omega))
                  refine lv_aload_n hx hb dM_target_74 rfl (lv_at hl 0 rfl) ?_
                  refine va_get (D := D) (cl := xCl) (ci := 7) (v := .ref (ad (km + 3))) (C := rnM) (T := tbM) (N := 39) hx hb hts inM hown hK hP km hM.1 rfl 4 (by decide) (hts _ tw_621) (fun _ h9 => h9) rfl dM_target_75 ?_
                  refine lv_aload_n hx hb dM_target_78 rfl (lv_at hl 0 rfl) ?_
                  refine va_get (D := D) (cl := xCl) (ci := 7) (v := .int (v 1)) (C := rnM) (T := tbM) (N := 39) hx hb hts inM hown hK hP km hM.1 rfl 1 (by decide) (hts _ tw_618) (fun _ h9 => h9) rfl dM_target_79 ?_
                  refine lv_iload_n hx hb dM_target_82 rfl (lv_at hl 3 rfl) ?_
                  refine va_iast hx hb hK hP hD hS (km + 3) 0 (hM.a 3 30 rfl (by omega) (by omega)) hI (by show vp_in (v 1) 30; rw [hg2]; exact vp_in_nI (by omega) (by omega)) dM_target_83 (fun H locs hP hD hS => ?_)
                  obtain ⟨ws_9, hu_8, hP, hD⟩ := x_gen (hM.a 3 30 rfl (by omega) (by omega)) hP hD
                  have hM : ModF cI ad ws_9 km (setV v 0 0) (setF (setF (setF F 1 ((upd (F 1) ((v 1)).toNatClampNeg ((nI a))))) 2 ((upd (F 2) ((v 1)).toNatClampNeg ((nI b9))))) 3 ((upd (F 3) ((v 1)).toNatClampNeg ((nI c9))))) := hM.arr 3 30 rfl (by omega) (by omega) hu_8
                  have hF := hF.tr (hu_8.fr (a := km) (b := km + 24) (by omega) (by omega))
                  refine lv_aload_n hx hb dM_target_84 rfl (lv_at hl 0 rfl) ?_
                  refine lv_dup hx hb dM_target_85 rfl ?_
                  refine va_get (D := D) (cl := xCl) (ci := 7) (v := .int (v 1)) (C := rnM) (T := tbM) (N := 39) hx hb hts inM hown hK hP km hM.1 rfl 1 (by decide) (hts _ tw_618) (fun _ h9 => h9) rfl dM_target_86 ?_
                  refine lv_iconst (v := 1) hx hb dM_target_89 (by decide) ?_
                  refine lv_iadd hx hb dM_target_90 ?_
                  refine lv_topi (fun v_10 ev_10 => ?_)
                  obtain rfl := ev_10
                  refine va_put (D := D) (cl := xCl) (ci := 7) (v := .int (v 1 + 1)) (ty := .int) (C := rnM) (T := tbM) (N := 39) hx hb hts inM tyM toM nmM hown hK hP hD hS km hM.1 rfl 1 (by decide) (hts _ tw_618) (fun _ h9 => h9) rfl (by decide +kernel) rfl rfl (Nat.le_of_ble_eq_true rfl) dM_target_91 (fun H locs hP hD hS => ?_)
                  obtain ⟨ws_12, hu_11, hP, hD⟩ := x_gen hM.1 hP hD
                  have hM : ModF cI ad ws_12 km (setV (setV v 0 0) 1 ((v 1 + 1))) (setF (setF (setF F 1 ((upd (F 1) ((v 1)).toNatClampNeg ((nI a))))) 2 ((upd (F 2) ((v 1)).toNatClampNeg ((nI b9))))) 3 ((upd (F 3) ((v 1)).toNatClampNeg ((nI c9))))) := hM.fld_1 hu_11
                  have hF := hF.tr (hu_11.fr (a := km) (b := km + 24) (by omega) (by omega))
                  refine lv_aload_n hx hb dM_target_94 rfl (lv_at hl 0 rfl) ?_
                  refine va_get (D := D) (cl := xCl) (ci := 7) (v := .int (v 1 + 1)) (C := rnM) (T := tbM) (N := 39) hx hb hts inM hown hK hP km hM.1 rfl 1 (by decide) (hts _ tw_618) (fun _ h9 => h9) rfl dM_target_95 ?_
                  refine lv_iconst (v := 1) hx hb dM_target_98 (by decide) ?_
                  refine lv_isub hx hb dM_target_99 ?_
                  refine lv_topi (fun v_13 ev_13 => ?_)
                  exact x_iret hx hb hr hlk hK hP hD hS dM_target_100 ⟨by rw [tgtS_yes hll ha hb9 hc9 hno, ev_13, hg2, nI_1]; exact nI_pred _, hF, _, _, hM, by rw [tgtS_yes hll ha hb9 hc9 hno]; exact ⟨MGr.app (v := v) (F := F) hR.1 hll ha hb9 hc9 hno (by show v 1 + 1 = _; rw [hg2, nI_1]) (by show upd _ _ _ = _; rw [hg2, nI_clamp (by omega)]) (by show upd _ _ _ = _; rw [hg2, nI_clamp (by omega)]) (by show upd _ _ _ = _; rw [hg2, nI_clamp (by omega)]) rfl rfl, hRr⟩⟩
                · refine lv_iconst (v := (-1)) hx hb dM_target_52 (by decide) ?_
                  exact x_iret hx hb hr hlk hK hP hD hS dM_target_53 ⟨by rw [tgtS_no (fun hc => c49 (by rw [hfi, gNo_none hle]; have z := hc.2.2.2.2; rw [nI_toInt (by omega), nI_toInt (by omega)] at z; simpa using z))], hF, _, _, hM, by rw [tgtS_no (fun hc => c49 (by rw [hfi, gNo_none hle]; have z := hc.2.2.2.2; rw [nI_toInt (by omega), nI_toInt (by omega)] at z; simpa using z))]; exact hR⟩

set_option maxHeartbeats 4000000 in
set_option maxRecDepth 100000 in
theorem cM_need (l : Launch) (D : va_G) (tys : List (ClassId × FieldType)) (A : Nat → Prop) (ws : va_W) (cI : ClassId) (hI : tys[0]? = some (cI, .int)) (ad : Nat → Nat) (km : Nat) (v : Nat → Int32) (F : Nat → Nat → Int32) (q : QS) (hR : MR q v F) (tt i : Int32) (hM : ModF cI ad ws km v F) : x_Mi l yM_need wM_need (xR 1) D xCl tys A [.ref (ad km), .int tt, .int i] ws (fun r ws1 => r = gAt q.1 tt i ∧ x_fr km (km + 24) ws ws1 ∧ ModelAt cI ad ws1 km q) := by
  have hF : x_fr km (km + 24) ws ws := x_fr.rf
  obtain ⟨⟨hg1, hg2, hg3, hg4, hg5⟩, hRr⟩ := id hR
  have hle := hg1.1
  refine x_enter (by decide) rfl (Nat.le_of_ble_eq_true rfl) (fun p e s m args below meth c ls hx hb hr hlk hml hown hnm hts hK hP hD hS hA hN hl => ?_)
  have hl : lv_has ls 3 [(0, .ref (ad km)), (1, .int tt), (2, .int i)] := hl
  refine lv_aload_n hx hb dM_need_0 rfl (lv_at hl 0 rfl) ?_
  refine lv_iconst (v := 0) hx hb dM_need_1 (by decide) ?_
  refine va_put (D := D) (cl := xCl) (ci := 7) (v := .int 0) (ty := .int) (C := rnM) (T := tbM) (N := 39) hx hb hts inM tyM toM nmM hown hK hP hD hS km hM.1 rfl 0 (by decide) (hts _ tw_617) (fun _ h9 => h9) rfl (by decide +kernel) rfl rfl (Nat.le_of_ble_eq_true rfl) dM_need_2 (fun H locs hP hD hS => ?_)
  obtain ⟨ws_2, hu_1, hP, hD⟩ := x_gen hM.1 hP hD
  have hM : ModF cI ad ws_2 km (setV v 0 0) F := hM.fld_0 hu_1
  have hF := hF.tr (hu_1.fr (a := km) (b := km + 24) (by omega) (by omega))
  refine lv_aload_n hx hb dM_need_5 rfl (lv_at hl 0 rfl) ?_
  refine lv_iload_n hx hb dM_need_6 rfl (lv_at hl 1 rfl) ?_
  refine x_calli (x_runV (n := 1) (As := [.int tt]) (rest := []) ⟨hx, hb, hml, hown, hts⟩ (cM_isTarget l D tys A ws_2 cI hI ad km (setV v 0 0) F q.1.length tt hg2 hM) tw_747 tw_749 ts_M_isTarget tw_8 tw_750 (by decide +kernel) rfl rfl ⟨by decide, by decide⟩ ⟨Nat.zero_le _, Nat.zero_le _⟩ (va_recv hK hP (ci := 7) (q0 := km) rfl hM.1) hK hP hD hS hA hN rfl hl.1 rfl (lv_room (Nat.le_of_ble_eq_true rfl)) dM_need_7) hS (fun rhb1 ws_3 H locs hb1 hP hD hS => ?_)
  obtain ⟨hb1, rfl⟩ := hb1
  refine lv_if_eq (tgt := 41) hx hb dM_need_10 (by decide) (fun c10 => ?_) (fun c10 => ?_)
  · refine lv_iconst (v := (-1)) hx hb dM_need_41 (by decide) ?_
    exact x_iret hx hb hr hlk hK hP hD hS dM_need_42 ⟨by rw [gAt_noT (blw_no (by omega) hb1 c10)], hF, _, _, hM, hR⟩
  · obtain ⟨ta, hta, rfl⟩ := blw_of (by omega) hb1 c10
    refine lv_iload_n hx hb dM_need_13 rfl (lv_at hl 2 rfl) ?_
    refine lv_if_lt (tgt := 41) hx hb dM_need_14 (by decide) (fun c14 => ?_) (fun c14 => ?_)
    · refine lv_iconst (v := (-1)) hx hb dM_need_41 (by decide) ?_
      exact x_iret hx hb hr hlk hK hP hD hS dM_need_42 ⟨by rw [gAt_no (fun hc => by rw [i32_lt, i32_0] at c14; have := hc.2.1; omega)], hF, _, _, hM, hR⟩
    · refine lv_iload_n hx hb dM_need_17 rfl (lv_at hl 2 rfl) ?_
      refine lv_aload_n hx hb dM_need_18 rfl (lv_at hl 0 rfl) ?_
      refine va_get (D := D) (cl := xCl) (ci := 7) (v := .ref (ad (km + 4))) (C := rnM) (T := tbM) (N := 39) hx hb hts inM hown hK hP km hM.1 rfl 5 (by decide) (hts _ tw_622) (fun _ h9 => h9) rfl dM_need_19 ?_
      refine lv_iload_n hx hb dM_need_22 rfl (lv_at hl 1 rfl) ?_
      refine va_iald hx hb hK hP (km + 4) 0 (hM.a 4 30 rfl (by omega) (by omega)) hI (vp_in_nI (by omega) (by omega)) dM_need_23 ?_
      refine lv_topi (fun v_4 ev_4 => ?_)
      refine lv_icmp_ge (tgt := 41) hx hb dM_need_24 (by decide) (fun c24 => ?_) (fun c24 => ?_)
      · refine lv_iconst (v := (-1)) hx hb dM_need_41 (by decide) ?_
        exact x_iret hx hb hr hlk hK hP hD hS dM_need_42 ⟨by have z8 := (hg1.2.2.2 ta).2.1; rw [ev_4, nI_clamp (by omega), hg4 ta (by omega), i32_le, nI_toInt (by omega)] at c24; rw [gAt_no (fun hc => by have := hc.2.2; rw [nI_toInt (n := ta) (by omega)] at this; simp at this; omega)], hF, _, _, hM, hR⟩
      · have hl8 := (hg1.2.2.2 ta).2.1
        obtain ⟨ib, hib, ei⟩ : ∃ j : Nat, j < (gD q.1 ta).length ∧ i = nI j := ix_of (by omega) c14 (by rw [ev_4, nI_clamp (by omega), hg4 ta (by omega)] at c24; exact c24)
        refine lv_aload_n hx hb dM_need_27 rfl (lv_at hl 0 rfl) ?_
        refine va_get (D := D) (cl := xCl) (ci := 7) (v := .ref (ad (km + 5))) (C := rnM) (T := tbM) (N := 39) hx hb hts inM hown hK hP km hM.1 rfl 6 (by decide) (hts _ tw_623) (fun _ h9 => h9) rfl dM_need_28 ?_
        refine lv_bipush (v := 8) hx hb dM_need_31 (by decide) ?_
        refine lv_iload_n hx hb dM_need_33 rfl (lv_at hl 1 rfl) ?_
        refine lv_imul hx hb dM_need_34 ?_
        refine lv_topi (fun v_5 ev_5 => ?_)
        refine lv_iload_n hx hb dM_need_35 rfl (lv_at hl 2 rfl) ?_
        refine lv_iadd hx hb dM_need_36 ?_
        refine lv_topi (fun v_6 ev_6 => ?_)
        refine va_iald hx hb hK hP (km + 5) 0 (hM.a 5 240 rfl (by omega) (by omega)) hI (by rw [ev_6, ev_5, ei, show (8 : Int32) = nI 8 from rfl, pk_mul, nI_add]; exact vp_in_nI (by omega) (by omega)) dM_need_37 ?_
        refine lv_topi (fun v_7 ev_7 => ?_)
        refine lv_goto (tgt := 42) hx hb dM_need_38 (by decide) ?_
        exact x_iret hx hb hr hlk hK hP hD hS dM_need_42 ⟨by rw [ev_7, ev_6, ev_5, ei, show (8 : Int32) = nI 8 from rfl, pk_mul, nI_add, nI_clamp (by omega), hg5 ta ib (by omega) hib, gAt_nI q.1 (by omega) hib (by omega)], hF, _, _, hM, hR⟩

set_option maxHeartbeats 4000000 in
set_option maxRecDepth 100000 in
theorem cM_needs (l : Launch) (D : va_G) (tys : List (ClassId × FieldType)) (A : Nat → Prop) (ws : va_W) (cI : ClassId) (hI : tys[0]? = some (cI, .int)) (ad : Nat → Nat) (km : Nat) (v : Nat → Int32) (F : Nat → Nat → Int32) (q : QS) (hR : MR q v F) (tt oo : Int32) (hM : ModF cI ad ws km v F) : x_Mi l yM_needs wM_needs (xR 1) D xCl tys A [.ref (ad km), .int tt, .int oo] ws (fun r ws1 => r = (ndS q.1 tt oo).1 ∧ x_fr km (km + 24) ws ws1 ∧ ModelAt cI ad ws1 km ((ndS q.1 tt oo).2, q.2)) := by
  have hF : x_fr km (km + 24) ws ws := x_fr.rf
  obtain ⟨⟨hg1, hg2, hg3, hg4, hg5⟩, hRr⟩ := id hR
  have hle := hg1.1
  refine x_enter (by decide) rfl (Nat.le_of_ble_eq_true rfl) (fun p e s m args below meth c ls hx hb hr hlk hml hown hnm hts hK hP hD hS hA hN hl => ?_)
  have hl : lv_has ls 3 [(0, .ref (ad km)), (1, .int tt), (2, .int oo)] := hl
  refine lv_aload_n hx hb dM_needs_0 rfl (lv_at hl 0 rfl) ?_
  refine lv_iconst (v := 0) hx hb dM_needs_1 (by decide) ?_
  refine va_put (D := D) (cl := xCl) (ci := 7) (v := .int 0) (ty := .int) (C := rnM) (T := tbM) (N := 39) hx hb hts inM tyM toM nmM hown hK hP hD hS km hM.1 rfl 0 (by decide) (hts _ tw_617) (fun _ h9 => h9) rfl (by decide +kernel) rfl rfl (Nat.le_of_ble_eq_true rfl) dM_needs_2 (fun H locs hP hD hS => ?_)
  obtain ⟨ws_2, hu_1, hP, hD⟩ := x_gen hM.1 hP hD
  have hM : ModF cI ad ws_2 km (setV v 0 0) F := hM.fld_0 hu_1
  have hF := hF.tr (hu_1.fr (a := km) (b := km + 24) (by omega) (by omega))
  refine lv_aload_n hx hb dM_needs_5 rfl (lv_at hl 0 rfl) ?_
  refine lv_iload_n hx hb dM_needs_6 rfl (lv_at hl 1 rfl) ?_
  refine x_calli (x_runV (n := 1) (As := [.int tt]) (rest := []) ⟨hx, hb, hml, hown, hts⟩ (cM_isTarget l D tys A ws_2 cI hI ad km (setV v 0 0) F q.1.length tt hg2 hM) tw_747 tw_749 ts_M_isTarget tw_8 tw_750 (by decide +kernel) rfl rfl ⟨by decide, by decide⟩ ⟨Nat.zero_le _, Nat.zero_le _⟩ (va_recv hK hP (ci := 7) (q0 := km) rfl hM.1) hK hP hD hS hA hN rfl hl.1 rfl (lv_room (Nat.le_of_ble_eq_true rfl)) dM_needs_7) hS (fun rhb1 ws_3 H locs hb1 hP hD hS => ?_)
  obtain ⟨hb1, rfl⟩ := hb1
  refine lv_if_eq (tgt := 41) hx hb dM_needs_10 (by decide) (fun c10 => ?_) (fun c10 => ?_)
  · refine lv_iconst (v := 0) hx hb dM_needs_41 (by decide) ?_
    exact x_zret hx hb hr rfl hlk hK hP hD hS dM_needs_42 ⟨by rw [ndS_no (fun hc => blw_no (by omega) hb1 c10 hc.1)], hF, _, _, hM, by rw [ndS_no (fun hc => blw_no (by omega) hb1 c10 hc.1)]; exact hR⟩
  · obtain ⟨ta, hta, rfl⟩ := blw_of (by omega) hb1 c10
    refine lv_aload_n hx hb dM_needs_13 rfl (lv_at hl 0 rfl) ?_
    refine lv_iload_n hx hb dM_needs_14 rfl (lv_at hl 2 rfl) ?_
    refine x_calli (x_runV (n := 1) (As := [.int oo]) (rest := []) ⟨hx, hb, hml, hown, hts⟩ (cM_isTarget l D tys A ws_2 cI hI ad km (setV v 0 0) F q.1.length oo hg2 hM) tw_747 tw_749 ts_M_isTarget tw_8 tw_750 (by decide +kernel) rfl rfl ⟨by decide, by decide⟩ ⟨Nat.zero_le _, Nat.zero_le _⟩ (va_recv hK hP (ci := 7) (q0 := km) rfl hM.1) hK hP hD hS hA hN rfl hl.1 rfl (lv_room (Nat.le_of_ble_eq_true rfl)) dM_needs_15) hS (fun rhb2 ws_4 H locs hb2 hP hD hS => ?_)
    obtain ⟨hb2, rfl⟩ := hb2
    refine lv_if_eq (tgt := 41) hx hb dM_needs_18 (by decide) (fun c18 => ?_) (fun c18 => ?_)
    · refine lv_iconst (v := 0) hx hb dM_needs_41 (by decide) ?_
      exact x_zret hx hb hr rfl hlk hK hP hD hS dM_needs_42 ⟨by rw [ndS_no (fun hc => blw_no (by omega) hb2 c18 hc.2.1)], hF, _, _, hM, by rw [ndS_no (fun hc => blw_no (by omega) hb2 c18 hc.2.1)]; exact hR⟩
    · obtain ⟨ob, hob, rfl⟩ := blw_of (by omega) hb2 c18
      refine lv_aload_n hx hb dM_needs_21 rfl (lv_at hl 0 rfl) ?_
      refine va_get (D := D) (cl := xCl) (ci := 7) (v := .ref (ad (km + 4))) (C := rnM) (T := tbM) (N := 39) hx hb hts inM hown hK hP km hM.1 rfl 5 (by decide) (hts _ tw_622) (fun _ h9 => h9) rfl dM_needs_22 ?_
      refine lv_iload_n hx hb dM_needs_25 rfl (lv_at hl 1 rfl) ?_
      refine va_iald hx hb hK hP (km + 4) 0 (hM.a 4 30 rfl (by omega) (by omega)) hI (vp_in_nI (by omega) (by omega)) dM_needs_26 ?_
      refine lv_topi (fun v_5 ev_5 => ?_)
      refine lv_bipush (v := 8) hx hb dM_needs_27 (by decide) ?_
      refine lv_icmp_eq (tgt := 41) hx hb dM_needs_29 (by decide) (fun c29 => ?_) (fun c29 => ?_)
      · refine lv_iconst (v := 0) hx hb dM_needs_41 (by decide) ?_
        exact x_zret hx hb hr rfl hlk hK hP hD hS dM_needs_42 ⟨by rw [ndS_no (fun hc => by have z8 := (hg1.2.2.2 ta).2.1; rw [ev_5, nI_clamp (by omega), hg4 ta (by omega)] at c29; have z : nI (gD q.1 ta).length = nI 8 := c29; rw [nI_eq (by omega) (by omega)] at z; have := hc.2.2.2; rw [nI_toInt (by omega)] at this; simp at this; omega)], hF, _, _, hM, by rw [ndS_no (fun hc => by have z8 := (hg1.2.2.2 ta).2.1; rw [ev_5, nI_clamp (by omega), hg4 ta (by omega)] at c29; have z : nI (gD q.1 ta).length = nI 8 := c29; rw [nI_eq (by omega) (by omega)] at z; have := hc.2.2.2; rw [nI_toInt (by omega)] at this; simp at this; omega)]; exact hR⟩
      · refine lv_aload_n hx hb dM_needs_32 rfl (lv_at hl 0 rfl) ?_
        refine lv_iload_n hx hb dM_needs_33 rfl (lv_at hl 1 rfl) ?_
        refine lv_iload_n hx hb dM_needs_34 rfl (lv_at hl 2 rfl) ?_
        refine x_calli (x_runV (n := 2) (As := [.int (nI ta), .int (nI ob)]) (rest := []) ⟨hx, hb, hml, hown, hts⟩ (cM_isNeed l D tys A ws_2 cI hI ad km (setV v 0 0) F q.1 hR.1 ta ob (by omega) (by omega) hM) tw_751 tw_753 ts_M_isNeed tw_8 tw_754 (by decide +kernel) rfl rfl ⟨by decide, by decide⟩ ⟨Nat.zero_le _, Nat.zero_le _⟩ (va_recv hK hP (ci := 7) (q0 := km) rfl hM.1) hK hP hD hS hA hN rfl hl.1 rfl (lv_room (Nat.le_of_ble_eq_true rfl)) dM_needs_35) hS (fun rin ws_6 H locs hin hP hD hS => ?_)
        obtain ⟨hin, rfl⟩ := hin
        refine lv_if_eq (tgt := 43) hx hb dM_needs_38 (by decide) (fun c38 => ?_) (fun c38 => ?_)
        · have hnm9 : ob ∉ gD q.1 ta := by rw [hin, b2i_0, decide_eq_false_iff_not] at c38; exact c38
          have h89 : (gD q.1 ta).length < 8 := by have z8 := (hg1.2.2.2 ta).2.1; rw [ev_5, nI_clamp (by omega), hg4 ta (by omega)] at c29; have z : ¬ nI (gD q.1 ta).length = nI 8 := c29; rw [nI_eq (by omega) (by omega)] at z; omega
          refine lv_aload_n hx hb dM_needs_43 rfl (lv_at hl 0 rfl) ?_
          refine va_get (D := D) (cl := xCl) (ci := 7) (v := .ref (ad (km + 5))) (C := rnM) (T := tbM) (N := 39) hx hb hts inM hown hK hP km hM.1 rfl 6 (by decide) (hts _ tw_623) (fun _ h9 => h9) rfl dM_needs_44 ?_
          refine lv_bipush (v := 8) hx hb dM_needs_47 (by decide) ?_
          refine lv_iload_n hx hb dM_needs_49 rfl (lv_at hl 1 rfl) ?_
          refine lv_imul hx hb dM_needs_50 ?_
          refine lv_topi (fun v_7 ev_7 => ?_)
          refine lv_aload_n hx hb dM_needs_51 rfl (lv_at hl 0 rfl) ?_
          refine va_get (D := D) (cl := xCl) (ci := 7) (v := .ref (ad (km + 4))) (C := rnM) (T := tbM) (N := 39) hx hb hts inM hown hK hP km hM.1 rfl 5 (by decide) (hts _ tw_622) (fun _ h9 => h9) rfl dM_needs_52 ?_
          refine lv_iload_n hx hb dM_needs_55 rfl (lv_at hl 1 rfl) ?_
          refine va_iald hx hb hK hP (km + 4) 0 (hM.a 4 30 rfl (by omega) (by omega)) hI (vp_in_nI (by omega) (by omega)) dM_needs_56 ?_
          refine lv_topi (fun v_8 ev_8 => ?_)
          refine lv_iadd hx hb dM_needs_57 ?_
          refine lv_topi (fun v_9 ev_9 => ?_)
          obtain rfl : v_9 = nI (8 * ta + (gD q.1 ta).length) := by rw [ev_9, ev_7, ev_8, nI_clamp (by omega), hg4 ta (by omega), show (8 : Int32) = nI 8 from rfl, pk_mul, nI_add]
          refine lv_iload_n hx hb dM_needs_58 rfl (lv_at hl 2 rfl) ?_
          refine va_iast hx hb hK hP hD hS (km + 5) 0 (hM.a 5 240 rfl (by omega) (by omega)) hI (vp_in_nI (by omega) (by omega)) dM_needs_59 (fun H locs hP hD hS => ?_)
          obtain ⟨ws_11, hu_10, hP, hD⟩ := x_gen (hM.a 5 240 rfl (by omega) (by omega)) hP hD
          have hM : ModF cI ad ws_11 km (setV v 0 0) (setF F 5 ((upd (F 5) ((nI (8 * ta + (gD q.1 ta).length))).toNatClampNeg ((nI ob))))) := hM.arr 5 240 rfl (by omega) (by omega) hu_10
          have hF := hF.tr (hu_10.fr (a := km) (b := km + 24) (by omega) (by omega))
          refine lv_aload_n hx hb dM_needs_60 rfl (lv_at hl 0 rfl) ?_
          refine va_get (D := D) (cl := xCl) (ci := 7) (v := .ref (ad (km + 4))) (C := rnM) (T := tbM) (N := 39) hx hb hts inM hown hK hP km hM.1 rfl 5 (by decide) (hts _ tw_622) (fun _ h9 => h9) rfl dM_needs_61 ?_
          refine lv_iload_n hx hb dM_needs_64 rfl (lv_at hl 1 rfl) ?_
          refine lv_dup2_11 hx hb dM_needs_65 rfl rfl ?_
          refine va_iald hx hb hK hP (km + 4) 0 (hM.a 4 30 rfl (by omega) (by omega)) hI (vp_in_nI (by omega) (by omega)) dM_needs_66 ?_
          refine lv_topi (fun v_12 ev_12 => ?_)
          refine lv_iconst (v := 1) hx hb dM_needs_67 (by decide) ?_
          refine lv_iadd hx hb dM_needs_68 ?_
          refine lv_topi (fun v_13 ev_13 => ?_)
          obtain rfl : v_13 = nI ((gD q.1 ta).length + 1) := by rw [ev_13, ev_12]; show F 4 _ + 1 = _; rw [nI_clamp (by omega), hg4 ta (by omega), nI_1]
          refine va_iast hx hb hK hP hD hS (km + 4) 0 (hM.a 4 30 rfl (by omega) (by omega)) hI (vp_in_nI (by omega) (by omega)) dM_needs_69 (fun H locs hP hD hS => ?_)
          obtain ⟨ws_15, hu_14, hP, hD⟩ := x_gen (hM.a 4 30 rfl (by omega) (by omega)) hP hD
          have hM : ModF cI ad ws_15 km (setV v 0 0) (setF (setF F 5 ((upd (F 5) ((nI (8 * ta + (gD q.1 ta).length))).toNatClampNeg ((nI ob))))) 4 ((upd (F 4) ((nI ta)).toNatClampNeg ((nI ((gD q.1 ta).length + 1)))))) := hM.arr 4 30 rfl (by omega) (by omega) hu_14
          have hF := hF.tr (hu_14.fr (a := km) (b := km + 24) (by omega) (by omega))
          refine lv_iconst (v := 1) hx hb dM_needs_70 (by decide) ?_
          exact x_zret hx hb hr rfl hlk hK hP hD hS dM_needs_71 ⟨by rw [ndS_yes hle hta hob hnm9 h89], hF, _, _, hM, by rw [ndS_yes hle hta hob hnm9 h89]; exact ⟨MGr.nd (v := v) (F := F) hR.1 hta hob hnm9 h89 rfl rfl rfl rfl (by show upd _ _ _ = _; rw [nI_clamp (by omega)]) (by show upd _ _ _ = _; rw [nI_clamp (by omega)]), hRr⟩⟩
        · refine lv_iconst (v := 0) hx hb dM_needs_41 (by decide) ?_
          exact x_zret hx hb hr rfl hlk hK hP hD hS dM_needs_42 ⟨by rw [ndS_no (fun hc => by rw [hin, b2i_n0, decide_eq_true_eq] at c38; have := hc.2.2.1; rw [nI_toInt (by omega), nI_toInt (by omega)] at this; exact this (by simpa using c38))], hF, _, _, hM, by rw [ndS_no (fun hc => by rw [hin, b2i_n0, decide_eq_true_eq] at c38; have := hc.2.2.1; rw [nI_toInt (by omega), nI_toInt (by omega)] at this; exact this (by simpa using c38))]; exact hR⟩
