-- ===== the model's next() =====
/-- the fields hold the token that is read from e0 on -/
def NxV (cs : List Nat) (v : Nat → Int32) (e0 : Nat) : Prop := v 9 = (tokA cs e0).1.1 ∧ v 10 = (tokA cs e0).1.2.2 ∧ v 11 = nI (tokA cs e0).2 ∧ (((tokA cs e0).1.1 = 2 ∨ (tokA cs e0).1.1 = 3 ∨ (tokA cs e0).1.1 = 4) → v 12 = (tokA cs e0).1.2.1)
theorem nx_end {cs : List Nat} {e0 a : Nat} (ha : spE isBl cs e0 = a) (h : a = cs.length) : tokA cs e0 = ((0, 0, nI a), a) := by
  unfold tokA tokF
  rw [ha, if_neg (by omega)]
theorem nx_sign {cs : List Nat} {e0 a : Nat} {K : Int32} (ha : spE isBl cs e0 = a) (h : a < cs.length) (hr : ¬ isRw (chN cs a) = true) (hK : K = if isSg (chN cs a) = true then nI (chN cs a) else 1) : tokA cs e0 = ((K, 0, nI a), a + 1) := by
  unfold tokA tokF
  rw [ha, if_pos h, if_neg hr, hK]
theorem nx_row {cs : List Nat} {e0 a b : Nat} (ha : spE isBl cs e0 = a) (h : a < cs.length) (hr : isRw (chN cs a) = true) (hb : spE isRw cs a = b) : tokA cs e0 = ((rkF cs a (b - 1), rvF cs (rkF cs a (b - 1)) a (b - 1), nI a), b) := by
  unfold tokA tokF
  rw [ha, if_pos h, if_pos hr, hb]
theorem sgK {K : Int32} (h : K = 2 ∨ K = 3 ∨ K = 4) {w : Nat} (hw : w < 1000) : ¬ (if isSg w = true then nI w else 1) = K := by
  by_cases c : isSg w = true
  · rw [if_pos c]
    unfold isSg at c
    rw [decide_eq_true_eq] at c
    rcases h with rfl | rfl | rfl
    · rw [show (2 : Int32) = nI 2 from rfl, nI_eq (by omega) (by omega)]; omega
    · rw [show (3 : Int32) = nI 3 from rfl, nI_eq (by omega) (by omega)]; omega
    · rw [show (4 : Int32) = nI 4 from rfl, nI_eq (by omega) (by omega)]; omega
  · rw [if_neg c]; rcases h with rfl | rfl | rfl <;> decide
theorem sg_of {w : Nat} (h : w = 40 ∨ w = 41 ∨ w = 44 ∨ w = 61 ∨ w = 43 ∨ w = 45 ∨ w = 38) : isSg w = true := by unfold isSg; exact decide_eq_true h
theorem sg_no {w : Nat} (h : ¬ (w = 40 ∨ w = 41 ∨ w = 44 ∨ w = 61 ∨ w = 43 ∨ w = 45 ∨ w = 38)) : ¬ isSg w = true := by unfold isSg; rw [decide_eq_true_eq]; exact h
theorem NxV.z {cs : List Nat} {v : Nat → Int32} {e0 a b : Nat} {K x : Int32} (h : tokA cs e0 = ((K, x, nI a), b)) (h9 : v 9 = K) (h10 : v 10 = nI a) (h11 : v 11 = nI b) (h12 : (K = 2 ∨ K = 3 ∨ K = 4) → v 12 = x) : NxV cs v e0 := by
  unfold NxV
  rw [h]
  exact ⟨h9, h10, h11, h12⟩
theorem dv_2 {c d k : Nat} (hk : k ≤ c) (hd : 48 ≤ d) : 10 * (nI c - nI k) + (nI d - 48) = nI ((c - k) * 10 + (d - 48)) := by
  rw [pk_sub hk, show (48 : Int32) = nI 48 from rfl, pk_sub hd, show (10 : Int32) = nI 10 from rfl, pk_mul, nI_add, Nat.mul_comm]
theorem dv_3 {c d k : Nat} (hk : k ≤ c) (hd : 48 ≤ d) : 10 * (nI c - nI k) + (nI d - 48) = (nI c - nI k) * 10 + nI d - 48 := (dv_2 hk hd).trans (dv_1 hk hd).symm
theorem NxV.sg {cs : List Nat} {v : Nat → Int32} {e0 a : Nat} (ha : spE isBl cs e0 = a) (h : a < cs.length) (hr : ¬ isRw (chN cs a) = true) (hc : chN cs a < 1000) (h9 : v 9 = if isSg (chN cs a) = true then nI (chN cs a) else 1) (h10 : v 10 = nI a) (h11 : v 11 = nI (a + 1)) : NxV cs v e0 :=
  NxV.z (nx_sign ha h hr rfl) h9 h10 h11 (fun z => absurd z (fun z8 => z8.elim (sgK (Or.inl rfl) hc) (fun z6 => z6.elim (sgK (Or.inr (Or.inl rfl)) hc) (sgK (Or.inr (Or.inr rfl)) hc))))
theorem rw_ge {w : Nat} (h : isRw w = true) : 48 ≤ w := by unfold isRw at h; rw [decide_eq_true_eq] at h; omega
/-- all characters of the row are row characters -/
theorem spE_all {p : Nat → Bool} {cs : List Nat} : ∀ (n a : Nat), cs.length - a ≤ n → ∀ j, a ≤ j → j < spE p cs a → p (chN cs j) = true := by
  intro n
  induction n with
  | zero => intro a h j h1 h2; rw [spE_e (fun c => by omega)] at h2; omega
  | succ n ih =>
    intro a h j h1 h2
    by_cases c : a < cs.length ∧ p (chN cs a) = true
    · by_cases e : j = a
      · rw [e]; exact c.2
      · rw [spE_s c.1 c.2] at h2
        exact ih (a + 1) (by omega) j (by omega) h2
    · rw [spE_e c] at h2; omega

theorem vk_s {a : List Nat} {v : Nat → Int32} {j : Nat} {x : Int32} (h : j ∈ a) : vk a v (setV v j x) := fun i hi => if_neg (fun (e : i = j) => hi (by rw [e]; exact h))

set_option maxHeartbeats 4000000 in
set_option maxRecDepth 100000 in
/-- next() -/
theorem cM_next (l : Launch) (D : va_G) (tys : List (ClassId × FieldType)) (A : Nat → Prop) (ws : va_W) (cI : ClassId) (hI : tys[0]? = some (cI, .int)) (ad : Nat → Nat) (km : Nat) (v : Nat → Int32) (F : Nat → Nat → Int32) (cs : List Nat) (htx : MTx cs v F) (e0 : Nat) (he0 : e0 ≤ cs.length) (hv11 : v 11 = nI e0) (hM : ModF cI ad ws km v F) : x_Mv l yM_next wM_next (xR 2) D xCl tys A [.ref (ad km)] ws (fun ws1 => x_fr km (km + 24) ws ws1 ∧ ∃ v9, ModF cI ad ws1 km v9 F ∧ vk [9, 10, 11, 12] v v9 ∧ NxV cs v9 e0) := by
  have hF : x_fr km (km + 24) ws ws := x_fr.rf
  have hle := htx.2.1
  refine x_enter (by decide) rfl (Nat.le_of_ble_eq_true rfl) (fun p e s m args below meth c ls hx hb hr hlk hml hown hnm hts hK hP hD hS hA hN hl => ?_)
  have hl : lv_has ls 4 [(0, .ref (ad km))] := hl
  have loop_361 : ∀ (fu9 : Nat) (a : Nat) (b : Nat) (v1 : Nat → Int32) (ws1 : va_W) (H : Heap) (locs : List Loc) (ls : Array Slot), x_fr km (km + 24) ws ws1 → ModF cI ad ws1 km v1 F → vk [9, 10, 11, 12] v v1 → v1 10 = nI a → v1 11 = nI b → spE isBl cs e0 = a → a < cs.length → isRw (chN cs a) = true → spE isRw cs a = b → rkF cs a (b - 1) = wkF cs a (b - a) → 0 < fu9 → va_P D xCl ws1 H → va_D A ws1 → va_S A s.heap H locs → lv_has ls 4 [(0, .ref (ad km))] → W p l e (xR 2) s m args below meth c H locs 0 0 (MQ below (va_Qv (fun ws1 => x_fr km (km + 24) ws ws1 ∧ ∃ v9, ModF cI ad ws1 km v9 F ∧ vk [9, 10, 11, 12] v v9 ∧ NxV cs v9 e0) (x_B D xCl tys A) A) args s 0 0 A) (F0 m 361 ls []) := by
    intro fu9
    induction fu9 with
    | zero => intro a b v1 ws1 H locs ls hF hM hvk h10 h11 ha hal hra hbe hw9 hme; exact absurd hme (Nat.not_lt_zero _)
    | succ fu9 ih =>
      intro a b v1 ws1 H locs ls hF hM hvk h10 h11 ha hal hra hbe hw9 hme hP hD hS hl
      have hle := htx.2.1
      have hv8 : v1 8 = nI cs.length := by rw [hvk 8 (by simp)]; exact htx.1
      have hc9 := htx.2.2.2
      have hab1 : a < b := by have := spE_s hal hra; have := spE_le isRw cs (a + 1); omega
      have hbl : b ≤ cs.length := by rw [← hbe]; exact spE_ub isRw (by omega)
      have hlast : isRw (chN cs (b - 1)) = true := spE_all _ a (Nat.le_refl _) (b - 1) (by omega) (by omega)
      have hge1 := rw_ge hlast
      have hge0 := rw_ge hra
      have htk := nx_row ha hal hra hbe
      have hca := hc9 a
      have hcb := hc9 (b - 1)
      have hca1 := hc9 (a + 1)
      have htx1 : MTx cs v1 F := ⟨hv8, hle, htx.2.2.1, hc9⟩
      refine lv_aload_n hx hb dM_next_361 rfl (lv_at hl 0 rfl) ?_
      refine lv_aload_n hx hb dM_next_362 rfl (lv_at hl 0 rfl) ?_
      refine x_calli (x_runV (n := 0) (As := []) (rest := [.ref (ad km)]) ⟨hx, hb, hml, hown, hts⟩ (cM_wordToken l D tys A ws1 cI hI ad km v1 F cs htx1 a b (by omega) hbl h10 h11 hM) tw_784 tw_786 ts_M_wordToken tw_8 tw_787 (by decide +kernel) rfl rfl ⟨by decide, by decide⟩ ⟨Nat.zero_le _, Nat.zero_le _⟩ (va_recv hK hP (ci := 7) (q0 := km) rfl hM.1) hK hP hD hS hA hN rfl hl.1 rfl (lv_room (Nat.le_of_ble_eq_true rfl)) dM_next_363) hS (fun rwt ws_1 H locs hwt hP hD hS => ?_)
      obtain ⟨hwt, rfl⟩ := hwt
      refine va_put (D := D) (cl := xCl) (ci := 7) (v := .int rwt) (ty := .int) (C := rnM) (T := tbM) (N := 39) hx hb hts inM tyM toM nmM hown hK hP hD hS km hM.1 rfl 9 (by decide) (hts _ tw_626) (fun _ h9 => h9) rfl (by decide +kernel) rfl rfl (Nat.le_of_ble_eq_true rfl) dM_next_366 (fun H locs hP hD hS => ?_)
      obtain ⟨ws_3, hu_2, hP, hD⟩ := x_gen hM.1 hP hD
      have hM : ModF cI ad ws_3 km (setV v1 9 rwt) F := hM.fld_9 hu_2
      have hF := hF.tr (hu_2.fr (a := km) (b := km + 24) (by omega) (by omega))
      exact x_vret hx hb hr hlk hK hP hD hS dM_next_369 ⟨hF, _, hM, hvk.tr (vk_s (by simp)), NxV.z htk (by show rwt = _; rw [hwt, hw9]) (by exact h10) (by exact h11) (fun z9 => absurd z9 (by rw [hw9]; exact fun z8 => z8.elim (wk_n (Or.inl rfl)) (fun z7 => z7.elim (wk_n (Or.inr (Or.inl rfl))) (wk_n (Or.inr (Or.inr rfl))))))⟩
  have loop_297 : ∀ (fu9 : Nat) (a : Nat) (b : Nat) (v1 : Nat → Int32) (ws1 : va_W) (H : Heap) (locs : List Loc) (ls : Array Slot), x_fr km (km + 24) ws ws1 → ModF cI ad ws1 km v1 F → vk [9, 10, 11, 12] v v1 → v1 10 = nI a → v1 11 = nI b → spE isBl cs e0 = a → a < cs.length → isRw (chN cs a) = true → spE isRw cs a = b → (¬ (b = a + 2 ∧ 97 ≤ chN cs a ∧ chN cs a ≤ 102 ∧ isDg (chN cs (a + 1)) = true)) → (¬ (b = a + 1 ∧ isCp (chN cs a) = true)) → 0 < fu9 → va_P D xCl ws1 H → va_D A ws1 → va_S A s.heap H locs → lv_has ls 4 [(0, .ref (ad km)), (1, .int (nI (chN cs a))), (2, .int (nI (b - a))), (3, .int ((nI (chN cs (b - 1))) - 48))] → W p l e (xR 2) s m args below meth c H locs 0 0 (MQ below (va_Qv (fun ws1 => x_fr km (km + 24) ws ws1 ∧ ∃ v9, ModF cI ad ws1 km v9 F ∧ vk [9, 10, 11, 12] v v9 ∧ NxV cs v9 e0) (x_B D xCl tys A) A) args s 0 0 A) (F0 m 297 ls []) := by
    intro fu9
    induction fu9 with
    | zero => intro a b v1 ws1 H locs ls hF hM hvk h10 h11 ha hal hra hbe h1 h2 hme; exact absurd hme (Nat.not_lt_zero _)
    | succ fu9 ih =>
      intro a b v1 ws1 H locs ls hF hM hvk h10 h11 ha hal hra hbe h1 h2 hme hP hD hS hl
      have hle := htx.2.1
      have hv8 : v1 8 = nI cs.length := by rw [hvk 8 (by simp)]; exact htx.1
      have hc9 := htx.2.2.2
      have hab1 : a < b := by have := spE_s hal hra; have := spE_le isRw cs (a + 1); omega
      have hbl : b ≤ cs.length := by rw [← hbe]; exact spE_ub isRw (by omega)
      have hlast : isRw (chN cs (b - 1)) = true := spE_all _ a (Nat.le_refl _) (b - 1) (by omega) (by omega)
      have hge1 := rw_ge hlast
      have hge0 := rw_ge hra
      have htk := nx_row ha hal hra hbe
      have hca := hc9 a
      have hcb := hc9 (b - 1)
      have hca1 := hc9 (a + 1)
      refine lv_iload_n hx hb dM_next_297 rfl (lv_at hl 1 rfl) ?_
      refine x_calli (x_runS (n := 1) (As := [.int (nI (chN cs a))]) (rest := []) ⟨hx, hb, hml, hown, hts⟩ (cM_isDigit l D tys A ws1 (chN cs (a)) (by have := htx.2.2.2 (a); omega)) tw_778 tw_779 tw_8 tw_780 (by decide +kernel) rfl rfl ⟨by decide, by decide⟩ ⟨Nat.zero_le _, Nat.zero_le _⟩ hK hP hD hS hA hN rfl hl.1 rfl (lv_room (Nat.le_of_ble_eq_true rfl)) dM_next_298) hS (fun rhd0 ws_4 H locs hd0 hP hD hS => ?_)
      obtain ⟨hd0, rfl⟩ := hd0
      refine lv_if_eq (tgt := 361) hx hb dM_next_301 (by decide) (fun c301 => ?_) (fun c301 => ?_)
      · exact loop_361 _ a b v1 ws1 _ _ _ hF hM hvk h10 h11 ha hal hra hbe (by have n301 : ¬ isDg (chN cs a) = true := (by rw [show isDg (chN cs a) = false from b2i_0.mp (by rw [← hd0]; exact c301)]; decide); exact rk_word (by omega) h1 h2 (fun z9 => by first | exact n301 z9.1 | exact n328 (z9.2.elim (fun z8 => absurd z8 (by omega)) (fun z8 => z8.2)) | (rcases z9.2 with z8 | z8; omega; omega))) (Nat.lt_succ_self _) hP hD hS (lv_sub hl [0] rfl)
      · refine lv_iload_n hx hb dM_next_304 rfl (lv_at hl 2 rfl) ?_
        refine lv_iconst (v := 1) hx hb dM_next_305 (by decide) ?_
        refine lv_icmp_eq (tgt := 331) hx hb dM_next_306 (by decide) (fun c306 => ?_) (fun c306 => ?_)
        · refine lv_aload_n hx hb dM_next_331 rfl (lv_at hl 0 rfl) ?_
          refine lv_iconst (v := 4) hx hb dM_next_332 (by decide) ?_
          refine va_put (D := D) (cl := xCl) (ci := 7) (v := .int 4) (ty := .int) (C := rnM) (T := tbM) (N := 39) hx hb hts inM tyM toM nmM hown hK hP hD hS km hM.1 rfl 9 (by decide) (hts _ tw_626) (fun _ h9 => h9) rfl (by decide +kernel) rfl rfl (Nat.le_of_ble_eq_true rfl) dM_next_333 (fun H locs hP hD hS => ?_)
          obtain ⟨ws_6, hu_5, hP, hD⟩ := x_gen hM.1 hP hD
          have hM : ModF cI ad ws_6 km (setV v1 9 4) F := hM.fld_9 hu_5
          have hF := hF.tr (hu_5.fr (a := km) (b := km + 24) (by omega) (by omega))
          refine lv_aload_n hx hb dM_next_336 rfl (lv_at hl 0 rfl) ?_
          refine lv_iload_n hx hb dM_next_337 rfl (lv_at hl 2 rfl) ?_
          refine lv_iconst (v := 1) hx hb dM_next_338 (by decide) ?_
          refine lv_icmp_ne (tgt := 346) hx hb dM_next_339 (by decide) (fun c339 => ?_) (fun c339 => ?_)
          · refine lv_bipush (v := 10) hx hb dM_next_346 (by decide) ?_
            refine lv_iload_n hx hb dM_next_348 rfl (lv_at hl 1 rfl) ?_
            refine lv_bipush (v := 48) hx hb dM_next_349 (by decide) ?_
            refine lv_isub hx hb dM_next_351 ?_
            refine lv_imul hx hb dM_next_352 ?_
            refine lv_iload_n hx hb dM_next_353 rfl (lv_at hl 3 rfl) ?_
            refine lv_iadd hx hb dM_next_354 ?_
            refine va_put (D := D) (cl := xCl) (ci := 7) (v := .int ((10 * ((nI (chN cs a)) - 48)) + ((nI (chN cs (b - 1))) - 48))) (ty := .int) (C := rnM) (T := tbM) (N := 39) hx hb hts inM tyM toM nmM hown hK hP hD hS km hM.1 rfl 12 (by decide) (hts _ tw_629) (fun _ h9 => h9) rfl (by decide +kernel) rfl rfl (Nat.le_of_ble_eq_true rfl) dM_next_355 (fun H locs hP hD hS => ?_)
            obtain ⟨ws_8, hu_7, hP, hD⟩ := x_gen hM.1 hP hD
            have hM : ModF cI ad ws_8 km (setV (setV v1 9 4) 12 (((10 * ((nI (chN cs a)) - 48)) + ((nI (chN cs (b - 1))) - 48)))) F := hM.fld_12 hu_7
            have hF := hF.tr (hu_7.fr (a := km) (b := km + 24) (by omega) (by omega))
            refine lv_goto (tgt := 369) hx hb dM_next_358 (by decide) ?_
            exact x_vret hx hb hr hlk hK hP hD hS dM_next_369 (by have nc306 : (b - a) = 1 := (by have q : nI ((b - a)) = nI 1 := c306; rw [nI_eq (by omega) (by omega)] at q; exact q); have nc339 : ¬ (b - a) = 1 := (by have q : ¬ nI ((b - a)) = nI 1 := c339; rw [nI_eq (by omega) (by omega)] at q; exact q); have n301 : isDg (chN cs a) = true := b2i_n0.mp (by rw [← hd0]; exact c301); exfalso; omega)
          · refine lv_iload_n hx hb dM_next_342 rfl (lv_at hl 3 rfl) ?_
            refine lv_goto (tgt := 355) hx hb dM_next_343 (by decide) ?_
            refine va_put (D := D) (cl := xCl) (ci := 7) (v := .int ((nI (chN cs (b - 1))) - 48)) (ty := .int) (C := rnM) (T := tbM) (N := 39) hx hb hts inM tyM toM nmM hown hK hP hD hS km hM.1 rfl 12 (by decide) (hts _ tw_629) (fun _ h9 => h9) rfl (by decide +kernel) rfl rfl (Nat.le_of_ble_eq_true rfl) dM_next_355 (fun H locs hP hD hS => ?_)
            obtain ⟨ws_10, hu_9, hP, hD⟩ := x_gen hM.1 hP hD
            have hM : ModF cI ad ws_10 km (setV (setV v1 9 4) 12 (((nI (chN cs (b - 1))) - 48))) F := hM.fld_12 hu_9
            have hF := hF.tr (hu_9.fr (a := km) (b := km + 24) (by omega) (by omega))
            refine lv_goto (tgt := 369) hx hb dM_next_358 (by decide) ?_
            exact x_vret hx hb hr hlk hK hP hD hS dM_next_369 (by have nc306 : (b - a) = 1 := (by have q : nI ((b - a)) = nI 1 := c306; rw [nI_eq (by omega) (by omega)] at q; exact q); have nc339 : (b - a) = 1 := (by have q : nI ((b - a)) = nI 1 := c339; rw [nI_eq (by omega) (by omega)] at q; exact q); have n301 : isDg (chN cs a) = true := b2i_n0.mp (by rw [← hd0]; exact c301); have hbb : b = a + 1 := (by omega); subst hbb; rw [rk_num1 n301] at htk; exact ⟨hF, _, hM, hvk.tr ((vk_s (by simp)).tr (vk_s (by simp))), NxV.z htk rfl (by exact h10) (by exact h11) (fun _ => by show ((nI (chN cs ((a + 1) - 1))) - 48) = _; unfold rvF; rw [if_neg (by decide), if_neg (by decide), if_pos rfl, if_pos (by omega)])⟩)
        · refine lv_iload_n hx hb dM_next_309 rfl (lv_at hl 2 rfl) ?_
          refine lv_iconst (v := 2) hx hb dM_next_310 (by decide) ?_
          refine lv_icmp_ne (tgt := 361) hx hb dM_next_311 (by decide) (fun c311 => ?_) (fun c311 => ?_)
          · exact loop_361 _ a b v1 ws1 _ _ _ hF hM hvk h10 h11 ha hal hra hbe (by have nc306 : ¬ (b - a) = 1 := (by have q : ¬ nI ((b - a)) = nI 1 := c306; rw [nI_eq (by omega) (by omega)] at q; exact q); have nc311 : ¬ (b - a) = 2 := (by have q : ¬ nI ((b - a)) = nI 2 := c311; rw [nI_eq (by omega) (by omega)] at q; exact q); have n301 : isDg (chN cs a) = true := b2i_n0.mp (by rw [← hd0]; exact c301); exact rk_word (by omega) h1 h2 (fun z9 => by first | exact n301 z9.1 | exact n328 (z9.2.elim (fun z8 => absurd z8 (by omega)) (fun z8 => z8.2)) | (rcases z9.2 with z8 | z8; omega; omega))) (Nat.lt_succ_self _) hP hD hS (lv_sub hl [0] rfl)
          · have hn2 : b - a = 2 := by have q9 : nI (b - a) = nI 2 := c311; rw [nI_eq (by omega) (by omega)] at q9; exact q9
            refine lv_aload_n hx hb dM_next_314 rfl (lv_at hl 0 rfl) ?_
            refine va_get (D := D) (cl := xCl) (ci := 7) (v := .ref (ad (km + 6))) (C := rnM) (T := tbM) (N := 39) hx hb hts inM hown hK hP km hM.1 rfl 7 (by decide) (hts _ tw_624) (fun _ h9 => h9) rfl dM_next_315 ?_
            refine lv_aload_n hx hb dM_next_318 rfl (lv_at hl 0 rfl) ?_
            refine va_get (D := D) (cl := xCl) (ci := 7) (v := .int (v1 10)) (C := rnM) (T := tbM) (N := 39) hx hb hts inM hown hK hP km hM.1 rfl 10 (by decide) (hts _ tw_627) (fun _ h9 => h9) rfl dM_next_319 ?_
            refine lv_iconst (v := 1) hx hb dM_next_322 (by decide) ?_
            refine lv_iadd hx hb dM_next_323 ?_
            refine lv_topi (fun v_11 ev_11 => ?_)
            obtain rfl : v_11 = nI (a + 1) := by rw [ev_11, h10, nI_1]
            refine va_iald hx hb hK hP (km + 6) 0 (hM.a 6 80 rfl (by omega) (by omega)) hI (vp_in_nI (by omega) (by omega)) dM_next_324 ?_
            refine lv_topi (fun v_12 ev_12 => ?_)
            obtain rfl : v_12 = nI (chN cs (a + 1)) := by rw [ev_12, nI_clamp (by omega)]; exact htx.2.2.1 _ (by omega)
            refine x_calli (x_runS (n := 1) (As := [.int (nI (chN cs (a + 1)))]) (rest := []) ⟨hx, hb, hml, hown, hts⟩ (cM_isDigit l D tys A ws1 (chN cs (a + 1)) (by have := htx.2.2.2 (a + 1); omega)) tw_778 tw_779 tw_8 tw_780 (by decide +kernel) rfl rfl ⟨by decide, by decide⟩ ⟨Nat.zero_le _, Nat.zero_le _⟩ hK hP hD hS hA hN rfl hl.1 rfl (lv_room (Nat.le_of_ble_eq_true rfl)) dM_next_325) hS (fun rhd2 ws_13 H locs hd2 hP hD hS => ?_)
            obtain ⟨hd2, rfl⟩ := hd2
            refine lv_if_eq (tgt := 361) hx hb dM_next_328 (by decide) (fun c328 => ?_) (fun c328 => ?_)
            · exact loop_361 _ a b v1 ws1 _ _ _ hF hM hvk h10 h11 ha hal hra hbe (by have nc306 : ¬ (b - a) = 1 := (by have q : ¬ nI ((b - a)) = nI 1 := c306; rw [nI_eq (by omega) (by omega)] at q; exact q); have nc311 : (b - a) = 2 := (by have q : nI ((b - a)) = nI 2 := c311; rw [nI_eq (by omega) (by omega)] at q; exact q); have n301 : isDg (chN cs a) = true := b2i_n0.mp (by rw [← hd0]; exact c301); have n328 : ¬ isDg (chN cs (a + 1)) = true := (by rw [show isDg (chN cs (a + 1)) = false from b2i_0.mp (by rw [← hd2]; exact c328)]; decide); exact rk_word (by omega) h1 h2 (fun z9 => by first | exact n301 z9.1 | exact n328 (z9.2.elim (fun z8 => absurd z8 (by omega)) (fun z8 => z8.2)) | (rcases z9.2 with z8 | z8; omega; omega))) (Nat.lt_succ_self _) hP hD hS (lv_sub hl [0] rfl)
            · refine lv_aload_n hx hb dM_next_331 rfl (lv_at hl 0 rfl) ?_
              refine lv_iconst (v := 4) hx hb dM_next_332 (by decide) ?_
              refine va_put (D := D) (cl := xCl) (ci := 7) (v := .int 4) (ty := .int) (C := rnM) (T := tbM) (N := 39) hx hb hts inM tyM toM nmM hown hK hP hD hS km hM.1 rfl 9 (by decide) (hts _ tw_626) (fun _ h9 => h9) rfl (by decide +kernel) rfl rfl (Nat.le_of_ble_eq_true rfl) dM_next_333 (fun H locs hP hD hS => ?_)
              obtain ⟨ws_15, hu_14, hP, hD⟩ := x_gen hM.1 hP hD
              have hM : ModF cI ad ws_15 km (setV v1 9 4) F := hM.fld_9 hu_14
              have hF := hF.tr (hu_14.fr (a := km) (b := km + 24) (by omega) (by omega))
              refine lv_aload_n hx hb dM_next_336 rfl (lv_at hl 0 rfl) ?_
              refine lv_iload_n hx hb dM_next_337 rfl (lv_at hl 2 rfl) ?_
              refine lv_iconst (v := 1) hx hb dM_next_338 (by decide) ?_
              refine lv_icmp_ne (tgt := 346) hx hb dM_next_339 (by decide) (fun c339 => ?_) (fun c339 => ?_)
              · refine lv_bipush (v := 10) hx hb dM_next_346 (by decide) ?_
                refine lv_iload_n hx hb dM_next_348 rfl (lv_at hl 1 rfl) ?_
                refine lv_bipush (v := 48) hx hb dM_next_349 (by decide) ?_
                refine lv_isub hx hb dM_next_351 ?_
                refine lv_imul hx hb dM_next_352 ?_
                refine lv_iload_n hx hb dM_next_353 rfl (lv_at hl 3 rfl) ?_
                refine lv_iadd hx hb dM_next_354 ?_
                refine va_put (D := D) (cl := xCl) (ci := 7) (v := .int ((10 * ((nI (chN cs a)) - 48)) + ((nI (chN cs (b - 1))) - 48))) (ty := .int) (C := rnM) (T := tbM) (N := 39) hx hb hts inM tyM toM nmM hown hK hP hD hS km hM.1 rfl 12 (by decide) (hts _ tw_629) (fun _ h9 => h9) rfl (by decide +kernel) rfl rfl (Nat.le_of_ble_eq_true rfl) dM_next_355 (fun H locs hP hD hS => ?_)
                obtain ⟨ws_17, hu_16, hP, hD⟩ := x_gen hM.1 hP hD
                have hM : ModF cI ad ws_17 km (setV (setV v1 9 4) 12 (((10 * ((nI (chN cs a)) - 48)) + ((nI (chN cs (b - 1))) - 48)))) F := hM.fld_12 hu_16
                have hF := hF.tr (hu_16.fr (a := km) (b := km + 24) (by omega) (by omega))
                refine lv_goto (tgt := 369) hx hb dM_next_358 (by decide) ?_
                exact x_vret hx hb hr hlk hK hP hD hS dM_next_369 (by have nc306 : ¬ (b - a) = 1 := (by have q : ¬ nI ((b - a)) = nI 1 := c306; rw [nI_eq (by omega) (by omega)] at q; exact q); have nc311 : (b - a) = 2 := (by have q : nI ((b - a)) = nI 2 := c311; rw [nI_eq (by omega) (by omega)] at q; exact q); have nc339 : ¬ (b - a) = 1 := (by have q : ¬ nI ((b - a)) = nI 1 := c339; rw [nI_eq (by omega) (by omega)] at q; exact q); have n301 : isDg (chN cs a) = true := b2i_n0.mp (by rw [← hd0]; exact c301); have n328 : isDg (chN cs (a + 1)) = true := b2i_n0.mp (by rw [← hd2]; exact c328); have hbb : b = a + 2 := (by omega); subst hbb; rw [rk_num2 n301 n328] at htk; exact ⟨hF, _, hM, hvk.tr ((vk_s (by simp)).tr (vk_s (by simp))), NxV.z htk rfl (by exact h10) (by exact h11) (fun _ => by show ((10 * ((nI (chN cs a)) - 48)) + ((nI (chN cs ((a + 2) - 1))) - 48)) = _; unfold rvF; rw [if_neg (by decide), if_neg (by decide), if_pos rfl, if_neg (by omega)]; exact dv_3 (k := 48) (by omega) (by omega))⟩)
              · refine lv_iload_n hx hb dM_next_342 rfl (lv_at hl 3 rfl) ?_
                refine lv_goto (tgt := 355) hx hb dM_next_343 (by decide) ?_
                refine va_put (D := D) (cl := xCl) (ci := 7) (v := .int ((nI (chN cs (b - 1))) - 48)) (ty := .int) (C := rnM) (T := tbM) (N := 39) hx hb hts inM tyM toM nmM hown hK hP hD hS km hM.1 rfl 12 (by decide) (hts _ tw_629) (fun _ h9 => h9) rfl (by decide +kernel) rfl rfl (Nat.le_of_ble_eq_true rfl) dM_next_355 (fun H locs hP hD hS => ?_)
                obtain ⟨ws_19, hu_18, hP, hD⟩ := x_gen hM.1 hP hD
                have hM : ModF cI ad ws_19 km (setV (setV v1 9 4) 12 (((nI (chN cs (b - 1))) - 48))) F := hM.fld_12 hu_18
                have hF := hF.tr (hu_18.fr (a := km) (b := km + 24) (by omega) (by omega))
                refine lv_goto (tgt := 369) hx hb dM_next_358 (by decide) ?_
                exact x_vret hx hb hr hlk hK hP hD hS dM_next_369 (by have nc306 : ¬ (b - a) = 1 := (by have q : ¬ nI ((b - a)) = nI 1 := c306; rw [nI_eq (by omega) (by omega)] at q; exact q); have nc311 : (b - a) = 2 := (by have q : nI ((b - a)) = nI 2 := c311; rw [nI_eq (by omega) (by omega)] at q; exact q); have nc339 : (b - a) = 1 := (by have q : nI ((b - a)) = nI 1 := c339; rw [nI_eq (by omega) (by omega)] at q; exact q); have n301 : isDg (chN cs a) = true := b2i_n0.mp (by rw [← hd0]; exact c301); have n328 : isDg (chN cs (a + 1)) = true := b2i_n0.mp (by rw [← hd2]; exact c328); exfalso; omega)
  have loop_269 : ∀ (fu9 : Nat) (a : Nat) (b : Nat) (v1 : Nat → Int32) (ws1 : va_W) (H : Heap) (locs : List Loc) (ls : Array Slot), x_fr km (km + 24) ws ws1 → ModF cI ad ws1 km v1 F → vk [9, 10, 11, 12] v v1 → v1 10 = nI a → v1 11 = nI b → spE isBl cs e0 = a → a < cs.length → isRw (chN cs a) = true → spE isRw cs a = b → (¬ (b = a + 2 ∧ 97 ≤ chN cs a ∧ chN cs a ≤ 102 ∧ isDg (chN cs (a + 1)) = true)) → 0 < fu9 → va_P D xCl ws1 H → va_D A ws1 → va_S A s.heap H locs → lv_has ls 4 [(0, .ref (ad km)), (1, .int (nI (chN cs a))), (2, .int (nI (b - a))), (3, .int ((nI (chN cs (b - 1))) - 48))] → W p l e (xR 2) s m args below meth c H locs 0 0 (MQ below (va_Qv (fun ws1 => x_fr km (km + 24) ws ws1 ∧ ∃ v9, ModF cI ad ws1 km v9 F ∧ vk [9, 10, 11, 12] v v9 ∧ NxV cs v9 e0) (x_B D xCl tys A) A) args s 0 0 A) (F0 m 269 ls []) := by
    intro fu9
    induction fu9 with
    | zero => intro a b v1 ws1 H locs ls hF hM hvk h10 h11 ha hal hra hbe h1 hme; exact absurd hme (Nat.not_lt_zero _)
    | succ fu9 ih =>
      intro a b v1 ws1 H locs ls hF hM hvk h10 h11 ha hal hra hbe h1 hme hP hD hS hl
      have hle := htx.2.1
      have hv8 : v1 8 = nI cs.length := by rw [hvk 8 (by simp)]; exact htx.1
      have hc9 := htx.2.2.2
      have hab1 : a < b := by have := spE_s hal hra; have := spE_le isRw cs (a + 1); omega
      have hbl : b ≤ cs.length := by rw [← hbe]; exact spE_ub isRw (by omega)
      have hlast : isRw (chN cs (b - 1)) = true := spE_all _ a (Nat.le_refl _) (b - 1) (by omega) (by omega)
      have hge1 := rw_ge hlast
      have hge0 := rw_ge hra
      have htk := nx_row ha hal hra hbe
      have hca := hc9 a
      have hcb := hc9 (b - 1)
      have hca1 := hc9 (a + 1)
      refine lv_iload_n hx hb dM_next_269 rfl (lv_at hl 2 rfl) ?_
      refine lv_iconst (v := 1) hx hb dM_next_270 (by decide) ?_
      refine lv_icmp_ne (tgt := 297) hx hb dM_next_271 (by decide) (fun c271 => ?_) (fun c271 => ?_)
      · exact loop_297 _ a b v1 ws1 _ _ _ hF hM hvk h10 h11 ha hal hra hbe h1 (by have nc271 : ¬ (b - a) = 1 := (by have q : ¬ nI ((b - a)) = nI 1 := c271; rw [nI_eq (by omega) (by omega)] at q; exact q); exact (fun z9 => by first | exact n278 z9.2 | (have := z9.1; omega))) (Nat.lt_succ_self _) hP hD hS (lv_sub hl [0, 1, 2, 3] rfl)
      · refine lv_iload_n hx hb dM_next_274 rfl (lv_at hl 1 rfl) ?_
        refine x_calli (x_runS (n := 1) (As := [.int (nI (chN cs a))]) (rest := []) ⟨hx, hb, hml, hown, hts⟩ (cM_isGreat l D tys A ws1 (chN cs (a)) (by have := htx.2.2.2 (a); omega)) tw_781 tw_782 tw_8 tw_783 (by decide +kernel) rfl rfl ⟨by decide, by decide⟩ ⟨Nat.zero_le _, Nat.zero_le _⟩ hK hP hD hS hA hN rfl hl.1 rfl (lv_room (Nat.le_of_ble_eq_true rfl)) dM_next_275) hS (fun rhg ws_20 H locs hg hP hD hS => ?_)
        obtain ⟨hg, rfl⟩ := hg
        refine lv_if_eq (tgt := 297) hx hb dM_next_278 (by decide) (fun c278 => ?_) (fun c278 => ?_)
        · exact loop_297 _ a b v1 ws1 _ _ _ hF hM hvk h10 h11 ha hal hra hbe h1 (by have nc271 : (b - a) = 1 := (by have q : nI ((b - a)) = nI 1 := c271; rw [nI_eq (by omega) (by omega)] at q; exact q); have n278 : ¬ isCp (chN cs a) = true := (by rw [show isCp (chN cs a) = false from b2i_0.mp (by rw [← hg]; exact c278)]; decide); exact (fun z9 => by first | exact n278 z9.2 | (have := z9.1; omega))) (Nat.lt_succ_self _) hP hD hS (lv_sub hl [0, 1, 2, 3] rfl)
        · refine lv_aload_n hx hb dM_next_281 rfl (lv_at hl 0 rfl) ?_
          refine lv_iconst (v := 3) hx hb dM_next_282 (by decide) ?_
          refine va_put (D := D) (cl := xCl) (ci := 7) (v := .int 3) (ty := .int) (C := rnM) (T := tbM) (N := 39) hx hb hts inM tyM toM nmM hown hK hP hD hS km hM.1 rfl 9 (by decide) (hts _ tw_626) (fun _ h9 => h9) rfl (by decide +kernel) rfl rfl (Nat.le_of_ble_eq_true rfl) dM_next_283 (fun H locs hP hD hS => ?_)
          obtain ⟨ws_22, hu_21, hP, hD⟩ := x_gen hM.1 hP hD
          have hM : ModF cI ad ws_22 km (setV v1 9 3) F := hM.fld_9 hu_21
          have hF := hF.tr (hu_21.fr (a := km) (b := km + 24) (by omega) (by omega))
          refine lv_aload_n hx hb dM_next_286 rfl (lv_at hl 0 rfl) ?_
          refine lv_iload_n hx hb dM_next_287 rfl (lv_at hl 1 rfl) ?_
          refine lv_bipush (v := 65) hx hb dM_next_288 (by decide) ?_
          refine lv_isub hx hb dM_next_290 ?_
          refine va_put (D := D) (cl := xCl) (ci := 7) (v := .int ((nI (chN cs a)) - 65)) (ty := .int) (C := rnM) (T := tbM) (N := 39) hx hb hts inM tyM toM nmM hown hK hP hD hS km hM.1 rfl 12 (by decide) (hts _ tw_629) (fun _ h9 => h9) rfl (by decide +kernel) rfl rfl (Nat.le_of_ble_eq_true rfl) dM_next_291 (fun H locs hP hD hS => ?_)
          obtain ⟨ws_24, hu_23, hP, hD⟩ := x_gen hM.1 hP hD
          have hM : ModF cI ad ws_24 km (setV (setV v1 9 3) 12 (((nI (chN cs a)) - 65))) F := hM.fld_12 hu_23
          have hF := hF.tr (hu_23.fr (a := km) (b := km + 24) (by omega) (by omega))
          refine lv_goto (tgt := 369) hx hb dM_next_294 (by decide) ?_
          exact x_vret hx hb hr hlk hK hP hD hS dM_next_369 (by have nc271 : (b - a) = 1 := (by have q : nI ((b - a)) = nI 1 := c271; rw [nI_eq (by omega) (by omega)] at q; exact q); have n278 : isCp (chN cs a) = true := b2i_n0.mp (by rw [← hg]; exact c278); have hbb : b = a + 1 := (by omega); subst hbb; rw [rk_letter n278] at htk; exact ⟨hF, _, hM, hvk.tr ((vk_s (by simp)).tr (vk_s (by simp))), NxV.z htk rfl (by exact h10) (by exact h11) (fun _ => by show ((nI (chN cs a)) - 65) = _; unfold rvF; rw [if_pos rfl])⟩)
  have loop_150 : ∀ (fu9 : Nat) (a : Nat) (b : Nat) (v1 : Nat → Int32) (ws1 : va_W) (H : Heap) (locs : List Loc) (ls : Array Slot), x_fr km (km + 24) ws ws1 → ModF cI ad ws1 km v1 F → vk [9, 10, 11, 12] v v1 → v1 10 = nI a → v1 11 = nI b → spE isBl cs e0 = a → a < cs.length → isRw (chN cs a) = true → a ≤ b → b ≤ cs.length → spE isRw cs b = spE isRw cs a → cs.length - b < fu9 → va_P D xCl ws1 H → va_D A ws1 → va_S A s.heap H locs → lv_has ls 4 [(0, .ref (ad km)), (1, .int (nI (chN cs a)))] → W p l e (xR 2) s m args below meth c H locs 0 0 (MQ below (va_Qv (fun ws1 => x_fr km (km + 24) ws ws1 ∧ ∃ v9, ModF cI ad ws1 km v9 F ∧ vk [9, 10, 11, 12] v v9 ∧ NxV cs v9 e0) (x_B D xCl tys A) A) args s 0 0 A) (F0 m 150 ls []) := by
    intro fu9
    induction fu9 with
    | zero => intro a b v1 ws1 H locs ls hF hM hvk h10 h11 ha hal hra hab hbl9 hsp hme; exact absurd hme (Nat.not_lt_zero _)
    | succ fu9 ih =>
      intro a b v1 ws1 H locs ls hF hM hvk h10 h11 ha hal hra hab hbl9 hsp hme hP hD hS hl
      have hle := htx.2.1
      have hv8 : v1 8 = nI cs.length := by rw [hvk 8 (by simp)]; exact htx.1
      have hc9 := htx.2.2.2
      refine lv_aload_n hx hb dM_next_150 rfl (lv_at hl 0 rfl) ?_
      refine va_get (D := D) (cl := xCl) (ci := 7) (v := .int (v1 11)) (C := rnM) (T := tbM) (N := 39) hx hb hts inM hown hK hP km hM.1 rfl 11 (by decide) (hts _ tw_628) (fun _ h9 => h9) rfl dM_next_151 ?_
      refine lv_aload_n hx hb dM_next_154 rfl (lv_at hl 0 rfl) ?_
      refine va_get (D := D) (cl := xCl) (ci := 7) (v := .int (v1 8)) (C := rnM) (T := tbM) (N := 39) hx hb hts inM hown hK hP km hM.1 rfl 8 (by decide) (hts _ tw_625) (fun _ h9 => h9) rfl dM_next_155 ?_
      refine lv_icmp_ge (tgt := 189) hx hb dM_next_158 (by decide) (fun c158 => ?_) (fun c158 => ?_)
      · have hbe : spE isRw cs a = b := by rw [← hsp]; exact spE_e (fun c9 => by rw [h11, hv8, nI_leI (by omega) (by omega)] at c158; omega)
        have hab1 : a < b := by have := spE_s hal hra; have := spE_le isRw cs (a + 1); omega
        have hbl : b ≤ cs.length := by rw [← hbe]; exact spE_ub isRw (by omega)
        have hlast : isRw (chN cs (b - 1)) = true := spE_all _ a (Nat.le_refl _) (b - 1) (by omega) (by omega)
        have hge1 := rw_ge hlast
        have hge0 := rw_ge hra
        have htk := nx_row ha hal hra hbe
        have hca := hc9 a
        have hcb := hc9 (b - 1)
        have hca1 := hc9 (a + 1)
        refine lv_aload_n hx hb dM_next_189 rfl (lv_at hl 0 rfl) ?_
        refine va_get (D := D) (cl := xCl) (ci := 7) (v := .int (v1 11)) (C := rnM) (T := tbM) (N := 39) hx hb hts inM hown hK hP km hM.1 rfl 11 (by decide) (hts _ tw_628) (fun _ h9 => h9) rfl dM_next_190 ?_
        refine lv_aload_n hx hb dM_next_193 rfl (lv_at hl 0 rfl) ?_
        refine va_get (D := D) (cl := xCl) (ci := 7) (v := .int (v1 10)) (C := rnM) (T := tbM) (N := 39) hx hb hts inM hown hK hP km hM.1 rfl 10 (by decide) (hts _ tw_627) (fun _ h9 => h9) rfl dM_next_194 ?_
        refine lv_isub hx hb dM_next_197 ?_
        refine lv_topi (fun v_25 ev_25 => ?_)
        obtain rfl : v_25 = nI (b - a) := by rw [ev_25, h11, h10, pk_sub (by omega)]
        refine lv_istore_n (lv' := [(2, .int (nI (b - a))), (0, .ref (ad km)), (1, .int (nI (chN cs a)))]) hx hb dM_next_198 rfl hl (by decide) rfl (fun ls hl => ?_)
        refine lv_aload_n hx hb dM_next_199 rfl (lv_at hl 1 rfl) ?_
        refine va_get (D := D) (cl := xCl) (ci := 7) (v := .ref (ad (km + 6))) (C := rnM) (T := tbM) (N := 39) hx hb hts inM hown hK hP km hM.1 rfl 7 (by decide) (hts _ tw_624) (fun _ h9 => h9) rfl dM_next_200 ?_
        refine lv_aload_n hx hb dM_next_203 rfl (lv_at hl 1 rfl) ?_
        refine va_get (D := D) (cl := xCl) (ci := 7) (v := .int (v1 11)) (C := rnM) (T := tbM) (N := 39) hx hb hts inM hown hK hP km hM.1 rfl 11 (by decide) (hts _ tw_628) (fun _ h9 => h9) rfl dM_next_204 ?_
        refine lv_iconst (v := 1) hx hb dM_next_207 (by decide) ?_
        refine lv_isub hx hb dM_next_208 ?_
        refine lv_topi (fun v_26 ev_26 => ?_)
        obtain rfl : v_26 = nI (b - 1) := by rw [ev_26, h11, show (1 : Int32) = nI 1 from rfl, pk_sub (by omega)]
        refine va_iald hx hb hK hP (km + 6) 0 (hM.a 6 80 rfl (by omega) (by omega)) hI (vp_in_nI (by omega) (by omega)) dM_next_209 ?_
        refine lv_topi (fun v_27 ev_27 => ?_)
        obtain rfl : v_27 = nI (chN cs (b - 1)) := by rw [ev_27, nI_clamp (by omega)]; exact htx.2.2.1 _ (by omega)
        refine lv_bipush (v := 48) hx hb dM_next_210 (by decide) ?_
        refine lv_isub hx hb dM_next_212 ?_
        refine lv_istore_n (lv' := [(3, .int ((nI (chN cs (b - 1))) - 48)), (2, .int (nI (b - a))), (0, .ref (ad km)), (1, .int (nI (chN cs a)))]) hx hb dM_next_213 rfl hl (by decide) rfl (fun ls hl => ?_)
        refine lv_iload_n hx hb dM_next_214 rfl (lv_at hl 1 rfl) ?_
        refine lv_iconst (v := 2) hx hb dM_next_215 (by decide) ?_
        refine lv_icmp_ne (tgt := 269) hx hb dM_next_216 (by decide) (fun c216 => ?_) (fun c216 => ?_)
        · exact loop_269 _ a b v1 ws1 _ _ _ hF hM hvk h10 h11 ha hal hra hbe (by have nc216 : ¬ (b - a) = 2 := (by have q : ¬ nI ((b - a)) = nI 2 := c216; rw [nI_eq (by omega) (by omega)] at q; exact q); exact (fun z9 => by first | exact n245 z9.2.2.2 | (have := z9.1; have := z9.2.1; have := z9.2.2.1; omega))) (Nat.lt_succ_self _) hP hD hS (lv_sub hl [2, 3, 1, 0] rfl)
        · have hn2 : b - a = 2 := by have q9 : nI (b - a) = nI 2 := c216; rw [nI_eq (by omega) (by omega)] at q9; exact q9
          refine lv_iload_n hx hb dM_next_219 rfl (lv_at hl 3 rfl) ?_
          refine lv_bipush (v := 97) hx hb dM_next_220 (by decide) ?_
          refine lv_icmp_lt (tgt := 269) hx hb dM_next_222 (by decide) (fun c222 => ?_) (fun c222 => ?_)
          · exact loop_269 _ a b v1 ws1 _ _ _ hF hM hvk h10 h11 ha hal hra hbe (by have nc216 : (b - a) = 2 := (by have q : nI ((b - a)) = nI 2 := c216; rw [nI_eq (by omega) (by omega)] at q; exact q); have nc222 : (chN cs a) < 97 := (by have q : nI ((chN cs a)) < nI 97 := c222; rw [nI_ltI (by omega) (by omega)] at q; exact q); exact (fun z9 => by first | exact n245 z9.2.2.2 | (have := z9.1; have := z9.2.1; have := z9.2.2.1; omega))) (Nat.lt_succ_self _) hP hD hS (lv_sub hl [2, 3, 1, 0] rfl)
          · refine lv_iload_n hx hb dM_next_225 rfl (lv_at hl 3 rfl) ?_
            refine lv_bipush (v := 102) hx hb dM_next_226 (by decide) ?_
            refine lv_icmp_gt (tgt := 269) hx hb dM_next_228 (by decide) (fun c228 => ?_) (fun c228 => ?_)
            · exact loop_269 _ a b v1 ws1 _ _ _ hF hM hvk h10 h11 ha hal hra hbe (by have nc216 : (b - a) = 2 := (by have q : nI ((b - a)) = nI 2 := c216; rw [nI_eq (by omega) (by omega)] at q; exact q); have nc222 : ¬ (chN cs a) < 97 := (by have q : ¬ nI ((chN cs a)) < nI 97 := c222; rw [nI_ltI (by omega) (by omega)] at q; exact q); have nc228 : 102 < (chN cs a) := (by have q : nI 102 < nI ((chN cs a)) := c228; rw [nI_ltI (by omega) (by omega)] at q; exact q); exact (fun z9 => by first | exact n245 z9.2.2.2 | (have := z9.1; have := z9.2.1; have := z9.2.2.1; omega))) (Nat.lt_succ_self _) hP hD hS (lv_sub hl [2, 3, 1, 0] rfl)
            · refine lv_aload_n hx hb dM_next_231 rfl (lv_at hl 2 rfl) ?_
              refine va_get (D := D) (cl := xCl) (ci := 7) (v := .ref (ad (km + 6))) (C := rnM) (T := tbM) (N := 39) hx hb hts inM hown hK hP km hM.1 rfl 7 (by decide) (hts _ tw_624) (fun _ h9 => h9) rfl dM_next_232 ?_
              refine lv_aload_n hx hb dM_next_235 rfl (lv_at hl 2 rfl) ?_
              refine va_get (D := D) (cl := xCl) (ci := 7) (v := .int (v1 10)) (C := rnM) (T := tbM) (N := 39) hx hb hts inM hown hK hP km hM.1 rfl 10 (by decide) (hts _ tw_627) (fun _ h9 => h9) rfl dM_next_236 ?_
              refine lv_iconst (v := 1) hx hb dM_next_239 (by decide) ?_
              refine lv_iadd hx hb dM_next_240 ?_
              refine lv_topi (fun v_28 ev_28 => ?_)
              obtain rfl : v_28 = nI (a + 1) := by rw [ev_28, h10, nI_1]
              refine va_iald hx hb hK hP (km + 6) 0 (hM.a 6 80 rfl (by omega) (by omega)) hI (vp_in_nI (by omega) (by omega)) dM_next_241 ?_
              refine lv_topi (fun v_29 ev_29 => ?_)
              obtain rfl : v_29 = nI (chN cs (a + 1)) := by rw [ev_29, nI_clamp (by omega)]; exact htx.2.2.1 _ (by omega)
              refine x_calli (x_runS (n := 1) (As := [.int (nI (chN cs (a + 1)))]) (rest := []) ⟨hx, hb, hml, hown, hts⟩ (cM_isDigit l D tys A ws1 (chN cs (a + 1)) (by have := htx.2.2.2 (a + 1); omega)) tw_778 tw_779 tw_8 tw_780 (by decide +kernel) rfl rfl ⟨by decide, by decide⟩ ⟨Nat.zero_le _, Nat.zero_le _⟩ hK hP hD hS hA hN rfl hl.1 rfl (lv_room (Nat.le_of_ble_eq_true rfl)) dM_next_242) hS (fun rhd1 ws_30 H locs hd1 hP hD hS => ?_)
              obtain ⟨hd1, rfl⟩ := hd1
              refine lv_if_eq (tgt := 269) hx hb dM_next_245 (by decide) (fun c245 => ?_) (fun c245 => ?_)
              · exact loop_269 _ a b v1 ws1 _ _ _ hF hM hvk h10 h11 ha hal hra hbe (by have nc216 : (b - a) = 2 := (by have q : nI ((b - a)) = nI 2 := c216; rw [nI_eq (by omega) (by omega)] at q; exact q); have nc222 : ¬ (chN cs a) < 97 := (by have q : ¬ nI ((chN cs a)) < nI 97 := c222; rw [nI_ltI (by omega) (by omega)] at q; exact q); have nc228 : ¬ 102 < (chN cs a) := (by have q : ¬ nI 102 < nI ((chN cs a)) := c228; rw [nI_ltI (by omega) (by omega)] at q; exact q); have n245 : ¬ isDg (chN cs (a + 1)) = true := (by rw [show isDg (chN cs (a + 1)) = false from b2i_0.mp (by rw [← hd1]; exact c245)]; decide); exact (fun z9 => by first | exact n245 z9.2.2.2 | (have := z9.1; have := z9.2.1; have := z9.2.2.1; omega))) (Nat.lt_succ_self _) hP hD hS (lv_sub hl [2, 3, 1, 0] rfl)
              · refine lv_aload_n hx hb dM_next_248 rfl (lv_at hl 2 rfl) ?_
                refine lv_iconst (v := 2) hx hb dM_next_249 (by decide) ?_
                refine va_put (D := D) (cl := xCl) (ci := 7) (v := .int 2) (ty := .int) (C := rnM) (T := tbM) (N := 39) hx hb hts inM tyM toM nmM hown hK hP hD hS km hM.1 rfl 9 (by decide) (hts _ tw_626) (fun _ h9 => h9) rfl (by decide +kernel) rfl rfl (Nat.le_of_ble_eq_true rfl) dM_next_250 (fun H locs hP hD hS => ?_)
                obtain ⟨ws_32, hu_31, hP, hD⟩ := x_gen hM.1 hP hD
                have hM : ModF cI ad ws_32 km (setV v1 9 2) F := hM.fld_9 hu_31
                have hF := hF.tr (hu_31.fr (a := km) (b := km + 24) (by omega) (by omega))
                refine lv_aload_n hx hb dM_next_253 rfl (lv_at hl 2 rfl) ?_
                refine lv_bipush (v := 10) hx hb dM_next_254 (by decide) ?_
                refine lv_iload_n hx hb dM_next_256 rfl (lv_at hl 3 rfl) ?_
                refine lv_bipush (v := 97) hx hb dM_next_257 (by decide) ?_
                refine lv_isub hx hb dM_next_259 ?_
                refine lv_imul hx hb dM_next_260 ?_
                refine lv_iload_n hx hb dM_next_261 rfl (lv_at hl 0 rfl) ?_
                refine lv_iadd hx hb dM_next_262 ?_
                refine va_put (D := D) (cl := xCl) (ci := 7) (v := .int ((10 * ((nI (chN cs a)) - 97)) + ((nI (chN cs (b - 1))) - 48))) (ty := .int) (C := rnM) (T := tbM) (N := 39) hx hb hts inM tyM toM nmM hown hK hP hD hS km hM.1 rfl 12 (by decide) (hts _ tw_629) (fun _ h9 => h9) rfl (by decide +kernel) rfl rfl (Nat.le_of_ble_eq_true rfl) dM_next_263 (fun H locs hP hD hS => ?_)
                obtain ⟨ws_34, hu_33, hP, hD⟩ := x_gen hM.1 hP hD
                have hM : ModF cI ad ws_34 km (setV (setV v1 9 2) 12 (((10 * ((nI (chN cs a)) - 97)) + ((nI (chN cs (b - 1))) - 48)))) F := hM.fld_12 hu_33
                have hF := hF.tr (hu_33.fr (a := km) (b := km + 24) (by omega) (by omega))
                refine lv_goto (tgt := 369) hx hb dM_next_266 (by decide) ?_
                exact x_vret hx hb hr hlk hK hP hD hS dM_next_369 (by have nc216 : (b - a) = 2 := (by have q : nI ((b - a)) = nI 2 := c216; rw [nI_eq (by omega) (by omega)] at q; exact q); have nc222 : ¬ (chN cs a) < 97 := (by have q : ¬ nI ((chN cs a)) < nI 97 := c222; rw [nI_ltI (by omega) (by omega)] at q; exact q); have nc228 : ¬ 102 < (chN cs a) := (by have q : ¬ nI 102 < nI ((chN cs a)) := c228; rw [nI_ltI (by omega) (by omega)] at q; exact q); have n245 : isDg (chN cs (a + 1)) = true := b2i_n0.mp (by rw [← hd1]; exact c245); have hbb : b = a + 2 := (by omega); subst hbb; rw [rk_name (by omega) (by omega) n245] at htk; exact ⟨hF, _, hM, hvk.tr ((vk_s (by simp)).tr (vk_s (by simp))), NxV.z htk rfl (by exact h10) (by exact h11) (fun _ => by show ((10 * ((nI (chN cs a)) - 97)) + ((nI (chN cs ((a + 2) - 1))) - 48)) = _; unfold rvF; rw [if_neg (by decide), if_pos rfl]; exact dv_3 (k := 97) (by omega) (by omega))⟩)
      · have hb2 : b < cs.length := by rw [h11, hv8, nI_leI (by omega) (by omega)] at c158; omega
        refine lv_aload_n hx hb dM_next_161 rfl (lv_at hl 0 rfl) ?_
        refine va_get (D := D) (cl := xCl) (ci := 7) (v := .ref (ad (km + 6))) (C := rnM) (T := tbM) (N := 39) hx hb hts inM hown hK hP km hM.1 rfl 7 (by decide) (hts _ tw_624) (fun _ h9 => h9) rfl dM_next_162 ?_
        refine lv_aload_n hx hb dM_next_165 rfl (lv_at hl 0 rfl) ?_
        refine va_get (D := D) (cl := xCl) (ci := 7) (v := .int (v1 11)) (C := rnM) (T := tbM) (N := 39) hx hb hts inM hown hK hP km hM.1 rfl 11 (by decide) (hts _ tw_628) (fun _ h9 => h9) rfl dM_next_166 ?_
        refine va_iald hx hb hK hP (km + 6) 0 (hM.a 6 80 rfl (by omega) (by omega)) hI (by rw [h11]; exact vp_in_nI (by omega) (by omega)) dM_next_169 ?_
        refine lv_topi (fun v_35 ev_35 => ?_)
        obtain rfl : v_35 = nI (chN cs (b)) := by rw [ev_35, h11, nI_clamp (by omega)]; exact htx.2.2.1 _ (by omega)
        refine x_calli (x_runS (n := 1) (As := [.int (nI (chN cs (b)))]) (rest := []) ⟨hx, hb, hml, hown, hts⟩ (cM_isSign l D tys A ws1 (chN cs (b)) (by have := htx.2.2.2 (b); omega)) tw_775 tw_776 tw_8 tw_777 (by decide +kernel) rfl rfl ⟨by decide, by decide⟩ ⟨Nat.zero_le _, Nat.zero_le _⟩ hK hP hD hS hA hN rfl hl.1 rfl (lv_room (Nat.le_of_ble_eq_true rfl)) dM_next_170) hS (fun rhr2 ws_36 H locs hr2 hP hD hS => ?_)
        obtain ⟨hr2, rfl⟩ := hr2
        refine lv_if_eq (tgt := 189) hx hb dM_next_173 (by decide) (fun c173 => ?_) (fun c173 => ?_)
        · have hbe : spE isRw cs a = b := by rw [← hsp]; exact spE_e (fun c9 => by rw [hr2, b2i_0] at c173; rw [c173] at c9; exact absurd c9.2 (by decide))
          have hab1 : a < b := by have := spE_s hal hra; have := spE_le isRw cs (a + 1); omega
          have hbl : b ≤ cs.length := by rw [← hbe]; exact spE_ub isRw (by omega)
          have hlast : isRw (chN cs (b - 1)) = true := spE_all _ a (Nat.le_refl _) (b - 1) (by omega) (by omega)
          have hge1 := rw_ge hlast
          have hge0 := rw_ge hra
          have htk := nx_row ha hal hra hbe
          have hca := hc9 a
          have hcb := hc9 (b - 1)
          have hca1 := hc9 (a + 1)
          refine lv_aload_n hx hb dM_next_189 rfl (lv_at hl 0 rfl) ?_
          refine va_get (D := D) (cl := xCl) (ci := 7) (v := .int (v1 11)) (C := rnM) (T := tbM) (N := 39) hx hb hts inM hown hK hP km hM.1 rfl 11 (by decide) (hts _ tw_628) (fun _ h9 => h9) rfl dM_next_190 ?_
          refine lv_aload_n hx hb dM_next_193 rfl (lv_at hl 0 rfl) ?_
          refine va_get (D := D) (cl := xCl) (ci := 7) (v := .int (v1 10)) (C := rnM) (T := tbM) (N := 39) hx hb hts inM hown hK hP km hM.1 rfl 10 (by decide) (hts _ tw_627) (fun _ h9 => h9) rfl dM_next_194 ?_
          refine lv_isub hx hb dM_next_197 ?_
          refine lv_topi (fun v_37 ev_37 => ?_)
          obtain rfl : v_37 = nI (b - a) := by rw [ev_37, h11, h10, pk_sub (by omega)]
          refine lv_istore_n (lv' := [(2, .int (nI (b - a))), (0, .ref (ad km)), (1, .int (nI (chN cs a)))]) hx hb dM_next_198 rfl hl (by decide) rfl (fun ls hl => ?_)
          refine lv_aload_n hx hb dM_next_199 rfl (lv_at hl 1 rfl) ?_
          refine va_get (D := D) (cl := xCl) (ci := 7) (v := .ref (ad (km + 6))) (C := rnM) (T := tbM) (N := 39) hx hb hts inM hown hK hP km hM.1 rfl 7 (by decide) (hts _ tw_624) (fun _ h9 => h9) rfl dM_next_200 ?_
          refine lv_aload_n hx hb dM_next_203 rfl (lv_at hl 1 rfl) ?_
          refine va_get (D := D) (cl := xCl) (ci := 7) (v := .int (v1 11)) (C := rnM) (T := tbM) (N := 39) hx hb hts inM hown hK hP km hM.1 rfl 11 (by decide) (hts _ tw_628) (fun _ h9 => h9) rfl dM_next_204 ?_
          refine lv_iconst (v := 1) hx hb dM_next_207 (by decide) ?_
          refine lv_isub hx hb dM_next_208 ?_
          refine lv_topi (fun v_38 ev_38 => ?_)
          obtain rfl : v_38 = nI (b - 1) := by rw [ev_38, h11, show (1 : Int32) = nI 1 from rfl, pk_sub (by omega)]
          refine va_iald hx hb hK hP (km + 6) 0 (hM.a 6 80 rfl (by omega) (by omega)) hI (vp_in_nI (by omega) (by omega)) dM_next_209 ?_
          refine lv_topi (fun v_39 ev_39 => ?_)
          obtain rfl : v_39 = nI (chN cs (b - 1)) := by rw [ev_39, nI_clamp (by omega)]; exact htx.2.2.1 _ (by omega)
          refine lv_bipush (v := 48) hx hb dM_next_210 (by decide) ?_
          refine lv_isub hx hb dM_next_212 ?_
          refine lv_istore_n (lv' := [(3, .int ((nI (chN cs (b - 1))) - 48)), (2, .int (nI (b - a))), (0, .ref (ad km)), (1, .int (nI (chN cs a)))]) hx hb dM_next_213 rfl hl (by decide) rfl (fun ls hl => ?_)
          refine lv_iload_n hx hb dM_next_214 rfl (lv_at hl 1 rfl) ?_
          refine lv_iconst (v := 2) hx hb dM_next_215 (by decide) ?_
          refine lv_icmp_ne (tgt := 269) hx hb dM_next_216 (by decide) (fun c216 => ?_) (fun c216 => ?_)
          · exact loop_269 _ a b v1 ws1 _ _ _ hF hM hvk h10 h11 ha hal hra hbe (by have nc216 : ¬ (b - a) = 2 := (by have q : ¬ nI ((b - a)) = nI 2 := c216; rw [nI_eq (by omega) (by omega)] at q; exact q); exact (fun z9 => by first | exact n245 z9.2.2.2 | (have := z9.1; have := z9.2.1; have := z9.2.2.1; omega))) (Nat.lt_succ_self _) hP hD hS (lv_sub hl [2, 3, 1, 0] rfl)
          · have hn2 : b - a = 2 := by have q9 : nI (b - a) = nI 2 := c216; rw [nI_eq (by omega) (by omega)] at q9; exact q9
            refine lv_iload_n hx hb dM_next_219 rfl (lv_at hl 3 rfl) ?_
            refine lv_bipush (v := 97) hx hb dM_next_220 (by decide) ?_
            refine lv_icmp_lt (tgt := 269) hx hb dM_next_222 (by decide) (fun c222 => ?_) (fun c222 => ?_)
            · exact loop_269 _ a b v1 ws1 _ _ _ hF hM hvk h10 h11 ha hal hra hbe (by have nc216 : (b - a) = 2 := (by have q : nI ((b - a)) = nI 2 := c216; rw [nI_eq (by omega) (by omega)] at q; exact q); have nc222 : (chN cs a) < 97 := (by have q : nI ((chN cs a)) < nI 97 := c222; rw [nI_ltI (by omega) (by omega)] at q; exact q); exact (fun z9 => by first | exact n245 z9.2.2.2 | (have := z9.1; have := z9.2.1; have := z9.2.2.1; omega))) (Nat.lt_succ_self _) hP hD hS (lv_sub hl [2, 3, 1, 0] rfl)
            · refine lv_iload_n hx hb dM_next_225 rfl (lv_at hl 3 rfl) ?_
              refine lv_bipush (v := 102) hx hb dM_next_226 (by decide) ?_
              refine lv_icmp_gt (tgt := 269) hx hb dM_next_228 (by decide) (fun c228 => ?_) (fun c228 => ?_)
              · exact loop_269 _ a b v1 ws1 _ _ _ hF hM hvk h10 h11 ha hal hra hbe (by have nc216 : (b - a) = 2 := (by have q : nI ((b - a)) = nI 2 := c216; rw [nI_eq (by omega) (by omega)] at q; exact q); have nc222 : ¬ (chN cs a) < 97 := (by have q : ¬ nI ((chN cs a)) < nI 97 := c222; rw [nI_ltI (by omega) (by omega)] at q; exact q); have nc228 : 102 < (chN cs a) := (by have q : nI 102 < nI ((chN cs a)) := c228; rw [nI_ltI (by omega) (by omega)] at q; exact q); exact (fun z9 => by first | exact n245 z9.2.2.2 | (have := z9.1; have := z9.2.1; have := z9.2.2.1; omega))) (Nat.lt_succ_self _) hP hD hS (lv_sub hl [2, 3, 1, 0] rfl)
              · refine lv_aload_n hx hb dM_next_231 rfl (lv_at hl 2 rfl) ?_
                refine va_get (D := D) (cl := xCl) (ci := 7) (v := .ref (ad (km + 6))) (C := rnM) (T := tbM) (N := 39) hx hb hts inM hown hK hP km hM.1 rfl 7 (by decide) (hts _ tw_624) (fun _ h9 => h9) rfl dM_next_232 ?_
                refine lv_aload_n hx hb dM_next_235 rfl (lv_at hl 2 rfl) ?_
                refine va_get (D := D) (cl := xCl) (ci := 7) (v := .int (v1 10)) (C := rnM) (T := tbM) (N := 39) hx hb hts inM hown hK hP km hM.1 rfl 10 (by decide) (hts _ tw_627) (fun _ h9 => h9) rfl dM_next_236 ?_
                refine lv_iconst (v := 1) hx hb dM_next_239 (by decide) ?_
                refine lv_iadd hx hb dM_next_240 ?_
                refine lv_topi (fun v_40 ev_40 => ?_)
                obtain rfl : v_40 = nI (a + 1) := by rw [ev_40, h10, nI_1]
                refine va_iald hx hb hK hP (km + 6) 0 (hM.a 6 80 rfl (by omega) (by omega)) hI (vp_in_nI (by omega) (by omega)) dM_next_241 ?_
                refine lv_topi (fun v_41 ev_41 => ?_)
                obtain rfl : v_41 = nI (chN cs (a + 1)) := by rw [ev_41, nI_clamp (by omega)]; exact htx.2.2.1 _ (by omega)
                refine x_calli (x_runS (n := 1) (As := [.int (nI (chN cs (a + 1)))]) (rest := []) ⟨hx, hb, hml, hown, hts⟩ (cM_isDigit l D tys A ws1 (chN cs (a + 1)) (by have := htx.2.2.2 (a + 1); omega)) tw_778 tw_779 tw_8 tw_780 (by decide +kernel) rfl rfl ⟨by decide, by decide⟩ ⟨Nat.zero_le _, Nat.zero_le _⟩ hK hP hD hS hA hN rfl hl.1 rfl (lv_room (Nat.le_of_ble_eq_true rfl)) dM_next_242) hS (fun rhd1 ws_42 H locs hd1 hP hD hS => ?_)
                obtain ⟨hd1, rfl⟩ := hd1
                refine lv_if_eq (tgt := 269) hx hb dM_next_245 (by decide) (fun c245 => ?_) (fun c245 => ?_)
                · exact loop_269 _ a b v1 ws1 _ _ _ hF hM hvk h10 h11 ha hal hra hbe (by have nc216 : (b - a) = 2 := (by have q : nI ((b - a)) = nI 2 := c216; rw [nI_eq (by omega) (by omega)] at q; exact q); have nc222 : ¬ (chN cs a) < 97 := (by have q : ¬ nI ((chN cs a)) < nI 97 := c222; rw [nI_ltI (by omega) (by omega)] at q; exact q); have nc228 : ¬ 102 < (chN cs a) := (by have q : ¬ nI 102 < nI ((chN cs a)) := c228; rw [nI_ltI (by omega) (by omega)] at q; exact q); have n245 : ¬ isDg (chN cs (a + 1)) = true := (by rw [show isDg (chN cs (a + 1)) = false from b2i_0.mp (by rw [← hd1]; exact c245)]; decide); exact (fun z9 => by first | exact n245 z9.2.2.2 | (have := z9.1; have := z9.2.1; have := z9.2.2.1; omega))) (Nat.lt_succ_self _) hP hD hS (lv_sub hl [2, 3, 1, 0] rfl)
                · refine lv_aload_n hx hb dM_next_248 rfl (lv_at hl 2 rfl) ?_
                  refine lv_iconst (v := 2) hx hb dM_next_249 (by decide) ?_
                  refine va_put (D := D) (cl := xCl) (ci := 7) (v := .int 2) (ty := .int) (C := rnM) (T := tbM) (N := 39) hx hb hts inM tyM toM nmM hown hK hP hD hS km hM.1 rfl 9 (by decide) (hts _ tw_626) (fun _ h9 => h9) rfl (by decide +kernel) rfl rfl (Nat.le_of_ble_eq_true rfl) dM_next_250 (fun H locs hP hD hS => ?_)
                  obtain ⟨ws_44, hu_43, hP, hD⟩ := x_gen hM.1 hP hD
                  have hM : ModF cI ad ws_44 km (setV v1 9 2) F := hM.fld_9 hu_43
                  have hF := hF.tr (hu_43.fr (a := km) (b := km + 24) (by omega) (by omega))
                  refine lv_aload_n hx hb dM_next_253 rfl (lv_at hl 2 rfl) ?_
                  refine lv_bipush (v := 10) hx hb dM_next_254 (by decide) ?_
                  refine lv_iload_n hx hb dM_next_256 rfl (lv_at hl 3 rfl) ?_
                  refine lv_bipush (v := 97) hx hb dM_next_257 (by decide) ?_
                  refine lv_isub hx hb dM_next_259 ?_
                  refine lv_imul hx hb dM_next_260 ?_
                  refine lv_iload_n hx hb dM_next_261 rfl (lv_at hl 0 rfl) ?_
                  refine lv_iadd hx hb dM_next_262 ?_
                  refine va_put (D := D) (cl := xCl) (ci := 7) (v := .int ((10 * ((nI (chN cs a)) - 97)) + ((nI (chN cs (b - 1))) - 48))) (ty := .int) (C := rnM) (T := tbM) (N := 39) hx hb hts inM tyM toM nmM hown hK hP hD hS km hM.1 rfl 12 (by decide) (hts _ tw_629) (fun _ h9 => h9) rfl (by decide +kernel) rfl rfl (Nat.le_of_ble_eq_true rfl) dM_next_263 (fun H locs hP hD hS => ?_)
                  obtain ⟨ws_46, hu_45, hP, hD⟩ := x_gen hM.1 hP hD
                  have hM : ModF cI ad ws_46 km (setV (setV v1 9 2) 12 (((10 * ((nI (chN cs a)) - 97)) + ((nI (chN cs (b - 1))) - 48)))) F := hM.fld_12 hu_45
                  have hF := hF.tr (hu_45.fr (a := km) (b := km + 24) (by omega) (by omega))
                  refine lv_goto (tgt := 369) hx hb dM_next_266 (by decide) ?_
                  exact x_vret hx hb hr hlk hK hP hD hS dM_next_369 (by have nc216 : (b - a) = 2 := (by have q : nI ((b - a)) = nI 2 := c216; rw [nI_eq (by omega) (by omega)] at q; exact q); have nc222 : ¬ (chN cs a) < 97 := (by have q : ¬ nI ((chN cs a)) < nI 97 := c222; rw [nI_ltI (by omega) (by omega)] at q; exact q); have nc228 : ¬ 102 < (chN cs a) := (by have q : ¬ nI 102 < nI ((chN cs a)) := c228; rw [nI_ltI (by omega) (by omega)] at q; exact q); have n245 : isDg (chN cs (a + 1)) = true := b2i_n0.mp (by rw [← hd1]; exact c245); have hbb : b = a + 2 := (by omega); subst hbb; rw [rk_name (by omega) (by omega) n245] at htk; exact ⟨hF, _, hM, hvk.tr ((vk_s (by simp)).tr (vk_s (by simp))), NxV.z htk rfl (by exact h10) (by exact h11) (fun _ => by show ((10 * ((nI (chN cs a)) - 97)) + ((nI (chN cs ((a + 2) - 1))) - 48)) = _; unfold rvF; rw [if_neg (by decide), if_pos rfl]; exact dv_3 (k := 97) (by omega) (by omega))⟩)
        · refine lv_aload_n hx hb dM_next_176 rfl (lv_at hl 0 rfl) ?_
          refine lv_dup hx hb dM_next_177 rfl ?_
          refine va_get (D := D) (cl := xCl) (ci := 7) (v := .int (v1 11)) (C := rnM) (T := tbM) (N := 39) hx hb hts inM hown hK hP km hM.1 rfl 11 (by decide) (hts _ tw_628) (fun _ h9 => h9) rfl dM_next_178 ?_
          refine lv_iconst (v := 1) hx hb dM_next_181 (by decide) ?_
          refine lv_iadd hx hb dM_next_182 ?_
          refine lv_topi (fun v_47 ev_47 => ?_)
          refine va_put (D := D) (cl := xCl) (ci := 7) (v := .int v_47) (ty := .int) (C := rnM) (T := tbM) (N := 39) hx hb hts inM tyM toM nmM hown hK hP hD hS km hM.1 rfl 11 (by decide) (hts _ tw_628) (fun _ h9 => h9) rfl (by decide +kernel) rfl rfl (Nat.le_of_ble_eq_true rfl) dM_next_183 (fun H locs hP hD hS => ?_)
          obtain ⟨ws_49, hu_48, hP, hD⟩ := x_gen hM.1 hP hD
          have hM : ModF cI ad ws_49 km (setV v1 11 v_47) F := hM.fld_11 hu_48
          have hF := hF.tr (hu_48.fr (a := km) (b := km + 24) (by omega) (by omega))
          refine lv_goto (tgt := 150) hx hb dM_next_186 (by decide) ?_
          exact ih a (b + 1) (setV v1 11 v_47) ws_49 _ _ _ hF hM (hvk.tr (vk_s (by simp))) (by exact h10) (by show v_47 = _; rw [ev_47, h11, nI_1]) ha hal hra (by omega) (by omega) (by rw [← hsp, spE_s hb2 (b2i_n0.mp (by rw [← hr2]; exact c173))]) (by omega) hP hD hS (lv_sub hl [0, 1] rfl)
  have loop_8 : ∀ (fu9 : Nat) (a : Nat) (v1 : Nat → Int32) (ws1 : va_W) (H : Heap) (locs : List Loc) (ls : Array Slot), x_fr km (km + 24) ws ws1 → ModF cI ad ws1 km v1 F → vk [9, 10, 11, 12] v v1 → v1 10 = nI a → a ≤ cs.length → spE isBl cs a = spE isBl cs e0 → cs.length - a < fu9 → va_P D xCl ws1 H → va_D A ws1 → va_S A s.heap H locs → lv_has ls 4 [(0, .ref (ad km))] → W p l e (xR 2) s m args below meth c H locs 0 0 (MQ below (va_Qv (fun ws1 => x_fr km (km + 24) ws ws1 ∧ ∃ v9, ModF cI ad ws1 km v9 F ∧ vk [9, 10, 11, 12] v v9 ∧ NxV cs v9 e0) (x_B D xCl tys A) A) args s 0 0 A) (F0 m 8 ls []) := by
    intro fu9
    induction fu9 with
    | zero => intro a v1 ws1 H locs ls hF hM hvk h10 hal9 hsp hme; exact absurd hme (Nat.not_lt_zero _)
    | succ fu9 ih =>
      intro a v1 ws1 H locs ls hF hM hvk h10 hal9 hsp hme hP hD hS hl
      have hle := htx.2.1
      have hv8 : v1 8 = nI cs.length := by rw [hvk 8 (by simp)]; exact htx.1
      have hc9 := htx.2.2.2
      refine lv_aload_n hx hb dM_next_8 rfl (lv_at hl 0 rfl) ?_
      refine va_get (D := D) (cl := xCl) (ci := 7) (v := .int (v1 10)) (C := rnM) (T := tbM) (N := 39) hx hb hts inM hown hK hP km hM.1 rfl 10 (by decide) (hts _ tw_627) (fun _ h9 => h9) rfl dM_next_9 ?_
      refine lv_aload_n hx hb dM_next_12 rfl (lv_at hl 0 rfl) ?_
      refine va_get (D := D) (cl := xCl) (ci := 7) (v := .int (v1 8)) (C := rnM) (T := tbM) (N := 39) hx hb hts inM hown hK hP km hM.1 rfl 8 (by decide) (hts _ tw_625) (fun _ h9 => h9) rfl dM_next_13 ?_
      refine lv_icmp_ge (tgt := 46) hx hb dM_next_16 (by decide) (fun c16 => ?_) (fun c16 => ?_)
      · have ha : spE isBl cs e0 = a := by rw [← hsp]; exact spE_e (fun c9 => by rw [h10, hv8, nI_leI (by omega) (by omega)] at c16; omega)
        refine lv_aload_n hx hb dM_next_46 rfl (lv_at hl 0 rfl) ?_
        refine lv_aload_n hx hb dM_next_47 rfl (lv_at hl 0 rfl) ?_
        refine va_get (D := D) (cl := xCl) (ci := 7) (v := .int (v1 10)) (C := rnM) (T := tbM) (N := 39) hx hb hts inM hown hK hP km hM.1 rfl 10 (by decide) (hts _ tw_627) (fun _ h9 => h9) rfl dM_next_48 ?_
        refine va_put (D := D) (cl := xCl) (ci := 7) (v := .int (v1 10)) (ty := .int) (C := rnM) (T := tbM) (N := 39) hx hb hts inM tyM toM nmM hown hK hP hD hS km hM.1 rfl 11 (by decide) (hts _ tw_628) (fun _ h9 => h9) rfl (by decide +kernel) rfl rfl (Nat.le_of_ble_eq_true rfl) dM_next_51 (fun H locs hP hD hS => ?_)
        obtain ⟨ws_51, hu_50, hP, hD⟩ := x_gen hM.1 hP hD
        have hM : ModF cI ad ws_51 km (setV v1 11 ((v1 10))) F := hM.fld_11 hu_50
        have hF := hF.tr (hu_50.fr (a := km) (b := km + 24) (by omega) (by omega))
        refine lv_aload_n hx hb dM_next_54 rfl (lv_at hl 0 rfl) ?_
        refine va_get (D := D) (cl := xCl) (ci := 7) (v := .int (v1 10)) (C := rnM) (T := tbM) (N := 39) hx hb hts inM hown hK hP km hM.1 rfl 10 (by decide) (hts _ tw_627) (fun _ h9 => h9) rfl dM_next_55 ?_
        refine lv_aload_n hx hb dM_next_58 rfl (lv_at hl 0 rfl) ?_
        refine va_get (D := D) (cl := xCl) (ci := 7) (v := .int (v1 8)) (C := rnM) (T := tbM) (N := 39) hx hb hts inM hown hK hP km hM.1 rfl 8 (by decide) (hts _ tw_625) (fun _ h9 => h9) rfl dM_next_59 ?_
        refine lv_icmp_ne (tgt := 71) hx hb dM_next_62 (by decide) (fun c62 => ?_) (fun c62 => ?_)
        · have hal : a < cs.length := by rcases Nat.lt_or_ge a cs.length with z9 | z9; exact z9; exact absurd (by rw [h10, hv8, show a = cs.length by omega]) c62
          refine lv_aload_n hx hb dM_next_71 rfl (lv_at hl 0 rfl) ?_
          refine va_get (D := D) (cl := xCl) (ci := 7) (v := .ref (ad (km + 6))) (C := rnM) (T := tbM) (N := 39) hx hb hts inM hown hK hP km hM.1 rfl 7 (by decide) (hts _ tw_624) (fun _ h9 => h9) rfl dM_next_72 ?_
          refine lv_aload_n hx hb dM_next_75 rfl (lv_at hl 0 rfl) ?_
          refine va_get (D := D) (cl := xCl) (ci := 7) (v := .int (v1 10)) (C := rnM) (T := tbM) (N := 39) hx hb hts inM hown hK hP km hM.1 rfl 10 (by decide) (hts _ tw_627) (fun _ h9 => h9) rfl dM_next_76 ?_
          refine va_iald hx hb hK hP (km + 6) 0 (hM.a 6 80 rfl (by omega) (by omega)) hI (by rw [h10]; exact vp_in_nI (by omega) (by omega)) dM_next_79 ?_
          refine lv_topi (fun v_52 ev_52 => ?_)
          obtain rfl : v_52 = nI (chN cs (a)) := by rw [ev_52, h10, nI_clamp (by omega)]; exact htx.2.2.1 _ (by omega)
          refine lv_istore_n (lv' := [(1, .int (nI (chN cs (a)))), (0, .ref (ad km))]) hx hb dM_next_80 rfl hl (by decide) rfl (fun ls hl => ?_)
          refine lv_iload_n hx hb dM_next_81 rfl (lv_at hl 0 rfl) ?_
          refine x_calli (x_runS (n := 1) (As := [.int (nI (chN cs (a)))]) (rest := []) ⟨hx, hb, hml, hown, hts⟩ (cM_isSign l D tys A ws_51 (chN cs (a)) (by have := htx.2.2.2 (a); omega)) tw_775 tw_776 tw_8 tw_777 (by decide +kernel) rfl rfl ⟨by decide, by decide⟩ ⟨Nat.zero_le _, Nat.zero_le _⟩ hK hP hD hS hA hN rfl hl.1 rfl (lv_room (Nat.le_of_ble_eq_true rfl)) dM_next_82) hS (fun rhr1 ws_53 H locs hr1 hP hD hS => ?_)
          obtain ⟨hr1, rfl⟩ := hr1
          refine lv_if_ne (tgt := 150) hx hb dM_next_85 (by decide) (fun c85 => ?_) (fun c85 => ?_)
          · exact loop_150 _ a a (setV v1 11 ((v1 10))) ws_51 _ _ _ hF hM (hvk.tr (vk_s (by simp))) (by exact h10) (by show v1 10 = _; exact h10) ha hal (b2i_n0.mp (by rw [← hr1]; exact c85)) (Nat.le_refl _) (by omega) rfl (Nat.lt_succ_self _) hP hD hS (lv_sub hl [1, 0] rfl)
          · refine lv_aload_n hx hb dM_next_88 rfl (lv_at hl 1 rfl) ?_
            refine lv_dup hx hb dM_next_89 rfl ?_
            refine va_get (D := D) (cl := xCl) (ci := 7) (v := .int (v1 10)) (C := rnM) (T := tbM) (N := 39) hx hb hts inM hown hK hP km hM.1 rfl 11 (by decide) (hts _ tw_628) (fun _ h9 => h9) rfl dM_next_90 ?_
            refine lv_iconst (v := 1) hx hb dM_next_93 (by decide) ?_
            refine lv_iadd hx hb dM_next_94 ?_
            refine lv_topi (fun v_54 ev_54 => ?_)
            refine va_put (D := D) (cl := xCl) (ci := 7) (v := .int v_54) (ty := .int) (C := rnM) (T := tbM) (N := 39) hx hb hts inM tyM toM nmM hown hK hP hD hS km hM.1 rfl 11 (by decide) (hts _ tw_628) (fun _ h9 => h9) rfl (by decide +kernel) rfl rfl (Nat.le_of_ble_eq_true rfl) dM_next_95 (fun H locs hP hD hS => ?_)
            obtain ⟨ws_56, hu_55, hP, hD⟩ := x_gen hM.1 hP hD
            have hM : ModF cI ad ws_56 km (setV (setV v1 11 ((v1 10))) 11 v_54) F := hM.fld_11 hu_55
            have hF := hF.tr (hu_55.fr (a := km) (b := km + 24) (by omega) (by omega))
            have hrn : ¬ isRw (chN cs a) = true := by rw [show isRw (chN cs a) = false from b2i_0.mp (by rw [← hr1]; exact c85)]; decide
            have hca := hc9 a
            refine lv_aload_n hx hb dM_next_98 rfl (lv_at hl 1 rfl) ?_
            refine lv_iload_n hx hb dM_next_99 rfl (lv_at hl 0 rfl) ?_
            refine lv_bipush (v := 40) hx hb dM_next_100 (by decide) ?_
            refine lv_icmp_eq (tgt := 141) hx hb dM_next_102 (by decide) (fun c102 => ?_) (fun c102 => ?_)
            · refine lv_iload_n hx hb dM_next_141 rfl (lv_at hl 0 rfl) ?_
              refine lv_goto (tgt := 146) hx hb dM_next_142 (by decide) ?_
              refine va_put (D := D) (cl := xCl) (ci := 7) (v := .int (nI (chN cs (a)))) (ty := .int) (C := rnM) (T := tbM) (N := 39) hx hb hts inM tyM toM nmM hown hK hP hD hS km hM.1 rfl 9 (by decide) (hts _ tw_626) (fun _ h9 => h9) rfl (by decide +kernel) rfl rfl (Nat.le_of_ble_eq_true rfl) dM_next_146 (fun H locs hP hD hS => ?_)
              obtain ⟨ws_58, hu_57, hP, hD⟩ := x_gen hM.1 hP hD
              have hM : ModF cI ad ws_58 km (setV (setV (setV v1 11 ((v1 10))) 11 v_54) 9 ((nI (chN cs (a))))) F := hM.fld_9 hu_57
              have hF := hF.tr (hu_57.fr (a := km) (b := km + 24) (by omega) (by omega))
              exact x_vret hx hb hr hlk hK hP hD hS dM_next_149 ⟨hF, _, hM, hvk.tr ((vk_s (by simp)).tr ((vk_s (by simp)).tr (vk_s (by simp)))), NxV.sg ha hal hrn (by omega) (by have nc102 : (chN cs (a)) = 40 := (by have q : nI ((chN cs (a))) = nI 40 := c102; rw [nI_eq (by omega) (by omega)] at q; exact q); show (nI (chN cs (a))) = _; rw [if_pos (sg_of (by omega))]) (by exact h10) (by show v_54 = _; rw [ev_54]; show v1 10 + 1 = _; rw [h10, nI_1])⟩
            · refine lv_iload_n hx hb dM_next_105 rfl (lv_at hl 0 rfl) ?_
              refine lv_bipush (v := 41) hx hb dM_next_106 (by decide) ?_
              refine lv_icmp_eq (tgt := 141) hx hb dM_next_108 (by decide) (fun c108 => ?_) (fun c108 => ?_)
              · refine lv_iload_n hx hb dM_next_141 rfl (lv_at hl 0 rfl) ?_
                refine lv_goto (tgt := 146) hx hb dM_next_142 (by decide) ?_
                refine va_put (D := D) (cl := xCl) (ci := 7) (v := .int (nI (chN cs (a)))) (ty := .int) (C := rnM) (T := tbM) (N := 39) hx hb hts inM tyM toM nmM hown hK hP hD hS km hM.1 rfl 9 (by decide) (hts _ tw_626) (fun _ h9 => h9) rfl (by decide +kernel) rfl rfl (Nat.le_of_ble_eq_true rfl) dM_next_146 (fun H locs hP hD hS => ?_)
                obtain ⟨ws_60, hu_59, hP, hD⟩ := x_gen hM.1 hP hD
                have hM : ModF cI ad ws_60 km (setV (setV (setV v1 11 ((v1 10))) 11 v_54) 9 ((nI (chN cs (a))))) F := hM.fld_9 hu_59
                have hF := hF.tr (hu_59.fr (a := km) (b := km + 24) (by omega) (by omega))
                exact x_vret hx hb hr hlk hK hP hD hS dM_next_149 ⟨hF, _, hM, hvk.tr ((vk_s (by simp)).tr ((vk_s (by simp)).tr (vk_s (by simp)))), NxV.sg ha hal hrn (by omega) (by have nc102 : ¬ (chN cs (a)) = 40 := (by have q : ¬ nI ((chN cs (a))) = nI 40 := c102; rw [nI_eq (by omega) (by omega)] at q; exact q); have nc108 : (chN cs (a)) = 41 := (by have q : nI ((chN cs (a))) = nI 41 := c108; rw [nI_eq (by omega) (by omega)] at q; exact q); show (nI (chN cs (a))) = _; rw [if_pos (sg_of (by omega))]) (by exact h10) (by show v_54 = _; rw [ev_54]; show v1 10 + 1 = _; rw [h10, nI_1])⟩
              · refine lv_iload_n hx hb dM_next_111 rfl (lv_at hl 0 rfl) ?_
                refine lv_bipush (v := 44) hx hb dM_next_112 (by decide) ?_
                refine lv_icmp_eq (tgt := 141) hx hb dM_next_114 (by decide) (fun c114 => ?_) (fun c114 => ?_)
                · refine lv_iload_n hx hb dM_next_141 rfl (lv_at hl 0 rfl) ?_
                  refine lv_goto (tgt := 146) hx hb dM_next_142 (by decide) ?_
                  refine va_put (D := D) (cl := xCl) (ci := 7) (v := .int (nI (chN cs (a)))) (ty := .int) (C := rnM) (T := tbM) (N := 39) hx hb hts inM tyM toM nmM hown hK hP hD hS km hM.1 rfl 9 (by decide) (hts _ tw_626) (fun _ h9 => h9) rfl (by decide +kernel) rfl rfl (Nat.le_of_ble_eq_true rfl) dM_next_146 (fun H locs hP hD hS => ?_)
                  obtain ⟨ws_62, hu_61, hP, hD⟩ := x_gen hM.1 hP hD
                  have hM : ModF cI ad ws_62 km (setV (setV (setV v1 11 ((v1 10))) 11 v_54) 9 ((nI (chN cs (a))))) F := hM.fld_9 hu_61
                  have hF := hF.tr (hu_61.fr (a := km) (b := km + 24) (by omega) (by omega))
                  exact x_vret hx hb hr hlk hK hP hD hS dM_next_149 ⟨hF, _, hM, hvk.tr ((vk_s (by simp)).tr ((vk_s (by simp)).tr (vk_s (by simp)))), NxV.sg ha hal hrn (by omega) (by have nc102 : ¬ (chN cs (a)) = 40 := (by have q : ¬ nI ((chN cs (a))) = nI 40 := c102; rw [nI_eq (by omega) (by omega)] at q; exact q); have nc108 : ¬ (chN cs (a)) = 41 := (by have q : ¬ nI ((chN cs (a))) = nI 41 := c108; rw [nI_eq (by omega) (by omega)] at q; exact q); have nc114 : (chN cs (a)) = 44 := (by have q : nI ((chN cs (a))) = nI 44 := c114; rw [nI_eq (by omega) (by omega)] at q; exact q); show (nI (chN cs (a))) = _; rw [if_pos (sg_of (by omega))]) (by exact h10) (by show v_54 = _; rw [ev_54]; show v1 10 + 1 = _; rw [h10, nI_1])⟩
                · refine lv_iload_n hx hb dM_next_117 rfl (lv_at hl 0 rfl) ?_
                  refine lv_bipush (v := 61) hx hb dM_next_118 (by decide) ?_
                  refine lv_icmp_eq (tgt := 141) hx hb dM_next_120 (by decide) (fun c120 => ?_) (fun c120 => ?_)
                  · refine lv_iload_n hx hb dM_next_141 rfl (lv_at hl 0 rfl) ?_
                    refine lv_goto (tgt := 146) hx hb dM_next_142 (by decide) ?_
                    refine va_put (D := D) (cl := xCl) (ci := 7) (v := .int (nI (chN cs (a)))) (ty := .int) (C := rnM) (T := tbM) (N := 39) hx hb hts inM tyM toM nmM hown hK hP hD hS km hM.1 rfl 9 (by decide) (hts _ tw_626) (fun _ h9 => h9) rfl (by decide +kernel) rfl rfl (Nat.le_of_ble_eq_true rfl) dM_next_146 (fun H locs hP hD hS => ?_)
                    obtain ⟨ws_64, hu_63, hP, hD⟩ := x_gen hM.1 hP hD
                    have hM : ModF cI ad ws_64 km (setV (setV (setV v1 11 ((v1 10))) 11 v_54) 9 ((nI (chN cs (a))))) F := hM.fld_9 hu_63
                    have hF := hF.tr (hu_63.fr (a := km) (b := km + 24) (by omega) (by omega))
                    exact x_vret hx hb hr hlk hK hP hD hS dM_next_149 ⟨hF, _, hM, hvk.tr ((vk_s (by simp)).tr ((vk_s (by simp)).tr (vk_s (by simp)))), NxV.sg ha hal hrn (by omega) (by have nc102 : ¬ (chN cs (a)) = 40 := (by have q : ¬ nI ((chN cs (a))) = nI 40 := c102; rw [nI_eq (by omega) (by omega)] at q; exact q); have nc108 : ¬ (chN cs (a)) = 41 := (by have q : ¬ nI ((chN cs (a))) = nI 41 := c108; rw [nI_eq (by omega) (by omega)] at q; exact q); have nc114 : ¬ (chN cs (a)) = 44 := (by have q : ¬ nI ((chN cs (a))) = nI 44 := c114; rw [nI_eq (by omega) (by omega)] at q; exact q); have nc120 : (chN cs (a)) = 61 := (by have q : nI ((chN cs (a))) = nI 61 := c120; rw [nI_eq (by omega) (by omega)] at q; exact q); show (nI (chN cs (a))) = _; rw [if_pos (sg_of (by omega))]) (by exact h10) (by show v_54 = _; rw [ev_54]; show v1 10 + 1 = _; rw [h10, nI_1])⟩
                  · refine lv_iload_n hx hb dM_next_123 rfl (lv_at hl 0 rfl) ?_
                    refine lv_bipush (v := 43) hx hb dM_next_124 (by decide) ?_
                    refine lv_icmp_eq (tgt := 141) hx hb dM_next_126 (by decide) (fun c126 => ?_) (fun c126 => ?_)
                    · refine lv_iload_n hx hb dM_next_141 rfl (lv_at hl 0 rfl) ?_
                      refine lv_goto (tgt := 146) hx hb dM_next_142 (by decide) ?_
                      refine va_put (D := D) (cl := xCl) (ci := 7) (v := .int (nI (chN cs (a)))) (ty := .int) (C := rnM) (T := tbM) (N := 39) hx hb hts inM tyM toM nmM hown hK hP hD hS km hM.1 rfl 9 (by decide) (hts _ tw_626) (fun _ h9 => h9) rfl (by decide +kernel) rfl rfl (Nat.le_of_ble_eq_true rfl) dM_next_146 (fun H locs hP hD hS => ?_)
                      obtain ⟨ws_66, hu_65, hP, hD⟩ := x_gen hM.1 hP hD
                      have hM : ModF cI ad ws_66 km (setV (setV (setV v1 11 ((v1 10))) 11 v_54) 9 ((nI (chN cs (a))))) F := hM.fld_9 hu_65
                      have hF := hF.tr (hu_65.fr (a := km) (b := km + 24) (by omega) (by omega))
                      exact x_vret hx hb hr hlk hK hP hD hS dM_next_149 ⟨hF, _, hM, hvk.tr ((vk_s (by simp)).tr ((vk_s (by simp)).tr (vk_s (by simp)))), NxV.sg ha hal hrn (by omega) (by have nc102 : ¬ (chN cs (a)) = 40 := (by have q : ¬ nI ((chN cs (a))) = nI 40 := c102; rw [nI_eq (by omega) (by omega)] at q; exact q); have nc108 : ¬ (chN cs (a)) = 41 := (by have q : ¬ nI ((chN cs (a))) = nI 41 := c108; rw [nI_eq (by omega) (by omega)] at q; exact q); have nc114 : ¬ (chN cs (a)) = 44 := (by have q : ¬ nI ((chN cs (a))) = nI 44 := c114; rw [nI_eq (by omega) (by omega)] at q; exact q); have nc120 : ¬ (chN cs (a)) = 61 := (by have q : ¬ nI ((chN cs (a))) = nI 61 := c120; rw [nI_eq (by omega) (by omega)] at q; exact q); have nc126 : (chN cs (a)) = 43 := (by have q : nI ((chN cs (a))) = nI 43 := c126; rw [nI_eq (by omega) (by omega)] at q; exact q); show (nI (chN cs (a))) = _; rw [if_pos (sg_of (by omega))]) (by exact h10) (by show v_54 = _; rw [ev_54]; show v1 10 + 1 = _; rw [h10, nI_1])⟩
                    · refine lv_iload_n hx hb dM_next_129 rfl (lv_at hl 0 rfl) ?_
                      refine lv_bipush (v := 45) hx hb dM_next_130 (by decide) ?_
                      refine lv_icmp_eq (tgt := 141) hx hb dM_next_132 (by decide) (fun c132 => ?_) (fun c132 => ?_)
                      · refine lv_iload_n hx hb dM_next_141 rfl (lv_at hl 0 rfl) ?_
                        refine lv_goto (tgt := 146) hx hb dM_next_142 (by decide) ?_
                        refine va_put (D := D) (cl := xCl) (ci := 7) (v := .int (nI (chN cs (a)))) (ty := .int) (C := rnM) (T := tbM) (N := 39) hx hb hts inM tyM toM nmM hown hK hP hD hS km hM.1 rfl 9 (by decide) (hts _ tw_626) (fun _ h9 => h9) rfl (by decide +kernel) rfl rfl (Nat.le_of_ble_eq_true rfl) dM_next_146 (fun H locs hP hD hS => ?_)
                        obtain ⟨ws_68, hu_67, hP, hD⟩ := x_gen hM.1 hP hD
                        have hM : ModF cI ad ws_68 km (setV (setV (setV v1 11 ((v1 10))) 11 v_54) 9 ((nI (chN cs (a))))) F := hM.fld_9 hu_67
                        have hF := hF.tr (hu_67.fr (a := km) (b := km + 24) (by omega) (by omega))
                        exact x_vret hx hb hr hlk hK hP hD hS dM_next_149 ⟨hF, _, hM, hvk.tr ((vk_s (by simp)).tr ((vk_s (by simp)).tr (vk_s (by simp)))), NxV.sg ha hal hrn (by omega) (by have nc102 : ¬ (chN cs (a)) = 40 := (by have q : ¬ nI ((chN cs (a))) = nI 40 := c102; rw [nI_eq (by omega) (by omega)] at q; exact q); have nc108 : ¬ (chN cs (a)) = 41 := (by have q : ¬ nI ((chN cs (a))) = nI 41 := c108; rw [nI_eq (by omega) (by omega)] at q; exact q); have nc114 : ¬ (chN cs (a)) = 44 := (by have q : ¬ nI ((chN cs (a))) = nI 44 := c114; rw [nI_eq (by omega) (by omega)] at q; exact q); have nc120 : ¬ (chN cs (a)) = 61 := (by have q : ¬ nI ((chN cs (a))) = nI 61 := c120; rw [nI_eq (by omega) (by omega)] at q; exact q); have nc126 : ¬ (chN cs (a)) = 43 := (by have q : ¬ nI ((chN cs (a))) = nI 43 := c126; rw [nI_eq (by omega) (by omega)] at q; exact q); have nc132 : (chN cs (a)) = 45 := (by have q : nI ((chN cs (a))) = nI 45 := c132; rw [nI_eq (by omega) (by omega)] at q; exact q); show (nI (chN cs (a))) = _; rw [if_pos (sg_of (by omega))]) (by exact h10) (by show v_54 = _; rw [ev_54]; show v1 10 + 1 = _; rw [h10, nI_1])⟩
                      · refine lv_iload_n hx hb dM_next_135 rfl (lv_at hl 0 rfl) ?_
                        refine lv_bipush (v := 38) hx hb dM_next_136 (by decide) ?_
                        refine lv_icmp_ne (tgt := 145) hx hb dM_next_138 (by decide) (fun c138 => ?_) (fun c138 => ?_)
                        · refine lv_iconst (v := 1) hx hb dM_next_145 (by decide) ?_
                          refine va_put (D := D) (cl := xCl) (ci := 7) (v := .int 1) (ty := .int) (C := rnM) (T := tbM) (N := 39) hx hb hts inM tyM toM nmM hown hK hP hD hS km hM.1 rfl 9 (by decide) (hts _ tw_626) (fun _ h9 => h9) rfl (by decide +kernel) rfl rfl (Nat.le_of_ble_eq_true rfl) dM_next_146 (fun H locs hP hD hS => ?_)
                          obtain ⟨ws_70, hu_69, hP, hD⟩ := x_gen hM.1 hP hD
                          have hM : ModF cI ad ws_70 km (setV (setV (setV v1 11 ((v1 10))) 11 v_54) 9 1) F := hM.fld_9 hu_69
                          have hF := hF.tr (hu_69.fr (a := km) (b := km + 24) (by omega) (by omega))
                          exact x_vret hx hb hr hlk hK hP hD hS dM_next_149 ⟨hF, _, hM, hvk.tr ((vk_s (by simp)).tr ((vk_s (by simp)).tr (vk_s (by simp)))), NxV.sg ha hal hrn (by omega) (by have nc102 : ¬ (chN cs (a)) = 40 := (by have q : ¬ nI ((chN cs (a))) = nI 40 := c102; rw [nI_eq (by omega) (by omega)] at q; exact q); have nc108 : ¬ (chN cs (a)) = 41 := (by have q : ¬ nI ((chN cs (a))) = nI 41 := c108; rw [nI_eq (by omega) (by omega)] at q; exact q); have nc114 : ¬ (chN cs (a)) = 44 := (by have q : ¬ nI ((chN cs (a))) = nI 44 := c114; rw [nI_eq (by omega) (by omega)] at q; exact q); have nc120 : ¬ (chN cs (a)) = 61 := (by have q : ¬ nI ((chN cs (a))) = nI 61 := c120; rw [nI_eq (by omega) (by omega)] at q; exact q); have nc126 : ¬ (chN cs (a)) = 43 := (by have q : ¬ nI ((chN cs (a))) = nI 43 := c126; rw [nI_eq (by omega) (by omega)] at q; exact q); have nc132 : ¬ (chN cs (a)) = 45 := (by have q : ¬ nI ((chN cs (a))) = nI 45 := c132; rw [nI_eq (by omega) (by omega)] at q; exact q); have nc138 : ¬ (chN cs (a)) = 38 := (by have q : ¬ nI ((chN cs (a))) = nI 38 := c138; rw [nI_eq (by omega) (by omega)] at q; exact q); show (1 : Int32) = _; rw [if_neg (sg_no (by omega))]) (by exact h10) (by show v_54 = _; rw [ev_54]; show v1 10 + 1 = _; rw [h10, nI_1])⟩
                        · refine lv_iload_n hx hb dM_next_141 rfl (lv_at hl 0 rfl) ?_
                          refine lv_goto (tgt := 146) hx hb dM_next_142 (by decide) ?_
                          refine va_put (D := D) (cl := xCl) (ci := 7) (v := .int (nI (chN cs (a)))) (ty := .int) (C := rnM) (T := tbM) (N := 39) hx hb hts inM tyM toM nmM hown hK hP hD hS km hM.1 rfl 9 (by decide) (hts _ tw_626) (fun _ h9 => h9) rfl (by decide +kernel) rfl rfl (Nat.le_of_ble_eq_true rfl) dM_next_146 (fun H locs hP hD hS => ?_)
                          obtain ⟨ws_72, hu_71, hP, hD⟩ := x_gen hM.1 hP hD
                          have hM : ModF cI ad ws_72 km (setV (setV (setV v1 11 ((v1 10))) 11 v_54) 9 ((nI (chN cs (a))))) F := hM.fld_9 hu_71
                          have hF := hF.tr (hu_71.fr (a := km) (b := km + 24) (by omega) (by omega))
                          exact x_vret hx hb hr hlk hK hP hD hS dM_next_149 ⟨hF, _, hM, hvk.tr ((vk_s (by simp)).tr ((vk_s (by simp)).tr (vk_s (by simp)))), NxV.sg ha hal hrn (by omega) (by have nc102 : ¬ (chN cs (a)) = 40 := (by have q : ¬ nI ((chN cs (a))) = nI 40 := c102; rw [nI_eq (by omega) (by omega)] at q; exact q); have nc108 : ¬ (chN cs (a)) = 41 := (by have q : ¬ nI ((chN cs (a))) = nI 41 := c108; rw [nI_eq (by omega) (by omega)] at q; exact q); have nc114 : ¬ (chN cs (a)) = 44 := (by have q : ¬ nI ((chN cs (a))) = nI 44 := c114; rw [nI_eq (by omega) (by omega)] at q; exact q); have nc120 : ¬ (chN cs (a)) = 61 := (by have q : ¬ nI ((chN cs (a))) = nI 61 := c120; rw [nI_eq (by omega) (by omega)] at q; exact q); have nc126 : ¬ (chN cs (a)) = 43 := (by have q : ¬ nI ((chN cs (a))) = nI 43 := c126; rw [nI_eq (by omega) (by omega)] at q; exact q); have nc132 : ¬ (chN cs (a)) = 45 := (by have q : ¬ nI ((chN cs (a))) = nI 45 := c132; rw [nI_eq (by omega) (by omega)] at q; exact q); have nc138 : (chN cs (a)) = 38 := (by have q : nI ((chN cs (a))) = nI 38 := c138; rw [nI_eq (by omega) (by omega)] at q; exact q); show (nI (chN cs (a))) = _; rw [if_pos (sg_of (by omega))]) (by exact h10) (by show v_54 = _; rw [ev_54]; show v1 10 + 1 = _; rw [h10, nI_1])⟩
        · refine lv_aload_n hx hb dM_next_65 rfl (lv_at hl 0 rfl) ?_
          refine lv_iconst (v := 0) hx hb dM_next_66 (by decide) ?_
          refine va_put (D := D) (cl := xCl) (ci := 7) (v := .int 0) (ty := .int) (C := rnM) (T := tbM) (N := 39) hx hb hts inM tyM toM nmM hown hK hP hD hS km hM.1 rfl 9 (by decide) (hts _ tw_626) (fun _ h9 => h9) rfl (by decide +kernel) rfl rfl (Nat.le_of_ble_eq_true rfl) dM_next_67 (fun H locs hP hD hS => ?_)
          obtain ⟨ws_74, hu_73, hP, hD⟩ := x_gen hM.1 hP hD
          have hM : ModF cI ad ws_74 km (setV (setV v1 11 ((v1 10))) 9 0) F := hM.fld_9 hu_73
          have hF := hF.tr (hu_73.fr (a := km) (b := km + 24) (by omega) (by omega))
          exact x_vret hx hb hr hlk hK hP hD hS dM_next_70 ⟨hF, _, hM, hvk.tr ((vk_s (by simp)).tr (vk_s (by simp))), NxV.z (nx_end ha (by have q9 : v1 10 = v1 8 := c62; rw [h10, hv8, nI_eq (by omega) (by omega)] at q9; exact q9)) rfl (by exact h10) (by show v1 10 = _; exact h10) (fun z9 => absurd z9 (by decide))⟩
      · have ha2 : a < cs.length := by rw [h10, hv8, nI_leI (by omega) (by omega)] at c16; omega
        refine lv_aload_n hx hb dM_next_19 rfl (lv_at hl 0 rfl) ?_
        refine va_get (D := D) (cl := xCl) (ci := 7) (v := .ref (ad (km + 6))) (C := rnM) (T := tbM) (N := 39) hx hb hts inM hown hK hP km hM.1 rfl 7 (by decide) (hts _ tw_624) (fun _ h9 => h9) rfl dM_next_20 ?_
        refine lv_aload_n hx hb dM_next_23 rfl (lv_at hl 0 rfl) ?_
        refine va_get (D := D) (cl := xCl) (ci := 7) (v := .int (v1 10)) (C := rnM) (T := tbM) (N := 39) hx hb hts inM hown hK hP km hM.1 rfl 10 (by decide) (hts _ tw_627) (fun _ h9 => h9) rfl dM_next_24 ?_
        refine va_iald hx hb hK hP (km + 6) 0 (hM.a 6 80 rfl (by omega) (by omega)) hI (by rw [h10]; exact vp_in_nI (by omega) (by omega)) dM_next_27 ?_
        refine lv_topi (fun v_75 ev_75 => ?_)
        obtain rfl : v_75 = nI (chN cs (a)) := by rw [ev_75, h10, nI_clamp (by omega)]; exact htx.2.2.1 _ (by omega)
        refine lv_bipush (v := 32) hx hb dM_next_28 (by decide) ?_
        refine lv_icmp_ne (tgt := 46) hx hb dM_next_30 (by decide) (fun c30 => ?_) (fun c30 => ?_)
        · have ha : spE isBl cs e0 = a := by rw [← hsp]; exact spE_e (fun c9 => c30 (by have q9 := c9.2; unfold isBl at q9; rw [decide_eq_true_eq] at q9; rw [q9]; rfl))
          refine lv_aload_n hx hb dM_next_46 rfl (lv_at hl 0 rfl) ?_
          refine lv_aload_n hx hb dM_next_47 rfl (lv_at hl 0 rfl) ?_
          refine va_get (D := D) (cl := xCl) (ci := 7) (v := .int (v1 10)) (C := rnM) (T := tbM) (N := 39) hx hb hts inM hown hK hP km hM.1 rfl 10 (by decide) (hts _ tw_627) (fun _ h9 => h9) rfl dM_next_48 ?_
          refine va_put (D := D) (cl := xCl) (ci := 7) (v := .int (v1 10)) (ty := .int) (C := rnM) (T := tbM) (N := 39) hx hb hts inM tyM toM nmM hown hK hP hD hS km hM.1 rfl 11 (by decide) (hts _ tw_628) (fun _ h9 => h9) rfl (by decide +kernel) rfl rfl (Nat.le_of_ble_eq_true rfl) dM_next_51 (fun H locs hP hD hS => ?_)
          obtain ⟨ws_77, hu_76, hP, hD⟩ := x_gen hM.1 hP hD
          have hM : ModF cI ad ws_77 km (setV v1 11 ((v1 10))) F := hM.fld_11 hu_76
          have hF := hF.tr (hu_76.fr (a := km) (b := km + 24) (by omega) (by omega))
          refine lv_aload_n hx hb dM_next_54 rfl (lv_at hl 0 rfl) ?_
          refine va_get (D := D) (cl := xCl) (ci := 7) (v := .int (v1 10)) (C := rnM) (T := tbM) (N := 39) hx hb hts inM hown hK hP km hM.1 rfl 10 (by decide) (hts _ tw_627) (fun _ h9 => h9) rfl dM_next_55 ?_
          refine lv_aload_n hx hb dM_next_58 rfl (lv_at hl 0 rfl) ?_
          refine va_get (D := D) (cl := xCl) (ci := 7) (v := .int (v1 8)) (C := rnM) (T := tbM) (N := 39) hx hb hts inM hown hK hP km hM.1 rfl 8 (by decide) (hts _ tw_625) (fun _ h9 => h9) rfl dM_next_59 ?_
          refine lv_icmp_ne (tgt := 71) hx hb dM_next_62 (by decide) (fun c62 => ?_) (fun c62 => ?_)
          · have hal : a < cs.length := by rcases Nat.lt_or_ge a cs.length with z9 | z9; exact z9; exact absurd (by rw [h10, hv8, show a = cs.length by omega]) c62
            refine lv_aload_n hx hb dM_next_71 rfl (lv_at hl 0 rfl) ?_
            refine va_get (D := D) (cl := xCl) (ci := 7) (v := .ref (ad (km + 6))) (C := rnM) (T := tbM) (N := 39) hx hb hts inM hown hK hP km hM.1 rfl 7 (by decide) (hts _ tw_624) (fun _ h9 => h9) rfl dM_next_72 ?_
            refine lv_aload_n hx hb dM_next_75 rfl (lv_at hl 0 rfl) ?_
            refine va_get (D := D) (cl := xCl) (ci := 7) (v := .int (v1 10)) (C := rnM) (T := tbM) (N := 39) hx hb hts inM hown hK hP km hM.1 rfl 10 (by decide) (hts _ tw_627) (fun _ h9 => h9) rfl dM_next_76 ?_
            refine va_iald hx hb hK hP (km + 6) 0 (hM.a 6 80 rfl (by omega) (by omega)) hI (by rw [h10]; exact vp_in_nI (by omega) (by omega)) dM_next_79 ?_
            refine lv_topi (fun v_78 ev_78 => ?_)
            obtain rfl : v_78 = nI (chN cs (a)) := by rw [ev_78, h10, nI_clamp (by omega)]; exact htx.2.2.1 _ (by omega)
            refine lv_istore_n (lv' := [(1, .int (nI (chN cs (a)))), (0, .ref (ad km))]) hx hb dM_next_80 rfl hl (by decide) rfl (fun ls hl => ?_)
            refine lv_iload_n hx hb dM_next_81 rfl (lv_at hl 0 rfl) ?_
            refine x_calli (x_runS (n := 1) (As := [.int (nI (chN cs (a)))]) (rest := []) ⟨hx, hb, hml, hown, hts⟩ (cM_isSign l D tys A ws_77 (chN cs (a)) (by have := htx.2.2.2 (a); omega)) tw_775 tw_776 tw_8 tw_777 (by decide +kernel) rfl rfl ⟨by decide, by decide⟩ ⟨Nat.zero_le _, Nat.zero_le _⟩ hK hP hD hS hA hN rfl hl.1 rfl (lv_room (Nat.le_of_ble_eq_true rfl)) dM_next_82) hS (fun rhr1 ws_79 H locs hr1 hP hD hS => ?_)
            obtain ⟨hr1, rfl⟩ := hr1
            refine lv_if_ne (tgt := 150) hx hb dM_next_85 (by decide) (fun c85 => ?_) (fun c85 => ?_)
            · exact loop_150 _ a a (setV v1 11 ((v1 10))) ws_77 _ _ _ hF hM (hvk.tr (vk_s (by simp))) (by exact h10) (by show v1 10 = _; exact h10) ha hal (b2i_n0.mp (by rw [← hr1]; exact c85)) (Nat.le_refl _) (by omega) rfl (Nat.lt_succ_self _) hP hD hS (lv_sub hl [1, 0] rfl)
            · refine lv_aload_n hx hb dM_next_88 rfl (lv_at hl 1 rfl) ?_
              refine lv_dup hx hb dM_next_89 rfl ?_
              refine va_get (D := D) (cl := xCl) (ci := 7) (v := .int (v1 10)) (C := rnM) (T := tbM) (N := 39) hx hb hts inM hown hK hP km hM.1 rfl 11 (by decide) (hts _ tw_628) (fun _ h9 => h9) rfl dM_next_90 ?_
              refine lv_iconst (v := 1) hx hb dM_next_93 (by decide) ?_
              refine lv_iadd hx hb dM_next_94 ?_
              refine lv_topi (fun v_80 ev_80 => ?_)
              refine va_put (D := D) (cl := xCl) (ci := 7) (v := .int v_80) (ty := .int) (C := rnM) (T := tbM) (N := 39) hx hb hts inM tyM toM nmM hown hK hP hD hS km hM.1 rfl 11 (by decide) (hts _ tw_628) (fun _ h9 => h9) rfl (by decide +kernel) rfl rfl (Nat.le_of_ble_eq_true rfl) dM_next_95 (fun H locs hP hD hS => ?_)
              obtain ⟨ws_82, hu_81, hP, hD⟩ := x_gen hM.1 hP hD
              have hM : ModF cI ad ws_82 km (setV (setV v1 11 ((v1 10))) 11 v_80) F := hM.fld_11 hu_81
              have hF := hF.tr (hu_81.fr (a := km) (b := km + 24) (by omega) (by omega))
              have hrn : ¬ isRw (chN cs a) = true := by rw [show isRw (chN cs a) = false from b2i_0.mp (by rw [← hr1]; exact c85)]; decide
              have hca := hc9 a
              refine lv_aload_n hx hb dM_next_98 rfl (lv_at hl 1 rfl) ?_
              refine lv_iload_n hx hb dM_next_99 rfl (lv_at hl 0 rfl) ?_
              refine lv_bipush (v := 40) hx hb dM_next_100 (by decide) ?_
              refine lv_icmp_eq (tgt := 141) hx hb dM_next_102 (by decide) (fun c102 => ?_) (fun c102 => ?_)
              · refine lv_iload_n hx hb dM_next_141 rfl (lv_at hl 0 rfl) ?_
                refine lv_goto (tgt := 146) hx hb dM_next_142 (by decide) ?_
                refine va_put (D := D) (cl := xCl) (ci := 7) (v := .int (nI (chN cs (a)))) (ty := .int) (C := rnM) (T := tbM) (N := 39) hx hb hts inM tyM toM nmM hown hK hP hD hS km hM.1 rfl 9 (by decide) (hts _ tw_626) (fun _ h9 => h9) rfl (by decide +kernel) rfl rfl (Nat.le_of_ble_eq_true rfl) dM_next_146 (fun H locs hP hD hS => ?_)
                obtain ⟨ws_84, hu_83, hP, hD⟩ := x_gen hM.1 hP hD
                have hM : ModF cI ad ws_84 km (setV (setV (setV v1 11 ((v1 10))) 11 v_80) 9 ((nI (chN cs (a))))) F := hM.fld_9 hu_83
                have hF := hF.tr (hu_83.fr (a := km) (b := km + 24) (by omega) (by omega))
                exact x_vret hx hb hr hlk hK hP hD hS dM_next_149 ⟨hF, _, hM, hvk.tr ((vk_s (by simp)).tr ((vk_s (by simp)).tr (vk_s (by simp)))), NxV.sg ha hal hrn (by omega) (by have nc30 : ¬ (chN cs (a)) = 32 := (by have q : ¬ nI ((chN cs (a))) = nI 32 := c30; rw [nI_eq (by omega) (by omega)] at q; exact q); have nc102 : (chN cs (a)) = 40 := (by have q : nI ((chN cs (a))) = nI 40 := c102; rw [nI_eq (by omega) (by omega)] at q; exact q); show (nI (chN cs (a))) = _; rw [if_pos (sg_of (by omega))]) (by exact h10) (by show v_80 = _; rw [ev_80]; show v1 10 + 1 = _; rw [h10, nI_1])⟩
              · refine lv_iload_n hx hb dM_next_105 rfl (lv_at hl 0 rfl) ?_
                refine lv_bipush (v := 41) hx hb dM_next_106 (by decide) ?_
                refine lv_icmp_eq (tgt := 141) hx hb dM_next_108 (by decide) (fun c108 => ?_) (fun c108 => ?_)
                · refine lv_iload_n hx hb dM_next_141 rfl (lv_at hl 0 rfl) ?_
                  refine lv_goto (tgt := 146) hx hb dM_next_142 (by decide) ?_
                  refine va_put (D := D) (cl := xCl) (ci := 7) (v := .int (nI (chN cs (a)))) (ty := .int) (C := rnM) (T := tbM) (N := 39) hx hb hts inM tyM toM nmM hown hK hP hD hS km hM.1 rfl 9 (by decide) (hts _ tw_626) (fun _ h9 => h9) rfl (by decide +kernel) rfl rfl (Nat.le_of_ble_eq_true rfl) dM_next_146 (fun H locs hP hD hS => ?_)
                  obtain ⟨ws_86, hu_85, hP, hD⟩ := x_gen hM.1 hP hD
                  have hM : ModF cI ad ws_86 km (setV (setV (setV v1 11 ((v1 10))) 11 v_80) 9 ((nI (chN cs (a))))) F := hM.fld_9 hu_85
                  have hF := hF.tr (hu_85.fr (a := km) (b := km + 24) (by omega) (by omega))
                  exact x_vret hx hb hr hlk hK hP hD hS dM_next_149 ⟨hF, _, hM, hvk.tr ((vk_s (by simp)).tr ((vk_s (by simp)).tr (vk_s (by simp)))), NxV.sg ha hal hrn (by omega) (by have nc30 : ¬ (chN cs (a)) = 32 := (by have q : ¬ nI ((chN cs (a))) = nI 32 := c30; rw [nI_eq (by omega) (by omega)] at q; exact q); have nc102 : ¬ (chN cs (a)) = 40 := (by have q : ¬ nI ((chN cs (a))) = nI 40 := c102; rw [nI_eq (by omega) (by omega)] at q; exact q); have nc108 : (chN cs (a)) = 41 := (by have q : nI ((chN cs (a))) = nI 41 := c108; rw [nI_eq (by omega) (by omega)] at q; exact q); show (nI (chN cs (a))) = _; rw [if_pos (sg_of (by omega))]) (by exact h10) (by show v_80 = _; rw [ev_80]; show v1 10 + 1 = _; rw [h10, nI_1])⟩
                · refine lv_iload_n hx hb dM_next_111 rfl (lv_at hl 0 rfl) ?_
                  refine lv_bipush (v := 44) hx hb dM_next_112 (by decide) ?_
                  refine lv_icmp_eq (tgt := 141) hx hb dM_next_114 (by decide) (fun c114 => ?_) (fun c114 => ?_)
                  · refine lv_iload_n hx hb dM_next_141 rfl (lv_at hl 0 rfl) ?_
                    refine lv_goto (tgt := 146) hx hb dM_next_142 (by decide) ?_
                    refine va_put (D := D) (cl := xCl) (ci := 7) (v := .int (nI (chN cs (a)))) (ty := .int) (C := rnM) (T := tbM) (N := 39) hx hb hts inM tyM toM nmM hown hK hP hD hS km hM.1 rfl 9 (by decide) (hts _ tw_626) (fun _ h9 => h9) rfl (by decide +kernel) rfl rfl (Nat.le_of_ble_eq_true rfl) dM_next_146 (fun H locs hP hD hS => ?_)
                    obtain ⟨ws_88, hu_87, hP, hD⟩ := x_gen hM.1 hP hD
                    have hM : ModF cI ad ws_88 km (setV (setV (setV v1 11 ((v1 10))) 11 v_80) 9 ((nI (chN cs (a))))) F := hM.fld_9 hu_87
                    have hF := hF.tr (hu_87.fr (a := km) (b := km + 24) (by omega) (by omega))
                    exact x_vret hx hb hr hlk hK hP hD hS dM_next_149 ⟨hF, _, hM, hvk.tr ((vk_s (by simp)).tr ((vk_s (by simp)).tr (vk_s (by simp)))), NxV.sg ha hal hrn (by omega) (by have nc30 : ¬ (chN cs (a)) = 32 := (by have q : ¬ nI ((chN cs (a))) = nI 32 := c30; rw [nI_eq (by omega) (by omega)] at q; exact q); have nc102 : ¬ (chN cs (a)) = 40 := (by have q : ¬ nI ((chN cs (a))) = nI 40 := c102; rw [nI_eq (by omega) (by omega)] at q; exact q); have nc108 : ¬ (chN cs (a)) = 41 := (by have q : ¬ nI ((chN cs (a))) = nI 41 := c108; rw [nI_eq (by omega) (by omega)] at q; exact q); have nc114 : (chN cs (a)) = 44 := (by have q : nI ((chN cs (a))) = nI 44 := c114; rw [nI_eq (by omega) (by omega)] at q; exact q); show (nI (chN cs (a))) = _; rw [if_pos (sg_of (by omega))]) (by exact h10) (by show v_80 = _; rw [ev_80]; show v1 10 + 1 = _; rw [h10, nI_1])⟩
                  · refine lv_iload_n hx hb dM_next_117 rfl (lv_at hl 0 rfl) ?_
                    refine lv_bipush (v := 61) hx hb dM_next_118 (by decide) ?_
                    refine lv_icmp_eq (tgt := 141) hx hb dM_next_120 (by decide) (fun c120 => ?_) (fun c120 => ?_)
                    · refine lv_iload_n hx hb dM_next_141 rfl (lv_at hl 0 rfl) ?_
                      refine lv_goto (tgt := 146) hx hb dM_next_142 (by decide) ?_
                      refine va_put (D := D) (cl := xCl) (ci := 7) (v := .int (nI (chN cs (a)))) (ty := .int) (C := rnM) (T := tbM) (N := 39) hx hb hts inM tyM toM nmM hown hK hP hD hS km hM.1 rfl 9 (by decide) (hts _ tw_626) (fun _ h9 => h9) rfl (by decide +kernel) rfl rfl (Nat.le_of_ble_eq_true rfl) dM_next_146 (fun H locs hP hD hS => ?_)
                      obtain ⟨ws_90, hu_89, hP, hD⟩ := x_gen hM.1 hP hD
                      have hM : ModF cI ad ws_90 km (setV (setV (setV v1 11 ((v1 10))) 11 v_80) 9 ((nI (chN cs (a))))) F := hM.fld_9 hu_89
                      have hF := hF.tr (hu_89.fr (a := km) (b := km + 24) (by omega) (by omega))
                      exact x_vret hx hb hr hlk hK hP hD hS dM_next_149 ⟨hF, _, hM, hvk.tr ((vk_s (by simp)).tr ((vk_s (by simp)).tr (vk_s (by simp)))), NxV.sg ha hal hrn (by omega) (by have nc30 : ¬ (chN cs (a)) = 32 := (by have q : ¬ nI ((chN cs (a))) = nI 32 := c30; rw [nI_eq (by omega) (by omega)] at q; exact q); have nc102 : ¬ (chN cs (a)) = 40 := (by have q : ¬ nI ((chN cs (a))) = nI 40 := c102; rw [nI_eq (by omega) (by omega)] at q; exact q); have nc108 : ¬ (chN cs (a)) = 41 := (by have q : ¬ nI ((chN cs (a))) = nI 41 := c108; rw [nI_eq (by omega) (by omega)] at q; exact q); have nc114 : ¬ (chN cs (a)) = 44 := (by have q : ¬ nI ((chN cs (a))) = nI 44 := c114; rw [nI_eq (by omega) (by omega)] at q; exact q); have nc120 : (chN cs (a)) = 61 := (by have q : nI ((chN cs (a))) = nI 61 := c120; rw [nI_eq (by omega) (by omega)] at q; exact q); show (nI (chN cs (a))) = _; rw [if_pos (sg_of (by omega))]) (by exact h10) (by show v_80 = _; rw [ev_80]; show v1 10 + 1 = _; rw [h10, nI_1])⟩
                    · refine lv_iload_n hx hb dM_next_123 rfl (lv_at hl 0 rfl) ?_
                      refine lv_bipush (v := 43) hx hb dM_next_124 (by decide) ?_
                      refine lv_icmp_eq (tgt := 141) hx hb dM_next_126 (by decide) (fun c126 => ?_) (fun c126 => ?_)
                      · refine lv_iload_n hx hb dM_next_141 rfl (lv_at hl 0 rfl) ?_
                        refine lv_goto (tgt := 146) hx hb dM_next_142 (by decide) ?_
                        refine va_put (D := D) (cl := xCl) (ci := 7) (v := .int (nI (chN cs (a)))) (ty := .int) (C := rnM) (T := tbM) (N := 39) hx hb hts inM tyM toM nmM hown hK hP hD hS km hM.1 rfl 9 (by decide) (hts _ tw_626) (fun _ h9 => h9) rfl (by decide +kernel) rfl rfl (Nat.le_of_ble_eq_true rfl) dM_next_146 (fun H locs hP hD hS => ?_)
                        obtain ⟨ws_92, hu_91, hP, hD⟩ := x_gen hM.1 hP hD
                        have hM : ModF cI ad ws_92 km (setV (setV (setV v1 11 ((v1 10))) 11 v_80) 9 ((nI (chN cs (a))))) F := hM.fld_9 hu_91
                        have hF := hF.tr (hu_91.fr (a := km) (b := km + 24) (by omega) (by omega))
                        exact x_vret hx hb hr hlk hK hP hD hS dM_next_149 ⟨hF, _, hM, hvk.tr ((vk_s (by simp)).tr ((vk_s (by simp)).tr (vk_s (by simp)))), NxV.sg ha hal hrn (by omega) (by have nc30 : ¬ (chN cs (a)) = 32 := (by have q : ¬ nI ((chN cs (a))) = nI 32 := c30; rw [nI_eq (by omega) (by omega)] at q; exact q); have nc102 : ¬ (chN cs (a)) = 40 := (by have q : ¬ nI ((chN cs (a))) = nI 40 := c102; rw [nI_eq (by omega) (by omega)] at q; exact q); have nc108 : ¬ (chN cs (a)) = 41 := (by have q : ¬ nI ((chN cs (a))) = nI 41 := c108; rw [nI_eq (by omega) (by omega)] at q; exact q); have nc114 : ¬ (chN cs (a)) = 44 := (by have q : ¬ nI ((chN cs (a))) = nI 44 := c114; rw [nI_eq (by omega) (by omega)] at q; exact q); have nc120 : ¬ (chN cs (a)) = 61 := (by have q : ¬ nI ((chN cs (a))) = nI 61 := c120; rw [nI_eq (by omega) (by omega)] at q; exact q); have nc126 : (chN cs (a)) = 43 := (by have q : nI ((chN cs (a))) = nI 43 := c126; rw [nI_eq (by omega) (by omega)] at q; exact q); show (nI (chN cs (a))) = _; rw [if_pos (sg_of (by omega))]) (by exact h10) (by show v_80 = _; rw [ev_80]; show v1 10 + 1 = _; rw [h10, nI_1])⟩
                      · refine lv_iload_n hx hb dM_next_129 rfl (lv_at hl 0 rfl) ?_
                        refine lv_bipush (v := 45) hx hb dM_next_130 (by decide) ?_
                        refine lv_icmp_eq (tgt := 141) hx hb dM_next_132 (by decide) (fun c132 => ?_) (fun c132 => ?_)
                        · refine lv_iload_n hx hb dM_next_141 rfl (lv_at hl 0 rfl) ?_
                          refine lv_goto (tgt := 146) hx hb dM_next_142 (by decide) ?_
                          refine va_put (D := D) (cl := xCl) (ci := 7) (v := .int (nI (chN cs (a)))) (ty := .int) (C := rnM) (T := tbM) (N := 39) hx hb hts inM tyM toM nmM hown hK hP hD hS km hM.1 rfl 9 (by decide) (hts _ tw_626) (fun _ h9 => h9) rfl (by decide +kernel) rfl rfl (Nat.le_of_ble_eq_true rfl) dM_next_146 (fun H locs hP hD hS => ?_)
                          obtain ⟨ws_94, hu_93, hP, hD⟩ := x_gen hM.1 hP hD
                          have hM : ModF cI ad ws_94 km (setV (setV (setV v1 11 ((v1 10))) 11 v_80) 9 ((nI (chN cs (a))))) F := hM.fld_9 hu_93
                          have hF := hF.tr (hu_93.fr (a := km) (b := km + 24) (by omega) (by omega))
                          exact x_vret hx hb hr hlk hK hP hD hS dM_next_149 ⟨hF, _, hM, hvk.tr ((vk_s (by simp)).tr ((vk_s (by simp)).tr (vk_s (by simp)))), NxV.sg ha hal hrn (by omega) (by have nc30 : ¬ (chN cs (a)) = 32 := (by have q : ¬ nI ((chN cs (a))) = nI 32 := c30; rw [nI_eq (by omega) (by omega)] at q; exact q); have nc102 : ¬ (chN cs (a)) = 40 := (by have q : ¬ nI ((chN cs (a))) = nI 40 := c102; rw [nI_eq (by omega) (by omega)] at q; exact q); have nc108 : ¬ (chN cs (a)) = 41 := (by have q : ¬ nI ((chN cs (a))) = nI 41 := c108; rw [nI_eq (by omega) (by omega)] at q; exact q); have nc114 : ¬ (chN cs (a)) = 44 := (by have q : ¬ nI ((chN cs (a))) = nI 44 := c114; rw [nI_eq (by omega) (by omega)] at q; exact q); have nc120 : ¬ (chN cs (a)) = 61 := (by have q : ¬ nI ((chN cs (a))) = nI 61 := c120; rw [nI_eq (by omega) (by omega)] at q; exact q); have nc126 : ¬ (chN cs (a)) = 43 := (by have q : ¬ nI ((chN cs (a))) = nI 43 := c126; rw [nI_eq (by omega) (by omega)] at q; exact q); have nc132 : (chN cs (a)) = 45 := (by have q : nI ((chN cs (a))) = nI 45 := c132; rw [nI_eq (by omega) (by omega)] at q; exact q); show (nI (chN cs (a))) = _; rw [if_pos (sg_of (by omega))]) (by exact h10) (by show v_80 = _; rw [ev_80]; show v1 10 + 1 = _; rw [h10, nI_1])⟩
                        · refine lv_iload_n hx hb dM_next_135 rfl (lv_at hl 0 rfl) ?_
                          refine lv_bipush (v := 38) hx hb dM_next_136 (by decide) ?_
                          refine lv_icmp_ne (tgt := 145) hx hb dM_next_138 (by decide) (fun c138 => ?_) (fun c138 => ?_)
                          · refine lv_iconst (v := 1) hx hb dM_next_145 (by decide) ?_
                            refine va_put (D := D) (cl := xCl) (ci := 7) (v := .int 1) (ty := .int) (C := rnM) (T := tbM) (N := 39) hx hb hts inM tyM toM nmM hown hK hP hD hS km hM.1 rfl 9 (by decide) (hts _ tw_626) (fun _ h9 => h9) rfl (by decide +kernel) rfl rfl (Nat.le_of_ble_eq_true rfl) dM_next_146 (fun H locs hP hD hS => ?_)
                            obtain ⟨ws_96, hu_95, hP, hD⟩ := x_gen hM.1 hP hD
                            have hM : ModF cI ad ws_96 km (setV (setV (setV v1 11 ((v1 10))) 11 v_80) 9 1) F := hM.fld_9 hu_95
                            have hF := hF.tr (hu_95.fr (a := km) (b := km + 24) (by omega) (by omega))
                            exact x_vret hx hb hr hlk hK hP hD hS dM_next_149 ⟨hF, _, hM, hvk.tr ((vk_s (by simp)).tr ((vk_s (by simp)).tr (vk_s (by simp)))), NxV.sg ha hal hrn (by omega) (by have nc30 : ¬ (chN cs (a)) = 32 := (by have q : ¬ nI ((chN cs (a))) = nI 32 := c30; rw [nI_eq (by omega) (by omega)] at q; exact q); have nc102 : ¬ (chN cs (a)) = 40 := (by have q : ¬ nI ((chN cs (a))) = nI 40 := c102; rw [nI_eq (by omega) (by omega)] at q; exact q); have nc108 : ¬ (chN cs (a)) = 41 := (by have q : ¬ nI ((chN cs (a))) = nI 41 := c108; rw [nI_eq (by omega) (by omega)] at q; exact q); have nc114 : ¬ (chN cs (a)) = 44 := (by have q : ¬ nI ((chN cs (a))) = nI 44 := c114; rw [nI_eq (by omega) (by omega)] at q; exact q); have nc120 : ¬ (chN cs (a)) = 61 := (by have q : ¬ nI ((chN cs (a))) = nI 61 := c120; rw [nI_eq (by omega) (by omega)] at q; exact q); have nc126 : ¬ (chN cs (a)) = 43 := (by have q : ¬ nI ((chN cs (a))) = nI 43 := c126; rw [nI_eq (by omega) (by omega)] at q; exact q); have nc132 : ¬ (chN cs (a)) = 45 := (by have q : ¬ nI ((chN cs (a))) = nI 45 := c132; rw [nI_eq (by omega) (by omega)] at q; exact q); have nc138 : ¬ (chN cs (a)) = 38 := (by have q : ¬ nI ((chN cs (a))) = nI 38 := c138; rw [nI_eq (by omega) (by omega)] at q; exact q); show (1 : Int32) = _; rw [if_neg (sg_no (by omega))]) (by exact h10) (by show v_80 = _; rw [ev_80]; show v1 10 + 1 = _; rw [h10, nI_1])⟩
                          · refine lv_iload_n hx hb dM_next_141 rfl (lv_at hl 0 rfl) ?_
                            refine lv_goto (tgt := 146) hx hb dM_next_142 (by decide) ?_
                            refine va_put (D := D) (cl := xCl) (ci := 7) (v := .int (nI (chN cs (a)))) (ty := .int) (C := rnM) (T := tbM) (N := 39) hx hb hts inM tyM toM nmM hown hK hP hD hS km hM.1 rfl 9 (by decide) (hts _ tw_626) (fun _ h9 => h9) rfl (by decide +kernel) rfl rfl (Nat.le_of_ble_eq_true rfl) dM_next_146 (fun H locs hP hD hS => ?_)
                            obtain ⟨ws_98, hu_97, hP, hD⟩ := x_gen hM.1 hP hD
                            have hM : ModF cI ad ws_98 km (setV (setV (setV v1 11 ((v1 10))) 11 v_80) 9 ((nI (chN cs (a))))) F := hM.fld_9 hu_97
                            have hF := hF.tr (hu_97.fr (a := km) (b := km + 24) (by omega) (by omega))
                            exact x_vret hx hb hr hlk hK hP hD hS dM_next_149 ⟨hF, _, hM, hvk.tr ((vk_s (by simp)).tr ((vk_s (by simp)).tr (vk_s (by simp)))), NxV.sg ha hal hrn (by omega) (by have nc30 : ¬ (chN cs (a)) = 32 := (by have q : ¬ nI ((chN cs (a))) = nI 32 := c30; rw [nI_eq (by omega) (by omega)] at q; exact q); have nc102 : ¬ (chN cs (a)) = 40 := (by have q : ¬ nI ((chN cs (a))) = nI 40 := c102; rw [nI_eq (by omega) (by omega)] at q; exact q); have nc108 : ¬ (chN cs (a)) = 41 := (by have q : ¬ nI ((chN cs (a))) = nI 41 := c108; rw [nI_eq (by omega) (by omega)] at q; exact q); have nc114 : ¬ (chN cs (a)) = 44 := (by have q : ¬ nI ((chN cs (a))) = nI 44 := c114; rw [nI_eq (by omega) (by omega)] at q; exact q); have nc120 : ¬ (chN cs (a)) = 61 := (by have q : ¬ nI ((chN cs (a))) = nI 61 := c120; rw [nI_eq (by omega) (by omega)] at q; exact q); have nc126 : ¬ (chN cs (a)) = 43 := (by have q : ¬ nI ((chN cs (a))) = nI 43 := c126; rw [nI_eq (by omega) (by omega)] at q; exact q); have nc132 : ¬ (chN cs (a)) = 45 := (by have q : ¬ nI ((chN cs (a))) = nI 45 := c132; rw [nI_eq (by omega) (by omega)] at q; exact q); have nc138 : (chN cs (a)) = 38 := (by have q : nI ((chN cs (a))) = nI 38 := c138; rw [nI_eq (by omega) (by omega)] at q; exact q); show (nI (chN cs (a))) = _; rw [if_pos (sg_of (by omega))]) (by exact h10) (by show v_80 = _; rw [ev_80]; show v1 10 + 1 = _; rw [h10, nI_1])⟩
          · refine lv_aload_n hx hb dM_next_65 rfl (lv_at hl 0 rfl) ?_
            refine lv_iconst (v := 0) hx hb dM_next_66 (by decide) ?_
            refine va_put (D := D) (cl := xCl) (ci := 7) (v := .int 0) (ty := .int) (C := rnM) (T := tbM) (N := 39) hx hb hts inM tyM toM nmM hown hK hP hD hS km hM.1 rfl 9 (by decide) (hts _ tw_626) (fun _ h9 => h9) rfl (by decide +kernel) rfl rfl (Nat.le_of_ble_eq_true rfl) dM_next_67 (fun H locs hP hD hS => ?_)
            obtain ⟨ws_100, hu_99, hP, hD⟩ := x_gen hM.1 hP hD
            have hM : ModF cI ad ws_100 km (setV (setV v1 11 ((v1 10))) 9 0) F := hM.fld_9 hu_99
            have hF := hF.tr (hu_99.fr (a := km) (b := km + 24) (by omega) (by omega))
            exact x_vret hx hb hr hlk hK hP hD hS dM_next_70 ⟨hF, _, hM, hvk.tr ((vk_s (by simp)).tr (vk_s (by simp))), NxV.z (nx_end ha (by have q9 : v1 10 = v1 8 := c62; rw [h10, hv8, nI_eq (by omega) (by omega)] at q9; exact q9)) rfl (by exact h10) (by show v1 10 = _; exact h10) (fun z9 => absurd z9 (by decide))⟩
        · refine lv_aload_n hx hb dM_next_33 rfl (lv_at hl 0 rfl) ?_
          refine lv_dup hx hb dM_next_34 rfl ?_
          refine va_get (D := D) (cl := xCl) (ci := 7) (v := .int (v1 10)) (C := rnM) (T := tbM) (N := 39) hx hb hts inM hown hK hP km hM.1 rfl 10 (by decide) (hts _ tw_627) (fun _ h9 => h9) rfl dM_next_35 ?_
          refine lv_iconst (v := 1) hx hb dM_next_38 (by decide) ?_
          refine lv_iadd hx hb dM_next_39 ?_
          refine lv_topi (fun v_101 ev_101 => ?_)
          refine va_put (D := D) (cl := xCl) (ci := 7) (v := .int v_101) (ty := .int) (C := rnM) (T := tbM) (N := 39) hx hb hts inM tyM toM nmM hown hK hP hD hS km hM.1 rfl 10 (by decide) (hts _ tw_627) (fun _ h9 => h9) rfl (by decide +kernel) rfl rfl (Nat.le_of_ble_eq_true rfl) dM_next_40 (fun H locs hP hD hS => ?_)
          obtain ⟨ws_103, hu_102, hP, hD⟩ := x_gen hM.1 hP hD
          have hM : ModF cI ad ws_103 km (setV v1 10 v_101) F := hM.fld_10 hu_102
          have hF := hF.tr (hu_102.fr (a := km) (b := km + 24) (by omega) (by omega))
          refine lv_goto (tgt := 8) hx hb dM_next_43 (by decide) ?_
          exact ih (a + 1) (setV v1 10 v_101) ws_103 _ _ _ hF hM (hvk.tr (vk_s (by simp))) (by show v_101 = _; rw [ev_101, h10, nI_1]) (by omega) (by rw [← hsp, spE_s ha2 (by unfold isBl; rw [decide_eq_true_eq]; have q9 : nI (chN cs a) = nI 32 := c30; rw [nI_eq (by have := hc9 a; omega) (by omega)] at q9; exact q9)]) (by omega) hP hD hS (lv_sub hl [0] rfl)
  refine lv_aload_n hx hb dM_next_0 rfl (lv_at hl 0 rfl) ?_
  refine lv_aload_n hx hb dM_next_1 rfl (lv_at hl 0 rfl) ?_
  refine va_get (D := D) (cl := xCl) (ci := 7) (v := .int (v 11)) (C := rnM) (T := tbM) (N := 39) hx hb hts inM hown hK hP km hM.1 rfl 11 (by decide) (hts _ tw_628) (fun _ h9 => h9) rfl dM_next_2 ?_
  refine va_put (D := D) (cl := xCl) (ci := 7) (v := .int (v 11)) (ty := .int) (C := rnM) (T := tbM) (N := 39) hx hb hts inM tyM toM nmM hown hK hP hD hS km hM.1 rfl 10 (by decide) (hts _ tw_627) (fun _ h9 => h9) rfl (by decide +kernel) rfl rfl (Nat.le_of_ble_eq_true rfl) dM_next_5 (fun H locs hP hD hS => ?_)
  obtain ⟨ws_105, hu_104, hP, hD⟩ := x_gen hM.1 hP hD
  have hM : ModF cI ad ws_105 km (setV v 10 ((v 11))) F := hM.fld_10 hu_104
  have hF := hF.tr (hu_104.fr (a := km) (b := km + 24) (by omega) (by omega))
  exact loop_8 _ e0 (setV v 10 ((v 11))) ws_105 _ _ _ hF hM (vk_s (by simp)) (by show v 11 = _; exact hv11) he0 rfl (Nat.lt_succ_self _) hP hD hS (lv_sub hl [0] rfl)
