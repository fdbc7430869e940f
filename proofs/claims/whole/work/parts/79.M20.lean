theorem nb30 {bk : Bool} {g : Gr} (hg : GrOK g) : ∀ t u, u ∈ nbB bk g t → u < 30 := fun t u hu => Nat.lt_of_lt_of_le (nbB_lt hg t u hu) hg.1
theorem grow_R {bk : Bool} {g : Gr} (hg : GrOK g) {L : List Nat} (hL : gRow g L) {x0 : BX} (h0 : x0.1 = L) (h1 : ∀ u ∈ L, x0.2.1 u = -1 ∧ x0.2.2 u = 0) {R : Nat} (hR : R < 100) : (bq (nbB bk g) (nI R) 30 0 x0).1 = growR (nbB bk g) R L 0 := by
  subst h0
  exact bq_list (nb30 hg) hL.1 (fun u hu => Nat.lt_of_lt_of_le (hL.2 u hu) hg.1) (fun u hu => (h1 u hu).2) (by omega)
theorem grow_U {bk : Bool} {g : Gr} (hg : GrOK g) {L : List Nat} (hL : gRow g L) {x0 : BX} (h0 : x0.1 = L) (h1 : ∀ u ∈ L, x0.2.1 u = -1 ∧ x0.2.2 u = 0) : (bq (nbB bk g) 1000 30 0 x0).1 = growR (nbB bk g) 30 L 0 := by
  subst h0
  exact bq_list30 (nb30 hg) hL.1 (fun u hu => Nat.lt_of_lt_of_le (hL.2 u hu) hg.1) (fun u hu => (h1 u hu).2)
/-- the model's rows hold the state q of a run, the letters ls -/
def XM (v : Nat → Int32) (F : Nat → Nat → Int32) (q : RS) (ls : List Nat) : Prop := MLs v F q.1 q.2.1 ∧ MBs v F ls q.2.2.1 ∧ v 30 = nI q.2.2.2
def kpX (v : Nat → Int32) (F : Nat → Nat → Int32) (v1 : Nat → Int32) (F1 : Nat → Nat → Int32) : Prop := vk [28, 29, 30] v v1 ∧ fk [14, 15, 16, 17, 18, 20, 21] F F1

theorem nI_m1 {n : Nat} (h : n < 1000) : ¬ nI n = -1 := by
  intro z
  have := congrArg Int32.toInt z
  rw [nI_toInt (by omega)] at this
  have : (-1 : Int32).toInt = -1 := by decide
  omega

set_option maxHeartbeats 4000000 in
set_option maxRecDepth 100000 in
theorem cM_does_2 (l : Launch) (D : va_G) (tys : List (ClassId × FieldType)) (A : Nat → Prop) (ws : va_W) (cI : ClassId) (hI : tys[0]? = some (cI, .int)) (ad : Nat → Nat) (km : Nat) (v : Nat → Int32) (F : Nat → Nat → Int32) (n : Nat) (S : Nat → List Nat) (hS0 : MLs v F n S) (ls9 : List Nat) (B : Nat → List Nat) (hB0 : MBs v F ls9 B) (lk : Nat) (h30 : v 30 = nI lk) (g : Gr) (hg : MGr g v F) (hn24 : n < 24) (n9 t9 : Nat) (hn9 : n9 < 60) (ht9l : t9 < g.length) (ht9 : gNo g n9 = nI t9) (hM : ModF cI ad ws km v F) : x_Mv l yM_does wM_does (xR 4) D xCl tys A [.ref (ad km), .int 2, .int (nI n9)] ws (fun ws1 => x_fr km (km + 24) ws ws1 ∧ ∃ v9 F9, ModF cI ad ws1 km v9 F9 ∧ XM v9 F9 (n + 1, updJ S n [t9], B, lk + [t9].length) ls9 ∧ kpX v F v9 F9) := by
  have hF : x_fr km (km + 24) ws ws := x_fr.rf
  obtain ⟨hv28, hn60, hSi⟩ := id hS0
  have hgo := hg.1
  have hgl : g.length ≤ 30 := hgo.1
  refine x_enter (by decide) rfl (Nat.le_of_ble_eq_true rfl) (fun p e s m args below meth c ls hx hb hr hlk hml hown hnm hts hK hP hD hS hA hN hl => ?_)
  have hl : lv_has ls 3 [(0, .ref (ad km)), (1, .int 2), (2, .int (nI n9))] := hl
  refine lv_iload_n hx hb dM_does_0 rfl (lv_at hl 1 rfl) ?_
  refine lv_tableIn (tgt := 192) hx hb dM_does_1 (by decide) (by decide) rfl (by decide) ?_
  refine lv_aload_n hx hb dM_does_192 rfl (lv_at hl 0 rfl) ?_
  refine lv_iload_n hx hb dM_does_193 rfl (lv_at hl 1 rfl) ?_
  refine lv_iload_n hx hb dM_does_194 rfl (lv_at hl 2 rfl) ?_
  refine x_callv (x_runV (n := 2) (As := [.int 2, .int (nI n9)]) (rest := []) ⟨hx, hb, hml, hown, hts⟩ (cM_make_2 l D tys A ws cI hI ad km v F n S hS0 g hg (by omega) n9 t9 hn9 ht9l ht9 hM) tw_829 tw_831 ts_M_make tw_8 tw_832 (by decide +kernel) rfl rfl ⟨by decide, by decide⟩ ⟨Nat.zero_le _, Nat.zero_le _⟩ (va_recv hK hP (ci := 7) (q0 := km) rfl hM.1) hK hP hD hS hA hN rfl hl.1 rfl (lv_room (Nat.le_of_ble_eq_true rfl)) dM_does_195) hS (fun ws_1 H locs hmk hP hD hS => ?_)
  obtain ⟨hF9, v9, F9, hM9, hS9, h309, hvk9, hfk9⟩ := hmk
  have hF := hF.tr hF9
  refine lv_goto (tgt := 278) hx hb dM_does_198 (by decide) ?_
  exact x_vret hx hb hr hlk hK hP hD hS dM_does_278 ⟨hF, v9, F9, hM9, ⟨hS9, (hB0.c2 (hvk9 29 (by simp)) (hfk9 16 (by simp)) (hfk9 17 (by simp)) (hfk9 18 (by simp))), (by show v9 30 = nI (lk + [t9].length); rw [h309, h30, nI_add])⟩, ⟨hvk9.wd (by simp), hfk9.wd (by simp)⟩⟩

set_option maxHeartbeats 4000000 in
set_option maxRecDepth 100000 in
theorem cM_does_3 (l : Launch) (D : va_G) (tys : List (ClassId × FieldType)) (A : Nat → Prop) (ws : va_W) (cI : ClassId) (hI : tys[0]? = some (cI, .int)) (ad : Nat → Nat) (km : Nat) (v : Nat → Int32) (F : Nat → Nat → Int32) (n : Nat) (S : Nat → List Nat) (hS0 : MLs v F n S) (ls9 : List Nat) (B : Nat → List Nat) (hB0 : MBs v F ls9 B) (lk : Nat) (h30 : v 30 = nI lk) (g : Gr) (hg : MGr g v F) (hn24 : n < 24) (c9 s9 : Nat) (hc9 : c9 < 26) (hs9 : s9 < ls9.length) (hlix : lix ls9 c9 = nI s9) (hM : ModF cI ad ws km v F) : x_Mv l yM_does wM_does (xR 4) D xCl tys A [.ref (ad km), .int 3, .int (nI c9)] ws (fun ws1 => x_fr km (km + 24) ws ws1 ∧ ∃ v9 F9, ModF cI ad ws1 km v9 F9 ∧ XM v9 F9 (n + 1, updJ S n (B s9), B, lk + (B s9).length) ls9 ∧ kpX v F v9 F9) := by
  have hF : x_fr km (km + 24) ws ws := x_fr.rf
  obtain ⟨hv28, hn60, hSi⟩ := id hS0
  have hgo := hg.1
  have hgl : g.length ≤ 30 := hgo.1
  refine x_enter (by decide) rfl (Nat.le_of_ble_eq_true rfl) (fun p e s m args below meth c ls hx hb hr hlk hml hown hnm hts hK hP hD hS hA hN hl => ?_)
  have hl : lv_has ls 3 [(0, .ref (ad km)), (1, .int 3), (2, .int (nI c9))] := hl
  refine lv_iload_n hx hb dM_does_0 rfl (lv_at hl 1 rfl) ?_
  refine lv_tableIn (tgt := 192) hx hb dM_does_1 (by decide) (by decide) rfl (by decide) ?_
  refine lv_aload_n hx hb dM_does_192 rfl (lv_at hl 0 rfl) ?_
  refine lv_iload_n hx hb dM_does_193 rfl (lv_at hl 1 rfl) ?_
  refine lv_iload_n hx hb dM_does_194 rfl (lv_at hl 2 rfl) ?_
  refine x_callv (x_runV (n := 2) (As := [.int 3, .int (nI c9)]) (rest := []) ⟨hx, hb, hml, hown, hts⟩ (cM_make_3 l D tys A ws cI hI ad km v F n S hS0 ls9 B hB0 (by omega) c9 s9 hc9 hs9 hlix hM) tw_829 tw_831 ts_M_make tw_8 tw_832 (by decide +kernel) rfl rfl ⟨by decide, by decide⟩ ⟨Nat.zero_le _, Nat.zero_le _⟩ (va_recv hK hP (ci := 7) (q0 := km) rfl hM.1) hK hP hD hS hA hN rfl hl.1 rfl (lv_room (Nat.le_of_ble_eq_true rfl)) dM_does_195) hS (fun ws_1 H locs hmk hP hD hS => ?_)
  obtain ⟨hF9, v9, F9, hM9, hS9, h309, hvk9, hfk9⟩ := hmk
  have hF := hF.tr hF9
  refine lv_goto (tgt := 278) hx hb dM_does_198 (by decide) ?_
  exact x_vret hx hb hr hlk hK hP hD hS dM_does_278 ⟨hF, v9, F9, hM9, ⟨hS9, (hB0.c2 (hvk9 29 (by simp)) (hfk9 16 (by simp)) (hfk9 17 (by simp)) (hfk9 18 (by simp))), (by show v9 30 = nI (lk + (B s9).length); rw [h309, h30, nI_add])⟩, ⟨hvk9.wd (by simp), hfk9.wd (by simp)⟩⟩

set_option maxHeartbeats 4000000 in
set_option maxRecDepth 100000 in
theorem cM_does_5 (l : Launch) (D : va_G) (tys : List (ClassId × FieldType)) (A : Nat → Prop) (ws : va_W) (cI : ClassId) (hI : tys[0]? = some (cI, .int)) (ad : Nat → Nat) (km : Nat) (v : Nat → Int32) (F : Nat → Nat → Int32) (n : Nat) (S : Nat → List Nat) (hS0 : MLs v F n S) (ls9 : List Nat) (B : Nat → List Nat) (hB0 : MBs v F ls9 B) (lk : Nat) (h30 : v 30 = nI lk) (g : Gr) (hg : MGr g v F) (hn24 : n < 24) (it9 : Int32) (hM : ModF cI ad ws km v F) : x_Mv l yM_does wM_does (xR 4) D xCl tys A [.ref (ad km), .int 5, .int it9] ws (fun ws1 => x_fr km (km + 24) ws ws1 ∧ ∃ v9 F9, ModF cI ad ws1 km v9 F9 ∧ XM v9 F9 (n + 1, updJ S n (List.range g.length), B, lk + (List.range g.length).length) ls9 ∧ kpX v F v9 F9) := by
  have hF : x_fr km (km + 24) ws ws := x_fr.rf
  obtain ⟨hv28, hn60, hSi⟩ := id hS0
  have hgo := hg.1
  have hgl : g.length ≤ 30 := hgo.1
  refine x_enter (by decide) rfl (Nat.le_of_ble_eq_true rfl) (fun p e s m args below meth c ls hx hb hr hlk hml hown hnm hts hK hP hD hS hA hN hl => ?_)
  have hl : lv_has ls 3 [(0, .ref (ad km)), (1, .int 5), (2, .int it9)] := hl
  refine lv_iload_n hx hb dM_does_0 rfl (lv_at hl 1 rfl) ?_
  refine lv_tableIn (tgt := 192) hx hb dM_does_1 (by decide) (by decide) rfl (by decide) ?_
  refine lv_aload_n hx hb dM_does_192 rfl (lv_at hl 0 rfl) ?_
  refine lv_iload_n hx hb dM_does_193 rfl (lv_at hl 1 rfl) ?_
  refine lv_iload_n hx hb dM_does_194 rfl (lv_at hl 2 rfl) ?_
  refine x_callv (x_runV (n := 2) (As := [.int 5, .int it9]) (rest := []) ⟨hx, hb, hml, hown, hts⟩ (cM_make_5 l D tys A ws cI hI ad km v F n S hS0 g hg (by omega) it9 hM) tw_829 tw_831 ts_M_make tw_8 tw_832 (by decide +kernel) rfl rfl ⟨by decide, by decide⟩ ⟨Nat.zero_le _, Nat.zero_le _⟩ (va_recv hK hP (ci := 7) (q0 := km) rfl hM.1) hK hP hD hS hA hN rfl hl.1 rfl (lv_room (Nat.le_of_ble_eq_true rfl)) dM_does_195) hS (fun ws_1 H locs hmk hP hD hS => ?_)
  obtain ⟨hF9, v9, F9, hM9, hS9, h309, hvk9, hfk9⟩ := hmk
  have hF := hF.tr hF9
  refine lv_goto (tgt := 278) hx hb dM_does_198 (by decide) ?_
  exact x_vret hx hb hr hlk hK hP hD hS dM_does_278 ⟨hF, v9, F9, hM9, ⟨hS9, (hB0.c2 (hvk9 29 (by simp)) (hfk9 16 (by simp)) (hfk9 17 (by simp)) (hfk9 18 (by simp))), (by show v9 30 = nI (lk + (List.range g.length).length); rw [h309, h30, nI_add])⟩, ⟨hvk9.wd (by simp), hfk9.wd (by simp)⟩⟩

set_option maxHeartbeats 4000000 in
set_option maxRecDepth 100000 in
theorem cM_does_43 (l : Launch) (D : va_G) (tys : List (ClassId × FieldType)) (A : Nat → Prop) (ws : va_W) (cI : ClassId) (hI : tys[0]? = some (cI, .int)) (ad : Nat → Nat) (km : Nat) (v : Nat → Int32) (F : Nat → Nat → Int32) (n : Nat) (S : Nat → List Nat) (hS0 : MLs v F n S) (ls9 : List Nat) (B : Nat → List Nat) (hB0 : MBs v F ls9 B) (lk : Nat) (h30 : v 30 = nI lk) (g : Gr) (hg : MGr g v F) (hn2 : 2 ≤ n) (hn24 : n ≤ 24) (hga : gRow g (S (n - 2))) (hgb : gRow g (S (n - 1))) (it9 : Int32) (hM : ModF cI ad ws km v F) : x_Mv l yM_does wM_does (xR 4) D xCl tys A [.ref (ad km), .int 43, .int it9] ws (fun ws1 => x_fr km (km + 24) ws ws1 ∧ ∃ v9 F9, ModF cI ad ws1 km v9 F9 ∧ XM v9 F9 (n - 1, updJ S (n - 2) (twoX g 43 (S (n - 2)) (S (n - 1))), B, lk + (twoX g 43 (S (n - 2)) (S (n - 1))).length) ls9 ∧ kpX v F v9 F9) := by
  have hF : x_fr km (km + 24) ws ws := x_fr.rf
  obtain ⟨hv28, hn60, hSi⟩ := id hS0
  have hgo := hg.1
  have hgl : g.length ≤ 30 := hgo.1
  refine x_enter (by decide) rfl (Nat.le_of_ble_eq_true rfl) (fun p e s m args below meth c ls hx hb hr hlk hml hown hnm hts hK hP hD hS hA hN hl => ?_)
  have hl : lv_has ls 3 [(0, .ref (ad km)), (1, .int 43), (2, .int it9)] := hl
  refine lv_iload_n hx hb dM_does_0 rfl (lv_at hl 1 rfl) ?_
  refine lv_tableIn (tgt := 201) hx hb dM_does_1 (by decide) (by decide) rfl (by decide) ?_
  refine lv_aload_n hx hb dM_does_201 rfl (lv_at hl 0 rfl) ?_
  refine lv_iload_n hx hb dM_does_202 rfl (lv_at hl 1 rfl) ?_
  refine x_callv (x_runV (n := 1) (As := [.int 43]) (rest := []) ⟨hx, hb, hml, hown, hts⟩ (cM_join l D tys A ws cI hI ad km v F n S hS0 g 43 (by decide) hn2 (by omega) hga.1 hgb.1 hM) tw_845 tw_847 ts_M_join tw_8 tw_848 (by decide +kernel) rfl rfl ⟨by decide, by decide⟩ ⟨Nat.zero_le _, Nat.zero_le _⟩ (va_recv hK hP (ci := 7) (q0 := km) rfl hM.1) hK hP hD hS hA hN rfl hl.1 rfl (lv_room (Nat.le_of_ble_eq_true rfl)) dM_does_203) hS (fun ws_1 H locs hjn hP hD hS => ?_)
  obtain ⟨hF9, v9, F9, hM9, hS9, h309, hvk9, hfk9⟩ := hjn
  have hF := hF.tr hF9
  refine lv_goto (tgt := 278) hx hb dM_does_206 (by decide) ?_
  exact x_vret hx hb hr hlk hK hP hD hS dM_does_278 ⟨hF, v9, F9, hM9, ⟨hS9, (hB0.c2 (hvk9 29 (by simp)) (hfk9 16 (by simp)) (hfk9 17 (by simp)) (hfk9 18 (by simp))), (by show v9 30 = nI (lk + (twoX g 43 (S (n - 2)) (S (n - 1))).length); rw [h309, h30, nI_add])⟩, ⟨hvk9.wd (by simp), hfk9.wd (by simp)⟩⟩

set_option maxHeartbeats 4000000 in
set_option maxRecDepth 100000 in
theorem cM_does_45 (l : Launch) (D : va_G) (tys : List (ClassId × FieldType)) (A : Nat → Prop) (ws : va_W) (cI : ClassId) (hI : tys[0]? = some (cI, .int)) (ad : Nat → Nat) (km : Nat) (v : Nat → Int32) (F : Nat → Nat → Int32) (n : Nat) (S : Nat → List Nat) (hS0 : MLs v F n S) (ls9 : List Nat) (B : Nat → List Nat) (hB0 : MBs v F ls9 B) (lk : Nat) (h30 : v 30 = nI lk) (g : Gr) (hg : MGr g v F) (hn2 : 2 ≤ n) (hn24 : n ≤ 24) (hga : gRow g (S (n - 2))) (hgb : gRow g (S (n - 1))) (it9 : Int32) (hM : ModF cI ad ws km v F) : x_Mv l yM_does wM_does (xR 4) D xCl tys A [.ref (ad km), .int 45, .int it9] ws (fun ws1 => x_fr km (km + 24) ws ws1 ∧ ∃ v9 F9, ModF cI ad ws1 km v9 F9 ∧ XM v9 F9 (n - 1, updJ S (n - 2) (twoX g 45 (S (n - 2)) (S (n - 1))), B, lk + (twoX g 45 (S (n - 2)) (S (n - 1))).length) ls9 ∧ kpX v F v9 F9) := by
  have hF : x_fr km (km + 24) ws ws := x_fr.rf
  obtain ⟨hv28, hn60, hSi⟩ := id hS0
  have hgo := hg.1
  have hgl : g.length ≤ 30 := hgo.1
  refine x_enter (by decide) rfl (Nat.le_of_ble_eq_true rfl) (fun p e s m args below meth c ls hx hb hr hlk hml hown hnm hts hK hP hD hS hA hN hl => ?_)
  have hl : lv_has ls 3 [(0, .ref (ad km)), (1, .int 45), (2, .int it9)] := hl
  refine lv_iload_n hx hb dM_does_0 rfl (lv_at hl 1 rfl) ?_
  refine lv_tableIn (tgt := 201) hx hb dM_does_1 (by decide) (by decide) rfl (by decide) ?_
  refine lv_aload_n hx hb dM_does_201 rfl (lv_at hl 0 rfl) ?_
  refine lv_iload_n hx hb dM_does_202 rfl (lv_at hl 1 rfl) ?_
  refine x_callv (x_runV (n := 1) (As := [.int 45]) (rest := []) ⟨hx, hb, hml, hown, hts⟩ (cM_join l D tys A ws cI hI ad km v F n S hS0 g 45 (by decide) hn2 (by omega) hga.1 hgb.1 hM) tw_845 tw_847 ts_M_join tw_8 tw_848 (by decide +kernel) rfl rfl ⟨by decide, by decide⟩ ⟨Nat.zero_le _, Nat.zero_le _⟩ (va_recv hK hP (ci := 7) (q0 := km) rfl hM.1) hK hP hD hS hA hN rfl hl.1 rfl (lv_room (Nat.le_of_ble_eq_true rfl)) dM_does_203) hS (fun ws_1 H locs hjn hP hD hS => ?_)
  obtain ⟨hF9, v9, F9, hM9, hS9, h309, hvk9, hfk9⟩ := hjn
  have hF := hF.tr hF9
  refine lv_goto (tgt := 278) hx hb dM_does_206 (by decide) ?_
  exact x_vret hx hb hr hlk hK hP hD hS dM_does_278 ⟨hF, v9, F9, hM9, ⟨hS9, (hB0.c2 (hvk9 29 (by simp)) (hfk9 16 (by simp)) (hfk9 17 (by simp)) (hfk9 18 (by simp))), (by show v9 30 = nI (lk + (twoX g 45 (S (n - 2)) (S (n - 1))).length); rw [h309, h30, nI_add])⟩, ⟨hvk9.wd (by simp), hfk9.wd (by simp)⟩⟩

set_option maxHeartbeats 4000000 in
set_option maxRecDepth 100000 in
theorem cM_does_38 (l : Launch) (D : va_G) (tys : List (ClassId × FieldType)) (A : Nat → Prop) (ws : va_W) (cI : ClassId) (hI : tys[0]? = some (cI, .int)) (ad : Nat → Nat) (km : Nat) (v : Nat → Int32) (F : Nat → Nat → Int32) (n : Nat) (S : Nat → List Nat) (hS0 : MLs v F n S) (ls9 : List Nat) (B : Nat → List Nat) (hB0 : MBs v F ls9 B) (lk : Nat) (h30 : v 30 = nI lk) (g : Gr) (hg : MGr g v F) (hn2 : 2 ≤ n) (hn24 : n ≤ 24) (hga : gRow g (S (n - 2))) (hgb : gRow g (S (n - 1))) (it9 : Int32) (hM : ModF cI ad ws km v F) : x_Mv l yM_does wM_does (xR 4) D xCl tys A [.ref (ad km), .int 38, .int it9] ws (fun ws1 => x_fr km (km + 24) ws ws1 ∧ ∃ v9 F9, ModF cI ad ws1 km v9 F9 ∧ XM v9 F9 (n - 1, updJ S (n - 2) (twoX g 38 (S (n - 2)) (S (n - 1))), B, lk + (twoX g 38 (S (n - 2)) (S (n - 1))).length) ls9 ∧ kpX v F v9 F9) := by
  have hF : x_fr km (km + 24) ws ws := x_fr.rf
  obtain ⟨hv28, hn60, hSi⟩ := id hS0
  have hgo := hg.1
  have hgl : g.length ≤ 30 := hgo.1
  refine x_enter (by decide) rfl (Nat.le_of_ble_eq_true rfl) (fun p e s m args below meth c ls hx hb hr hlk hml hown hnm hts hK hP hD hS hA hN hl => ?_)
  have hl : lv_has ls 3 [(0, .ref (ad km)), (1, .int 38), (2, .int it9)] := hl
  refine lv_iload_n hx hb dM_does_0 rfl (lv_at hl 1 rfl) ?_
  refine lv_tableIn (tgt := 201) hx hb dM_does_1 (by decide) (by decide) rfl (by decide) ?_
  refine lv_aload_n hx hb dM_does_201 rfl (lv_at hl 0 rfl) ?_
  refine lv_iload_n hx hb dM_does_202 rfl (lv_at hl 1 rfl) ?_
  refine x_callv (x_runV (n := 1) (As := [.int 38]) (rest := []) ⟨hx, hb, hml, hown, hts⟩ (cM_join l D tys A ws cI hI ad km v F n S hS0 g 38 (by decide) hn2 (by omega) hga.1 hgb.1 hM) tw_845 tw_847 ts_M_join tw_8 tw_848 (by decide +kernel) rfl rfl ⟨by decide, by decide⟩ ⟨Nat.zero_le _, Nat.zero_le _⟩ (va_recv hK hP (ci := 7) (q0 := km) rfl hM.1) hK hP hD hS hA hN rfl hl.1 rfl (lv_room (Nat.le_of_ble_eq_true rfl)) dM_does_203) hS (fun ws_1 H locs hjn hP hD hS => ?_)
  obtain ⟨hF9, v9, F9, hM9, hS9, h309, hvk9, hfk9⟩ := hjn
  have hF := hF.tr hF9
  refine lv_goto (tgt := 278) hx hb dM_does_206 (by decide) ?_
  exact x_vret hx hb hr hlk hK hP hD hS dM_does_278 ⟨hF, v9, F9, hM9, ⟨hS9, (hB0.c2 (hvk9 29 (by simp)) (hfk9 16 (by simp)) (hfk9 17 (by simp)) (hfk9 18 (by simp))), (by show v9 30 = nI (lk + (twoX g 38 (S (n - 2)) (S (n - 1))).length); rw [h309, h30, nI_add])⟩, ⟨hvk9.wd (by simp), hfk9.wd (by simp)⟩⟩

set_option maxHeartbeats 4000000 in
set_option maxRecDepth 100000 in
theorem cM_does_8 (l : Launch) (D : va_G) (tys : List (ClassId × FieldType)) (A : Nat → Prop) (ws : va_W) (cI : ClassId) (hI : tys[0]? = some (cI, .int)) (ad : Nat → Nat) (km : Nat) (v : Nat → Int32) (F : Nat → Nat → Int32) (n : Nat) (S : Nat → List Nat) (hS0 : MLs v F n S) (ls9 : List Nat) (B : Nat → List Nat) (hB0 : MBs v F ls9 B) (lk : Nat) (h30 : v 30 = nI lk) (g : Gr) (hg : MGr g v F) (hn2 : 2 ≤ n) (hn24 : n ≤ 24) (hga : gRow g (S (n - 2))) (hgb : gRow g (S (n - 1))) (it9 : Int32) (hM : ModF cI ad ws km v F) : x_Mv l yM_does wM_does (xR 4) D xCl tys A [.ref (ad km), .int 8, .int it9] ws (fun ws1 => x_fr km (km + 24) ws ws1 ∧ ∃ v9 F9, ModF cI ad ws1 km v9 F9 ∧ XM v9 F9 (n - 1, updJ S (n - 2) (wayF g (S (n - 2)) (S (n - 1))), B, lk + (wayF g (S (n - 2)) (S (n - 1))).length) ls9 ∧ kpX v F v9 F9) := by
  have hF : x_fr km (km + 24) ws ws := x_fr.rf
  obtain ⟨hv28, hn60, hSi⟩ := id hS0
  have hgo := hg.1
  have hgl : g.length ≤ 30 := hgo.1
  refine x_enter (by decide) rfl (Nat.le_of_ble_eq_true rfl) (fun p e s m args below meth c ls hx hb hr hlk hml hown hnm hts hK hP hD hS hA hN hl => ?_)
  have hl : lv_has ls 3 [(0, .ref (ad km)), (1, .int 8), (2, .int it9)] := hl
  refine lv_iload_n hx hb dM_does_0 rfl (lv_at hl 1 rfl) ?_
  refine lv_tableIn (tgt := 244) hx hb dM_does_1 (by decide) (by decide) rfl (by decide) ?_
  refine lv_aload_n hx hb dM_does_244 rfl (lv_at hl 0 rfl) ?_
  refine x_callv (x_runV (n := 0) (As := []) (rest := []) ⟨hx, hb, hml, hown, hts⟩ (cM_findWay l D tys A ws cI hI ad km v F n S hS0 g hg hn2 (by omega) hga hgb hM) tw_865 tw_867 ts_M_findWay tw_8 tw_868 (by decide +kernel) rfl rfl ⟨by decide, by decide⟩ ⟨Nat.zero_le _, Nat.zero_le _⟩ (va_recv hK hP (ci := 7) (q0 := km) rfl hM.1) hK hP hD hS hA hN rfl hl.1 rfl (lv_room (Nat.le_of_ble_eq_true rfl)) dM_does_245) hS (fun ws_1 H locs hfw hP hD hS => ?_)
  obtain ⟨hF9, v9, F9, hM9, hS9, h309, hvk9, hfk9⟩ := hfw
  have hF := hF.tr hF9
  refine lv_goto (tgt := 278) hx hb dM_does_248 (by decide) ?_
  exact x_vret hx hb hr hlk hK hP hD hS dM_does_278 ⟨hF, v9, F9, hM9, ⟨hS9, (hB0.c2 (hvk9 29 (by simp)) (hfk9 16 (by simp)) (hfk9 17 (by simp)) (hfk9 18 (by simp))), (by show v9 30 = nI (lk + (wayF g (S (n - 2)) (S (n - 1))).length); rw [h309, h30, nI_add])⟩, ⟨hvk9.wd (by simp), hfk9.wd (by simp)⟩⟩

set_option maxHeartbeats 4000000 in
set_option maxRecDepth 100000 in
theorem cM_does_9 (l : Launch) (D : va_G) (tys : List (ClassId × FieldType)) (A : Nat → Prop) (ws : va_W) (cI : ClassId) (hI : tys[0]? = some (cI, .int)) (ad : Nat → Nat) (km : Nat) (v : Nat → Int32) (F : Nat → Nat → Int32) (n : Nat) (S : Nat → List Nat) (hS0 : MLs v F n S) (ls9 : List Nat) (B : Nat → List Nat) (hB0 : MBs v F ls9 B) (lk : Nat) (h30 : v 30 = nI lk) (g : Gr) (hg : MGr g v F) (hn1 : 1 ≤ n) (hn24 : n ≤ 24) (hgb : gRow g (S (n - 1))) (it9 : Int32) (hM : ModF cI ad ws km v F) : x_Mv l yM_does wM_does (xR 4) D xCl tys A [.ref (ad km), .int 9, .int it9] ws (fun ws1 => x_fr km (km + 24) ws ws1 ∧ ∃ v9 F9, ModF cI ad ws1 km v9 F9 ∧ XM v9 F9 (n, updJ S (n - 1) ((S (n - 1)).filter (fun t => decide (t < g.length ∧ nI (gK g t) = it9))), B, lk + ((S (n - 1)).filter (fun t => decide (t < g.length ∧ nI (gK g t) = it9))).length) ls9 ∧ kpX v F v9 F9) := by
  have hF : x_fr km (km + 24) ws ws := x_fr.rf
  obtain ⟨hv28, hn60, hSi⟩ := id hS0
  have hgo := hg.1
  have hgl : g.length ≤ 30 := hgo.1
  refine x_enter (by decide) rfl (Nat.le_of_ble_eq_true rfl) (fun p e s m args below meth c ls hx hb hr hlk hml hown hnm hts hK hP hD hS hA hN hl => ?_)
  have hl : lv_has ls 3 [(0, .ref (ad km)), (1, .int 9), (2, .int it9)] := hl
  refine lv_iload_n hx hb dM_does_0 rfl (lv_at hl 1 rfl) ?_
  refine lv_tableIn (tgt := 272) hx hb dM_does_1 (by decide) (by decide) rfl (by decide) ?_
  refine lv_aload_n hx hb dM_does_272 rfl (lv_at hl 0 rfl) ?_
  refine lv_iload_n hx hb dM_does_273 rfl (lv_at hl 1 rfl) ?_
  refine lv_iload_n hx hb dM_does_274 rfl (lv_at hl 2 rfl) ?_
  refine x_callv (x_runV (n := 2) (As := [.int 9, .int it9]) (rest := []) ⟨hx, hb, hml, hown, hts⟩ (cM_filter_9 l D tys A ws cI hI ad km v F n S hS0 g hg hn1 (by omega) hgb it9 hM) tw_873 tw_875 ts_M_filter tw_8 tw_876 (by decide +kernel) rfl rfl ⟨by decide, by decide⟩ ⟨Nat.zero_le _, Nat.zero_le _⟩ (va_recv hK hP (ci := 7) (q0 := km) rfl hM.1) hK hP hD hS hA hN rfl hl.1 rfl (lv_room (Nat.le_of_ble_eq_true rfl)) dM_does_275) hS (fun ws_1 H locs hfl hP hD hS => ?_)
  obtain ⟨hF9, v9, F9, hM9, hS9, h309, hvk9, hfk9⟩ := hfl
  have hF := hF.tr hF9
  exact x_vret hx hb hr hlk hK hP hD hS dM_does_278 ⟨hF, v9, F9, hM9, ⟨hS9, (hB0.c2 (hvk9 29 (by simp)) (hfk9 16 (by simp)) (hfk9 17 (by simp)) (hfk9 18 (by simp))), (by show v9 30 = nI (lk + ((S (n - 1)).filter (fun t => decide (t < g.length ∧ nI (gK g t) = it9))).length); rw [h309, h30, nI_add])⟩, ⟨hvk9.wd (by simp), hfk9.wd (by simp)⟩⟩

set_option maxHeartbeats 4000000 in
set_option maxRecDepth 100000 in
theorem cM_does_10 (l : Launch) (D : va_G) (tys : List (ClassId × FieldType)) (A : Nat → Prop) (ws : va_W) (cI : ClassId) (hI : tys[0]? = some (cI, .int)) (ad : Nat → Nat) (km : Nat) (v : Nat → Int32) (F : Nat → Nat → Int32) (n : Nat) (S : Nat → List Nat) (hS0 : MLs v F n S) (ls9 : List Nat) (B : Nat → List Nat) (hB0 : MBs v F ls9 B) (lk : Nat) (h30 : v 30 = nI lk) (g : Gr) (hg : MGr g v F) (hn1 : 1 ≤ n) (hn24 : n ≤ 24) (hgb : gRow g (S (n - 1))) (it9 : Int32) (hM : ModF cI ad ws km v F) : x_Mv l yM_does wM_does (xR 4) D xCl tys A [.ref (ad km), .int 10, .int it9] ws (fun ws1 => x_fr km (km + 24) ws ws1 ∧ ∃ v9 F9, ModF cI ad ws1 km v9 F9 ∧ XM v9 F9 (n, updJ S (n - 1) (testS g (S (n - 1))), B, lk + (testS g (S (n - 1))).length) ls9 ∧ kpX v F v9 F9) := by
  have hF : x_fr km (km + 24) ws ws := x_fr.rf
  obtain ⟨hv28, hn60, hSi⟩ := id hS0
  have hgo := hg.1
  have hgl : g.length ≤ 30 := hgo.1
  refine x_enter (by decide) rfl (Nat.le_of_ble_eq_true rfl) (fun p e s m args below meth c ls hx hb hr hlk hml hown hnm hts hK hP hD hS hA hN hl => ?_)
  have hl : lv_has ls 3 [(0, .ref (ad km)), (1, .int 10), (2, .int it9)] := hl
  refine lv_iload_n hx hb dM_does_0 rfl (lv_at hl 1 rfl) ?_
  refine lv_tableIn (tgt := 272) hx hb dM_does_1 (by decide) (by decide) rfl (by decide) ?_
  refine lv_aload_n hx hb dM_does_272 rfl (lv_at hl 0 rfl) ?_
  refine lv_iload_n hx hb dM_does_273 rfl (lv_at hl 1 rfl) ?_
  refine lv_iload_n hx hb dM_does_274 rfl (lv_at hl 2 rfl) ?_
  refine x_callv (x_runV (n := 2) (As := [.int 10, .int it9]) (rest := []) ⟨hx, hb, hml, hown, hts⟩ (cM_filter_10 l D tys A ws cI hI ad km v F n S hS0 g hg hn1 (by omega) hgb it9 hM) tw_873 tw_875 ts_M_filter tw_8 tw_876 (by decide +kernel) rfl rfl ⟨by decide, by decide⟩ ⟨Nat.zero_le _, Nat.zero_le _⟩ (va_recv hK hP (ci := 7) (q0 := km) rfl hM.1) hK hP hD hS hA hN rfl hl.1 rfl (lv_room (Nat.le_of_ble_eq_true rfl)) dM_does_275) hS (fun ws_1 H locs hfl hP hD hS => ?_)
  obtain ⟨hF9, v9, F9, hM9, hS9, h309, hvk9, hfk9⟩ := hfl
  have hF := hF.tr hF9
  exact x_vret hx hb hr hlk hK hP hD hS dM_does_278 ⟨hF, v9, F9, hM9, ⟨hS9, (hB0.c2 (hvk9 29 (by simp)) (hfk9 16 (by simp)) (hfk9 17 (by simp)) (hfk9 18 (by simp))), (by show v9 30 = nI (lk + (testS g (S (n - 1))).length); rw [h309, h30, nI_add])⟩, ⟨hvk9.wd (by simp), hfk9.wd (by simp)⟩⟩

set_option maxHeartbeats 4000000 in
set_option maxRecDepth 100000 in
theorem cM_does_11 (l : Launch) (D : va_G) (tys : List (ClassId × FieldType)) (A : Nat → Prop) (ws : va_W) (cI : ClassId) (hI : tys[0]? = some (cI, .int)) (ad : Nat → Nat) (km : Nat) (v : Nat → Int32) (F : Nat → Nat → Int32) (n : Nat) (S : Nat → List Nat) (hS0 : MLs v F n S) (ls9 : List Nat) (B : Nat → List Nat) (hB0 : MBs v F ls9 B) (lk : Nat) (h30 : v 30 = nI lk) (g : Gr) (hg : MGr g v F) (hn1 : 1 ≤ n) (hn24 : n ≤ 24) (hgb : gRow g (S (n - 1))) (it9 : Int32) (hM : ModF cI ad ws km v F) : x_Mv l yM_does wM_does (xR 4) D xCl tys A [.ref (ad km), .int 11, .int it9] ws (fun ws1 => x_fr km (km + 24) ws ws1 ∧ ∃ v9 F9, ModF cI ad ws1 km v9 F9 ∧ XM v9 F9 (n, updJ S (n - 1) (sameS g (S (n - 1))), B, lk + (sameS g (S (n - 1))).length) ls9 ∧ kpX v F v9 F9) := by
  have hF : x_fr km (km + 24) ws ws := x_fr.rf
  obtain ⟨hv28, hn60, hSi⟩ := id hS0
  have hgo := hg.1
  have hgl : g.length ≤ 30 := hgo.1
  refine x_enter (by decide) rfl (Nat.le_of_ble_eq_true rfl) (fun p e s m args below meth c ls hx hb hr hlk hml hown hnm hts hK hP hD hS hA hN hl => ?_)
  have hl : lv_has ls 3 [(0, .ref (ad km)), (1, .int 11), (2, .int it9)] := hl
  refine lv_iload_n hx hb dM_does_0 rfl (lv_at hl 1 rfl) ?_
  refine lv_tableIn (tgt := 272) hx hb dM_does_1 (by decide) (by decide) rfl (by decide) ?_
  refine lv_aload_n hx hb dM_does_272 rfl (lv_at hl 0 rfl) ?_
  refine lv_iload_n hx hb dM_does_273 rfl (lv_at hl 1 rfl) ?_
  refine lv_iload_n hx hb dM_does_274 rfl (lv_at hl 2 rfl) ?_
  refine x_callv (x_runV (n := 2) (As := [.int 11, .int it9]) (rest := []) ⟨hx, hb, hml, hown, hts⟩ (cM_filter_11 l D tys A ws cI hI ad km v F n S hS0 g hg hn1 (by omega) hgb it9 hM) tw_873 tw_875 ts_M_filter tw_8 tw_876 (by decide +kernel) rfl rfl ⟨by decide, by decide⟩ ⟨Nat.zero_le _, Nat.zero_le _⟩ (va_recv hK hP (ci := 7) (q0 := km) rfl hM.1) hK hP hD hS hA hN rfl hl.1 rfl (lv_room (Nat.le_of_ble_eq_true rfl)) dM_does_275) hS (fun ws_1 H locs hfl hP hD hS => ?_)
  obtain ⟨hF9, v9, F9, hM9, hS9, h309, hvk9, hfk9⟩ := hfl
  have hF := hF.tr hF9
  exact x_vret hx hb hr hlk hK hP hD hS dM_does_278 ⟨hF, v9, F9, hM9, ⟨hS9, (hB0.c2 (hvk9 29 (by simp)) (hfk9 16 (by simp)) (hfk9 17 (by simp)) (hfk9 18 (by simp))), (by show v9 30 = nI (lk + (sameS g (S (n - 1))).length); rw [h309, h30, nI_add])⟩, ⟨hvk9.wd (by simp), hfk9.wd (by simp)⟩⟩

set_option maxHeartbeats 4000000 in
set_option maxRecDepth 100000 in
theorem cM_does_6 (l : Launch) (D : va_G) (tys : List (ClassId × FieldType)) (A : Nat → Prop) (ws : va_W) (cI : ClassId) (hI : tys[0]? = some (cI, .int)) (ad : Nat → Nat) (km : Nat) (v : Nat → Int32) (F : Nat → Nat → Int32) (n : Nat) (S : Nat → List Nat) (hS0 : MLs v F n S) (ls9 : List Nat) (B : Nat → List Nat) (hB0 : MBs v F ls9 B) (lk : Nat) (h30 : v 30 = nI lk) (g : Gr) (hg : MGr g v F) (hn1 : 1 ≤ n) (hn24 : n ≤ 24) (hgb : gRow g (S (n - 1))) (R : Nat) (hR9 : R < 100) (hM : ModF cI ad ws km v F) : x_Mv l yM_does wM_does (xR 4) D xCl tys A [.ref (ad km), .int 6, .int (nI R)] ws (fun ws1 => x_fr km (km + 24) ws ws1 ∧ ∃ v9 F9, ModF cI ad ws1 km v9 F9 ∧ XM v9 F9 (n, updJ S (n - 1) (growR (gD g) R (S (n - 1)) 0), B, lk + (growR (gD g) R (S (n - 1)) 0).length) ls9 ∧ kpX v F v9 F9) := by
  have hF : x_fr km (km + 24) ws ws := x_fr.rf
  obtain ⟨hv28, hn60, hSi⟩ := id hS0
  have hgo := hg.1
  have hgl : g.length ≤ 30 := hgo.1
  refine x_enter (by decide) rfl (Nat.le_of_ble_eq_true rfl) (fun p e s m args below meth c ls hx hb hr hlk hml hown hnm hts hK hP hD hS hA hN hl => ?_)
  have hl : lv_has ls 3 [(0, .ref (ad km)), (1, .int 6), (2, .int (nI R))] := hl
  refine lv_iload_n hx hb dM_does_0 rfl (lv_at hl 1 rfl) ?_
  refine lv_tableIn (tgt := 209) hx hb dM_does_1 (by decide) (by decide) rfl (by decide) ?_
  refine lv_aload_n hx hb dM_does_209 rfl (lv_at hl 0 rfl) ?_
  refine lv_iload_n hx hb dM_does_210 rfl (lv_at hl 1 rfl) ?_
  refine lv_bipush (v := 7) hx hb dM_does_211 (by decide) ?_
  refine lv_icmp_ne (tgt := 220) hx hb dM_does_213 (by decide) (fun c213 => ?_) (fun c213 => ?_)
  · refine lv_iconst (v := 0) hx hb dM_does_220 (by decide) ?_
    refine lv_iload_n hx hb dM_does_221 rfl (lv_at hl 2 rfl) ?_
    refine lv_iconst (v := (-1)) hx hb dM_does_222 (by decide) ?_
    refine lv_icmp_ne (tgt := 232) hx hb dM_does_223 (by decide) (fun c223 => ?_) (fun c223 => ?_)
    · refine lv_iload_n hx hb dM_does_232 rfl (lv_at hl 2 rfl) ?_
      refine x_callv (x_runV (n := 2) (As := [.int 0, .int (nI R)]) (rest := []) ⟨hx, hb, hml, hown, hts⟩ (cM_reach_f l D tys A ws cI hI ad km v F n S hS0 g hg (nI R) hn1 (by omega) hgb hM) tw_857 tw_859 ts_M_reach tw_8 tw_860 (by decide +kernel) rfl rfl ⟨by decide, by decide⟩ ⟨Nat.zero_le _, Nat.zero_le _⟩ (va_recv hK hP (ci := 7) (q0 := km) rfl hM.1) hK hP hD hS hA hN rfl hl.1 rfl (lv_room (Nat.le_of_ble_eq_true rfl)) dM_does_233) hS (fun ws_1 H locs hre hP hD hS => ?_)
      obtain ⟨hF9, v3, F3, x0, hM, hx0, hx1, hS3, h20, h21, hvk3, hfk3⟩ := hre
      have hF := hF.tr hF9
      refine lv_aload_n hx hb dM_does_236 rfl (lv_at hl 0 rfl) ?_
      refine lv_iconst (v := 1) hx hb dM_does_237 (by decide) ?_
      refine x_callv (x_runV (n := 1) (As := [.int 1]) (rest := []) ⟨hx, hb, hml, hown, hts⟩ (cM_replace l D tys A ws_1 cI hI ad km v3 F3 (n + 1) (updJ S n (bq (nbB false g) (nI R) 30 0 x0).1) hS3 1 (by omega) (by omega) hM) tw_853 tw_855 ts_M_replace tw_8 tw_856 (by decide +kernel) rfl rfl ⟨by decide, by decide⟩ ⟨Nat.zero_le _, Nat.zero_le _⟩ (va_recv hK hP (ci := 7) (q0 := km) rfl hM.1) hK hP hD hS hA hN rfl hl.1 rfl (lv_room (Nat.le_of_ble_eq_true rfl)) dM_does_238) hS (fun ws_2 H locs hrp hP hD hS => ?_)
      obtain ⟨hF9, v9, F9, hM9, hS9, h309, hvk9, hfk9⟩ := hrp
      have hF := hF.tr hF9
      refine lv_goto (tgt := 278) hx hb dM_does_241 (by decide) ?_
      exact x_vret hx hb hr hlk hK hP hD hS dM_does_278 (by have hgw : (bq (nbB false g) (nI R) 30 0 x0).1 = (growR (gD g) R (S (n - 1)) 0) := grow_R hgo hgb hx0 hx1 hR9; rw [show n + 1 - 1 - 1 + 1 = n by omega, show n + 1 - 1 - 1 = n - 1 by omega, show n + 1 - 1 = n by omega, updJ_s, hgw] at hS9; rw [show n + 1 - 1 = n by omega, updJ_s, hgw] at h309; exact ⟨hF, v9, F9, hM9, ⟨hS9.cg (fun j hj => by have hj : j < n := hj; show updJ S (n - 1) _ j = _; by_cases z9 : j = n - 1; (rw [z9, updJ_s, updJ_s]); (rw [updJ_o9 z9, updJ_o9 z9, updJ_o9 (by omega)])), hB0.c2 (by rw [hvk9 29 (by simp), hvk3 29 (by simp)]) (by rw [hfk9 16 (by simp), hfk3 16 (by simp)]) (by rw [hfk9 17 (by simp), hfk3 17 (by simp)]) (by rw [hfk9 18 (by simp), hfk3 18 (by simp)]), (by show v9 30 = nI (lk + (growR (gD g) R (S (n - 1)) 0).length); rw [h309, hvk3 30 (by simp), h30, nI_add])⟩, ⟨(hvk3.wd (by simp)).tr (hvk9.wd (by simp)), (hfk3.wd (by simp)).tr (hfk9.wd (by simp))⟩⟩)
    · exact absurd c223 (nI_m1 (by omega))
  · exact absurd c213 (by decide)

set_option maxHeartbeats 4000000 in
set_option maxRecDepth 100000 in
theorem cM_does_6u (l : Launch) (D : va_G) (tys : List (ClassId × FieldType)) (A : Nat → Prop) (ws : va_W) (cI : ClassId) (hI : tys[0]? = some (cI, .int)) (ad : Nat → Nat) (km : Nat) (v : Nat → Int32) (F : Nat → Nat → Int32) (n : Nat) (S : Nat → List Nat) (hS0 : MLs v F n S) (ls9 : List Nat) (B : Nat → List Nat) (hB0 : MBs v F ls9 B) (lk : Nat) (h30 : v 30 = nI lk) (g : Gr) (hg : MGr g v F) (hn1 : 1 ≤ n) (hn24 : n ≤ 24) (hgb : gRow g (S (n - 1))) (hM : ModF cI ad ws km v F) : x_Mv l yM_does wM_does (xR 4) D xCl tys A [.ref (ad km), .int 6, .int (-1)] ws (fun ws1 => x_fr km (km + 24) ws ws1 ∧ ∃ v9 F9, ModF cI ad ws1 km v9 F9 ∧ XM v9 F9 (n, updJ S (n - 1) (growR (gD g) 30 (S (n - 1)) 0), B, lk + (growR (gD g) 30 (S (n - 1)) 0).length) ls9 ∧ kpX v F v9 F9) := by
  have hF : x_fr km (km + 24) ws ws := x_fr.rf
  obtain ⟨hv28, hn60, hSi⟩ := id hS0
  have hgo := hg.1
  have hgl : g.length ≤ 30 := hgo.1
  refine x_enter (by decide) rfl (Nat.le_of_ble_eq_true rfl) (fun p e s m args below meth c ls hx hb hr hlk hml hown hnm hts hK hP hD hS hA hN hl => ?_)
  have hl : lv_has ls 3 [(0, .ref (ad km)), (1, .int 6), (2, .int (-1))] := hl
  refine lv_iload_n hx hb dM_does_0 rfl (lv_at hl 1 rfl) ?_
  refine lv_tableIn (tgt := 209) hx hb dM_does_1 (by decide) (by decide) rfl (by decide) ?_
  refine lv_aload_n hx hb dM_does_209 rfl (lv_at hl 0 rfl) ?_
  refine lv_iload_n hx hb dM_does_210 rfl (lv_at hl 1 rfl) ?_
  refine lv_bipush (v := 7) hx hb dM_does_211 (by decide) ?_
  refine lv_icmp_ne (tgt := 220) hx hb dM_does_213 (by decide) (fun c213 => ?_) (fun c213 => ?_)
  · refine lv_iconst (v := 0) hx hb dM_does_220 (by decide) ?_
    refine lv_iload_n hx hb dM_does_221 rfl (lv_at hl 2 rfl) ?_
    refine lv_iconst (v := (-1)) hx hb dM_does_222 (by decide) ?_
    refine lv_icmp_ne (tgt := 232) hx hb dM_does_223 (by decide) (fun c223 => ?_) (fun c223 => ?_)
    · exact absurd rfl c223
    · refine lv_sipush (v := 1000) hx hb dM_does_226 (by decide) ?_
      refine lv_goto (tgt := 233) hx hb dM_does_229 (by decide) ?_
      refine x_callv (x_runV (n := 2) (As := [.int 0, .int 1000]) (rest := []) ⟨hx, hb, hml, hown, hts⟩ (cM_reach_f l D tys A ws cI hI ad km v F n S hS0 g hg 1000 hn1 (by omega) hgb hM) tw_857 tw_859 ts_M_reach tw_8 tw_860 (by decide +kernel) rfl rfl ⟨by decide, by decide⟩ ⟨Nat.zero_le _, Nat.zero_le _⟩ (va_recv hK hP (ci := 7) (q0 := km) rfl hM.1) hK hP hD hS hA hN rfl hl.1 rfl (lv_room (Nat.le_of_ble_eq_true rfl)) dM_does_233) hS (fun ws_1 H locs hre hP hD hS => ?_)
      obtain ⟨hF9, v3, F3, x0, hM, hx0, hx1, hS3, h20, h21, hvk3, hfk3⟩ := hre
      have hF := hF.tr hF9
      refine lv_aload_n hx hb dM_does_236 rfl (lv_at hl 0 rfl) ?_
      refine lv_iconst (v := 1) hx hb dM_does_237 (by decide) ?_
      refine x_callv (x_runV (n := 1) (As := [.int 1]) (rest := []) ⟨hx, hb, hml, hown, hts⟩ (cM_replace l D tys A ws_1 cI hI ad km v3 F3 (n + 1) (updJ S n (bq (nbB false g) 1000 30 0 x0).1) hS3 1 (by omega) (by omega) hM) tw_853 tw_855 ts_M_replace tw_8 tw_856 (by decide +kernel) rfl rfl ⟨by decide, by decide⟩ ⟨Nat.zero_le _, Nat.zero_le _⟩ (va_recv hK hP (ci := 7) (q0 := km) rfl hM.1) hK hP hD hS hA hN rfl hl.1 rfl (lv_room (Nat.le_of_ble_eq_true rfl)) dM_does_238) hS (fun ws_2 H locs hrp hP hD hS => ?_)
      obtain ⟨hF9, v9, F9, hM9, hS9, h309, hvk9, hfk9⟩ := hrp
      have hF := hF.tr hF9
      refine lv_goto (tgt := 278) hx hb dM_does_241 (by decide) ?_
      exact x_vret hx hb hr hlk hK hP hD hS dM_does_278 (by have hgw : (bq (nbB false g) 1000 30 0 x0).1 = (growR (gD g) 30 (S (n - 1)) 0) := grow_U hgo hgb hx0 hx1; rw [show n + 1 - 1 - 1 + 1 = n by omega, show n + 1 - 1 - 1 = n - 1 by omega, show n + 1 - 1 = n by omega, updJ_s, hgw] at hS9; rw [show n + 1 - 1 = n by omega, updJ_s, hgw] at h309; exact ⟨hF, v9, F9, hM9, ⟨hS9.cg (fun j hj => by have hj : j < n := hj; show updJ S (n - 1) _ j = _; by_cases z9 : j = n - 1; (rw [z9, updJ_s, updJ_s]); (rw [updJ_o9 z9, updJ_o9 z9, updJ_o9 (by omega)])), hB0.c2 (by rw [hvk9 29 (by simp), hvk3 29 (by simp)]) (by rw [hfk9 16 (by simp), hfk3 16 (by simp)]) (by rw [hfk9 17 (by simp), hfk3 17 (by simp)]) (by rw [hfk9 18 (by simp), hfk3 18 (by simp)]), (by show v9 30 = nI (lk + (growR (gD g) 30 (S (n - 1)) 0).length); rw [h309, hvk3 30 (by simp), h30, nI_add])⟩, ⟨(hvk3.wd (by simp)).tr (hvk9.wd (by simp)), (hfk3.wd (by simp)).tr (hfk9.wd (by simp))⟩⟩)
  · exact absurd c213 (by decide)

set_option maxHeartbeats 4000000 in
set_option maxRecDepth 100000 in
theorem cM_does_7 (l : Launch) (D : va_G) (tys : List (ClassId × FieldType)) (A : Nat → Prop) (ws : va_W) (cI : ClassId) (hI : tys[0]? = some (cI, .int)) (ad : Nat → Nat) (km : Nat) (v : Nat → Int32) (F : Nat → Nat → Int32) (n : Nat) (S : Nat → List Nat) (hS0 : MLs v F n S) (ls9 : List Nat) (B : Nat → List Nat) (hB0 : MBs v F ls9 B) (lk : Nat) (h30 : v 30 = nI lk) (g : Gr) (hg : MGr g v F) (hn1 : 1 ≤ n) (hn24 : n ≤ 24) (hgb : gRow g (S (n - 1))) (R : Nat) (hR9 : R < 100) (hM : ModF cI ad ws km v F) : x_Mv l yM_does wM_does (xR 4) D xCl tys A [.ref (ad km), .int 7, .int (nI R)] ws (fun ws1 => x_fr km (km + 24) ws ws1 ∧ ∃ v9 F9, ModF cI ad ws1 km v9 F9 ∧ XM v9 F9 (n, updJ S (n - 1) (growR (gU g) R (S (n - 1)) 0), B, lk + (growR (gU g) R (S (n - 1)) 0).length) ls9 ∧ kpX v F v9 F9) := by
  have hF : x_fr km (km + 24) ws ws := x_fr.rf
  obtain ⟨hv28, hn60, hSi⟩ := id hS0
  have hgo := hg.1
  have hgl : g.length ≤ 30 := hgo.1
  refine x_enter (by decide) rfl (Nat.le_of_ble_eq_true rfl) (fun p e s m args below meth c ls hx hb hr hlk hml hown hnm hts hK hP hD hS hA hN hl => ?_)
  have hl : lv_has ls 3 [(0, .ref (ad km)), (1, .int 7), (2, .int (nI R))] := hl
  refine lv_iload_n hx hb dM_does_0 rfl (lv_at hl 1 rfl) ?_
  refine lv_tableIn (tgt := 209) hx hb dM_does_1 (by decide) (by decide) rfl (by decide) ?_
  refine lv_aload_n hx hb dM_does_209 rfl (lv_at hl 0 rfl) ?_
  refine lv_iload_n hx hb dM_does_210 rfl (lv_at hl 1 rfl) ?_
  refine lv_bipush (v := 7) hx hb dM_does_211 (by decide) ?_
  refine lv_icmp_ne (tgt := 220) hx hb dM_does_213 (by decide) (fun c213 => ?_) (fun c213 => ?_)
  · exact absurd rfl c213
  · refine lv_iconst (v := 1) hx hb dM_does_216 (by decide) ?_
    refine lv_goto (tgt := 221) hx hb dM_does_217 (by decide) ?_
    refine lv_iload_n hx hb dM_does_221 rfl (lv_at hl 2 rfl) ?_
    refine lv_iconst (v := (-1)) hx hb dM_does_222 (by decide) ?_
    refine lv_icmp_ne (tgt := 232) hx hb dM_does_223 (by decide) (fun c223 => ?_) (fun c223 => ?_)
    · refine lv_iload_n hx hb dM_does_232 rfl (lv_at hl 2 rfl) ?_
      refine x_callv (x_runV (n := 2) (As := [.int 1, .int (nI R)]) (rest := []) ⟨hx, hb, hml, hown, hts⟩ (cM_reach_t l D tys A ws cI hI ad km v F n S hS0 g hg (nI R) hn1 (by omega) hgb hM) tw_857 tw_859 ts_M_reach tw_8 tw_860 (by decide +kernel) rfl rfl ⟨by decide, by decide⟩ ⟨Nat.zero_le _, Nat.zero_le _⟩ (va_recv hK hP (ci := 7) (q0 := km) rfl hM.1) hK hP hD hS hA hN rfl hl.1 rfl (lv_room (Nat.le_of_ble_eq_true rfl)) dM_does_233) hS (fun ws_1 H locs hre hP hD hS => ?_)
      obtain ⟨hF9, v3, F3, x0, hM, hx0, hx1, hS3, h20, h21, hvk3, hfk3⟩ := hre
      have hF := hF.tr hF9
      refine lv_aload_n hx hb dM_does_236 rfl (lv_at hl 0 rfl) ?_
      refine lv_iconst (v := 1) hx hb dM_does_237 (by decide) ?_
      refine x_callv (x_runV (n := 1) (As := [.int 1]) (rest := []) ⟨hx, hb, hml, hown, hts⟩ (cM_replace l D tys A ws_1 cI hI ad km v3 F3 (n + 1) (updJ S n (bq (nbB true g) (nI R) 30 0 x0).1) hS3 1 (by omega) (by omega) hM) tw_853 tw_855 ts_M_replace tw_8 tw_856 (by decide +kernel) rfl rfl ⟨by decide, by decide⟩ ⟨Nat.zero_le _, Nat.zero_le _⟩ (va_recv hK hP (ci := 7) (q0 := km) rfl hM.1) hK hP hD hS hA hN rfl hl.1 rfl (lv_room (Nat.le_of_ble_eq_true rfl)) dM_does_238) hS (fun ws_2 H locs hrp hP hD hS => ?_)
      obtain ⟨hF9, v9, F9, hM9, hS9, h309, hvk9, hfk9⟩ := hrp
      have hF := hF.tr hF9
      refine lv_goto (tgt := 278) hx hb dM_does_241 (by decide) ?_
      exact x_vret hx hb hr hlk hK hP hD hS dM_does_278 (by have hgw : (bq (nbB true g) (nI R) 30 0 x0).1 = (growR (gU g) R (S (n - 1)) 0) := grow_R hgo hgb hx0 hx1 hR9; rw [show n + 1 - 1 - 1 + 1 = n by omega, show n + 1 - 1 - 1 = n - 1 by omega, show n + 1 - 1 = n by omega, updJ_s, hgw] at hS9; rw [show n + 1 - 1 = n by omega, updJ_s, hgw] at h309; exact ⟨hF, v9, F9, hM9, ⟨hS9.cg (fun j hj => by have hj : j < n := hj; show updJ S (n - 1) _ j = _; by_cases z9 : j = n - 1; (rw [z9, updJ_s, updJ_s]); (rw [updJ_o9 z9, updJ_o9 z9, updJ_o9 (by omega)])), hB0.c2 (by rw [hvk9 29 (by simp), hvk3 29 (by simp)]) (by rw [hfk9 16 (by simp), hfk3 16 (by simp)]) (by rw [hfk9 17 (by simp), hfk3 17 (by simp)]) (by rw [hfk9 18 (by simp), hfk3 18 (by simp)]), (by show v9 30 = nI (lk + (growR (gU g) R (S (n - 1)) 0).length); rw [h309, hvk3 30 (by simp), h30, nI_add])⟩, ⟨(hvk3.wd (by simp)).tr (hvk9.wd (by simp)), (hfk3.wd (by simp)).tr (hfk9.wd (by simp))⟩⟩)
    · exact absurd c223 (nI_m1 (by omega))

set_option maxHeartbeats 4000000 in
set_option maxRecDepth 100000 in
theorem cM_does_7u (l : Launch) (D : va_G) (tys : List (ClassId × FieldType)) (A : Nat → Prop) (ws : va_W) (cI : ClassId) (hI : tys[0]? = some (cI, .int)) (ad : Nat → Nat) (km : Nat) (v : Nat → Int32) (F : Nat → Nat → Int32) (n : Nat) (S : Nat → List Nat) (hS0 : MLs v F n S) (ls9 : List Nat) (B : Nat → List Nat) (hB0 : MBs v F ls9 B) (lk : Nat) (h30 : v 30 = nI lk) (g : Gr) (hg : MGr g v F) (hn1 : 1 ≤ n) (hn24 : n ≤ 24) (hgb : gRow g (S (n - 1))) (hM : ModF cI ad ws km v F) : x_Mv l yM_does wM_does (xR 4) D xCl tys A [.ref (ad km), .int 7, .int (-1)] ws (fun ws1 => x_fr km (km + 24) ws ws1 ∧ ∃ v9 F9, ModF cI ad ws1 km v9 F9 ∧ XM v9 F9 (n, updJ S (n - 1) (growR (gU g) 30 (S (n - 1)) 0), B, lk + (growR (gU g) 30 (S (n - 1)) 0).length) ls9 ∧ kpX v F v9 F9) := by
  have hF : x_fr km (km + 24) ws ws := x_fr.rf
  obtain ⟨hv28, hn60, hSi⟩ := id hS0
  have hgo := hg.1
  have hgl : g.length ≤ 30 := hgo.1
  refine x_enter (by decide) rfl (Nat.le_of_ble_eq_true rfl) (fun p e s m args below meth c ls hx hb hr hlk hml hown hnm hts hK hP hD hS hA hN hl => ?_)
  have hl : lv_has ls 3 [(0, .ref (ad km)), (1, .int 7), (2, .int (-1))] := hl
  refine lv_iload_n hx hb dM_does_0 rfl (lv_at hl 1 rfl) ?_
  refine lv_tableIn (tgt := 209) hx hb dM_does_1 (by decide) (by decide) rfl (by decide) ?_
  refine lv_aload_n hx hb dM_does_209 rfl (lv_at hl 0 rfl) ?_
  refine lv_iload_n hx hb dM_does_210 rfl (lv_at hl 1 rfl) ?_
  refine lv_bipush (v := 7) hx hb dM_does_211 (by decide) ?_
  refine lv_icmp_ne (tgt := 220) hx hb dM_does_213 (by decide) (fun c213 => ?_) (fun c213 => ?_)
  · exact absurd rfl c213
  · refine lv_iconst (v := 1) hx hb dM_does_216 (by decide) ?_
    refine lv_goto (tgt := 221) hx hb dM_does_217 (by decide) ?_
    refine lv_iload_n hx hb dM_does_221 rfl (lv_at hl 2 rfl) ?_
    refine lv_iconst (v := (-1)) hx hb dM_does_222 (by decide) ?_
    refine lv_icmp_ne (tgt := 232) hx hb dM_does_223 (by decide) (fun c223 => ?_) (fun c223 => ?_)
    · exact absurd rfl c223
    · refine lv_sipush (v := 1000) hx hb dM_does_226 (by decide) ?_
      refine lv_goto (tgt := 233) hx hb dM_does_229 (by decide) ?_
      refine x_callv (x_runV (n := 2) (As := [.int 1, .int 1000]) (rest := []) ⟨hx, hb, hml, hown, hts⟩ (cM_reach_t l D tys A ws cI hI ad km v F n S hS0 g hg 1000 hn1 (by omega) hgb hM) tw_857 tw_859 ts_M_reach tw_8 tw_860 (by decide +kernel) rfl rfl ⟨by decide, by decide⟩ ⟨Nat.zero_le _, Nat.zero_le _⟩ (va_recv hK hP (ci := 7) (q0 := km) rfl hM.1) hK hP hD hS hA hN rfl hl.1 rfl (lv_room (Nat.le_of_ble_eq_true rfl)) dM_does_233) hS (fun ws_1 H locs hre hP hD hS => ?_)
      obtain ⟨hF9, v3, F3, x0, hM, hx0, hx1, hS3, h20, h21, hvk3, hfk3⟩ := hre
      have hF := hF.tr hF9
      refine lv_aload_n hx hb dM_does_236 rfl (lv_at hl 0 rfl) ?_
      refine lv_iconst (v := 1) hx hb dM_does_237 (by decide) ?_
      refine x_callv (x_runV (n := 1) (As := [.int 1]) (rest := []) ⟨hx, hb, hml, hown, hts⟩ (cM_replace l D tys A ws_1 cI hI ad km v3 F3 (n + 1) (updJ S n (bq (nbB true g) 1000 30 0 x0).1) hS3 1 (by omega) (by omega) hM) tw_853 tw_855 ts_M_replace tw_8 tw_856 (by decide +kernel) rfl rfl ⟨by decide, by decide⟩ ⟨Nat.zero_le _, Nat.zero_le _⟩ (va_recv hK hP (ci := 7) (q0 := km) rfl hM.1) hK hP hD hS hA hN rfl hl.1 rfl (lv_room (Nat.le_of_ble_eq_true rfl)) dM_does_238) hS (fun ws_2 H locs hrp hP hD hS => ?_)
      obtain ⟨hF9, v9, F9, hM9, hS9, h309, hvk9, hfk9⟩ := hrp
      have hF := hF.tr hF9
      refine lv_goto (tgt := 278) hx hb dM_does_241 (by decide) ?_
      exact x_vret hx hb hr hlk hK hP hD hS dM_does_278 (by have hgw : (bq (nbB true g) 1000 30 0 x0).1 = (growR (gU g) 30 (S (n - 1)) 0) := grow_U hgo hgb hx0 hx1; rw [show n + 1 - 1 - 1 + 1 = n by omega, show n + 1 - 1 - 1 = n - 1 by omega, show n + 1 - 1 = n by omega, updJ_s, hgw] at hS9; rw [show n + 1 - 1 = n by omega, updJ_s, hgw] at h309; exact ⟨hF, v9, F9, hM9, ⟨hS9.cg (fun j hj => by have hj : j < n := hj; show updJ S (n - 1) _ j = _; by_cases z9 : j = n - 1; (rw [z9, updJ_s, updJ_s]); (rw [updJ_o9 z9, updJ_o9 z9, updJ_o9 (by omega)])), hB0.c2 (by rw [hvk9 29 (by simp), hvk3 29 (by simp)]) (by rw [hfk9 16 (by simp), hfk3 16 (by simp)]) (by rw [hfk9 17 (by simp), hfk3 17 (by simp)]) (by rw [hfk9 18 (by simp), hfk3 18 (by simp)]), (by show v9 30 = nI (lk + (growR (gU g) 30 (S (n - 1)) 0).length); rw [h309, hvk3 30 (by simp), h30, nI_add])⟩, ⟨(hvk3.wd (by simp)).tr (hvk9.wd (by simp)), (hfk3.wd (by simp)).tr (hfk9.wd (by simp))⟩⟩)

set_option maxHeartbeats 4000000 in
set_option maxRecDepth 100000 in
theorem cM_does_20 (l : Launch) (D : va_G) (tys : List (ClassId × FieldType)) (A : Nat → Prop) (ws : va_W) (cI : ClassId) (hI : tys[0]? = some (cI, .int)) (ad : Nat → Nat) (km : Nat) (v : Nat → Int32) (F : Nat → Nat → Int32) (n : Nat) (S : Nat → List Nat) (hS0 : MLs v F n S) (ls9 : List Nat) (B : Nat → List Nat) (hB0 : MBs v F ls9 B) (lk : Nat) (h30 : v 30 = nI lk) (g : Gr) (hg : MGr g v F) (hn1 : 1 ≤ n) (hn24 : n ≤ 24) (c9 : Nat) (hc9 : c9 < 26) (hl12 : ls9.length < 12) (hM : ModF cI ad ws km v F) : x_Mv l yM_does wM_does (xR 4) D xCl tys A [.ref (ad km), .int 20, .int (nI c9)] ws (fun ws1 => x_fr km (km + 24) ws ws1 ∧ ∃ v9 F9, ModF cI ad ws1 km v9 F9 ∧ XM v9 F9 (n - 1, S, updJ B ls9.length (S (n - 1)), lk) (ls9 ++ [c9]) ∧ kpX v F v9 F9) := by
  have hF : x_fr km (km + 24) ws ws := x_fr.rf
  obtain ⟨hv28, hn60, hSi⟩ := id hS0
  have hgo := hg.1
  have hgl : g.length ≤ 30 := hgo.1
  refine x_enter (by decide) rfl (Nat.le_of_ble_eq_true rfl) (fun p e s m args below meth c ls hx hb hr hlk hml hown hnm hts hK hP hD hS hA hN hl => ?_)
  have hl : lv_has ls 3 [(0, .ref (ad km)), (1, .int 20), (2, .int (nI c9))] := hl
  refine lv_iload_n hx hb dM_does_0 rfl (lv_at hl 1 rfl) ?_
  refine lv_tableIn (tgt := 251) hx hb dM_does_1 (by decide) (by decide) rfl (by decide) ?_
  refine lv_aload_n hx hb dM_does_251 rfl (lv_at hl 0 rfl) ?_
  refine lv_iload_n hx hb dM_does_252 rfl (lv_at hl 2 rfl) ?_
  refine x_callv (x_runV (n := 1) (As := [.int (nI c9)]) (rest := []) ⟨hx, hb, hml, hown, hts⟩ (cM_bind l D tys A ws cI hI ad km v F n S hS0 ls9 B hB0 c9 hc9 hn1 hl12 hM) tw_869 tw_871 ts_M_bind tw_8 tw_872 (by decide +kernel) rfl rfl ⟨by decide, by decide⟩ ⟨Nat.zero_le _, Nat.zero_le _⟩ (va_recv hK hP (ci := 7) (q0 := km) rfl hM.1) hK hP hD hS hA hN rfl hl.1 rfl (lv_room (Nat.le_of_ble_eq_true rfl)) dM_does_253) hS (fun ws_1 H locs hbi hP hD hS => ?_)
  obtain ⟨hF9, v9, F9, hM9, hS9, hB9, hvk9, hfk9⟩ := hbi
  have hF := hF.tr hF9
  refine lv_goto (tgt := 278) hx hb dM_does_256 (by decide) ?_
  exact x_vret hx hb hr hlk hK hP hD hS dM_does_278 ⟨hF, v9, F9, hM9, ⟨hS9, hB9, (by rw [hvk9 30 (by simp)]; exact h30)⟩, ⟨hvk9.wd (by simp), hfk9.wd (by simp)⟩⟩

set_option maxHeartbeats 4000000 in
set_option maxRecDepth 100000 in
theorem cM_does_21 (l : Launch) (D : va_G) (tys : List (ClassId × FieldType)) (A : Nat → Prop) (ws : va_W) (cI : ClassId) (hI : tys[0]? = some (cI, .int)) (ad : Nat → Nat) (km : Nat) (v : Nat → Int32) (F : Nat → Nat → Int32) (n : Nat) (S : Nat → List Nat) (hS0 : MLs v F n S) (ls8 : List Nat) (c9 : Nat) (B : Nat → List Nat) (hB0 : MBs v F (ls8 ++ [c9]) B) (lk : Nat) (h30 : v 30 = nI lk) (g : Gr) (hg : MGr g v F) (it9 : Int32) (hM : ModF cI ad ws km v F) : x_Mv l yM_does wM_does (xR 4) D xCl tys A [.ref (ad km), .int 21, .int it9] ws (fun ws1 => x_fr km (km + 24) ws ws1 ∧ ∃ v9 F9, ModF cI ad ws1 km v9 F9 ∧ XM v9 F9 (n, S, B, lk) ls8 ∧ kpX v F v9 F9) := by
  have hF : x_fr km (km + 24) ws ws := x_fr.rf
  obtain ⟨hv28, hn60, hSi⟩ := id hS0
  have hgo := hg.1
  have hgl : g.length ≤ 30 := hgo.1
  refine x_enter (by decide) rfl (Nat.le_of_ble_eq_true rfl) (fun p e s m args below meth c ls hx hb hr hlk hml hown hnm hts hK hP hD hS hA hN hl => ?_)
  have hl : lv_has ls 3 [(0, .ref (ad km)), (1, .int 21), (2, .int it9)] := hl
  refine lv_iload_n hx hb dM_does_0 rfl (lv_at hl 1 rfl) ?_
  refine lv_tableIn (tgt := 259) hx hb dM_does_1 (by decide) (by decide) rfl (by decide) ?_
  refine lv_aload_n hx hb dM_does_259 rfl (lv_at hl 0 rfl) ?_
  refine lv_dup hx hb dM_does_260 rfl ?_
  refine va_get (D := D) (cl := xCl) (ci := 7) (v := .int (v 29)) (C := rnM) (T := tbM) (N := 39) hx hb hts inM hown hK hP km hM.1 rfl 29 (by decide) (hts _ tw_646) (fun _ h9 => h9) rfl dM_does_261 ?_
  refine lv_iconst (v := 1) hx hb dM_does_264 (by decide) ?_
  refine lv_isub hx hb dM_does_265 ?_
  refine lv_topi (fun v_1 ev_1 => ?_)
  refine va_put (D := D) (cl := xCl) (ci := 7) (v := .int v_1) (ty := .int) (C := rnM) (T := tbM) (N := 39) hx hb hts inM tyM toM nmM hown hK hP hD hS km hM.1 rfl 29 (by decide) (hts _ tw_646) (fun _ h9 => h9) rfl (by decide +kernel) rfl rfl (Nat.le_of_ble_eq_true rfl) dM_does_266 (fun H locs hP hD hS => ?_)
  obtain ⟨ws_3, hu_2, hP, hD⟩ := x_gen hM.1 hP hD
  have hM : ModF cI ad ws_3 km (setV v 29 v_1) F := hM.fld_29 hu_2
  have hF := hF.tr (hu_2.fr (a := km) (b := km + 24) (by omega) (by omega))
  refine lv_goto (tgt := 278) hx hb dM_does_269 (by decide) ?_
  exact x_vret hx hb hr hlk hK hP hD hS dM_does_278 ⟨hF, _, _, hM, ⟨hS0.c2 rfl rfl rfl, ⟨by show v_1 = _; rw [ev_1, hB0.1, List.length_append]; exact nI_pred _, by have z9 := hB0.2.1; rw [List.length_append] at z9; omega, fun k hk => by have z9 := hB0.2.2 k (by rw [List.length_append]; omega); rw [List.getElem_append_left hk] at z9; exact z9⟩, h30⟩, ⟨vk_s (by simp), fk.rf⟩⟩

/-- does(what, its): one step of the program -/
theorem cM_does (l : Launch) (D : va_G) (tys : List (ClassId × FieldType)) (A : Nat → Prop) (ws : va_W) (cI : ClassId) (hI : tys[0]? = some (cI, .int)) (ad : Nat → Nat) (km : Nat) (v : Nat → Int32) (F : Nat → Nat → Int32) (g : Gr) (hg : MGr g v F) (q : RS) (ls9 : List Nat) (b : Za) (z : Zt) (hz : zs (q.1, ls9) b z) (hri : RI g q (q.1, ls9)) (hk : kn9 g z) (hX : XM v F q ls9) (it : Int32) (hit : ¬ z.2.1 = 5 → it = z.2.2.1) (hM : ModF cI ad ws km v F) : x_Mv l yM_does wM_does (xR 4) D xCl tys A [.ref (ad km), .int z.2.1, .int it] ws (fun ws1 => x_fr km (km + 24) ws ws1 ∧ ∃ v9 F9, ModF cI ad ws1 km v9 F9 ∧ XM v9 F9 (zex g q z) b.2 ∧ kpX v F v9 F9) := by
  obtain ⟨n, S, B, lk⟩ := q
  obtain ⟨hL, hB, h30⟩ := hX
  obtain ⟨-, r2, r3, r4⟩ := hri
  replace r2 : ∀ i, i < n → gRow g (S i) := r2
  have hg1 := hg.1
  rcases hz with ⟨ha, rfl, hc⟩ | ⟨ha, ha2, hba, hc⟩ | ⟨ha, ha2, rfl, K, pl, hK, rfl⟩ | ⟨ha, ha2, c, pl, hc, hl, rfl, rfl⟩ | ⟨c, ls, hc, hl, rfl, rfl⟩
  · replace ha : n < 24 := ha
    rcases hc with ⟨w, pl, hw, rfl⟩ | ⟨w, pl, rfl⟩ | ⟨s, c, pl, pl2, hc, hs, hl, rfl⟩
    · obtain rfl : it = nI w := hit (by show ¬ (2 : Int32) = 5; decide)
      have hk2 : ¬ gNoI g (nI w) = -1 := hk rfl
      rw [gNoI_nI g hw] at hk2
      obtain ⟨t, ht, et⟩ := gNo_in hk2
      have e : oneX g B 2 (nI w) [] = [t] := by
        unfold oneX
        rw [if_pos rfl, gNoI_nI g hw, et, addI_nI [] (Nat.lt_of_lt_of_le ht hg1.1), if_neg (by simp)]
        rfl
      show x_Mv l yM_does wM_does (xR 4) D xCl tys A [.ref (ad km), .int 2, .int (nI w)] ws (fun ws1 => x_fr km (km + 24) ws ws1 ∧ ∃ v9 F9, ModF cI ad ws1 km v9 F9 ∧ XM v9 F9 (rstep g (n, S, B, lk) (2, nI w, pl)) ls9 ∧ kpX v F v9 F9)
      rw [rs_push (Or.inl rfl), e]
      exact cM_does_2 l D tys A ws cI hI ad km v F n S hL ls9 B hB lk h30 g hg ha w t hw ht et hM
    · show x_Mv l yM_does wM_does (xR 4) D xCl tys A [.ref (ad km), .int 5, .int it] ws (fun ws1 => x_fr km (km + 24) ws ws1 ∧ ∃ v9 F9, ModF cI ad ws1 km v9 F9 ∧ XM v9 F9 (rstep g (n, S, B, lk) (5, w, pl)) ls9 ∧ kpX v F v9 F9)
      rw [rs_push (Or.inr (Or.inr rfl))]
      exact cM_does_5 l D tys A ws cI hI ad km v F n S hL ls9 B hB lk h30 g hg ha it hM
    · obtain rfl : it = nI c := hit (by show ¬ (3 : Int32) = 5; decide)
      have hsl : s < ls9.length := by
        have hr : ls9.reverse.length < 1000 := by rw [List.length_reverse]; replace r4 : ls9.length ≤ 12 := r4; omega
        by_cases hm : c ∈ ls9.reverse
        · obtain ⟨s2, hs2, e2⟩ := (lixR_in _ c hr).2 hm
          have e3 : nI s2 = nI s := e2.symm.trans hl
          rw [List.length_reverse] at hs2 hr
          rw [nI_eq (by omega) (by omega)] at e3
          omega
        · have e2 := (lixR_in _ c hr).1 hm
          exact absurd (e2.symm.trans hl).symm (nI_m1 (by omega))
      have e : oneX g B 3 (nI s) [] = B s := by
        show B (nI s).toInt.toNat = _
        rw [nI_toInt (by omega), Int.toNat_natCast]
      show x_Mv l yM_does wM_does (xR 4) D xCl tys A [.ref (ad km), .int 3, .int (nI c)] ws (fun ws1 => x_fr km (km + 24) ws ws1 ∧ ∃ v9 F9, ModF cI ad ws1 km v9 F9 ∧ XM v9 F9 (rstep g (n, S, B, lk) (3, nI s, pl)) ls9 ∧ kpX v F v9 F9)
      rw [rs_push (Or.inr (Or.inl rfl)), e]
      exact cM_does_3 l D tys A ws cI hI ad km v F n S hL ls9 B hB lk h30 g hg ha c s hc hsl hl hM
  · replace ha : 1 ≤ n := ha
    replace ha2 : n ≤ 24 := ha2
    obtain rfl : (n, ls9) = b := hba.symm
    have hgb := r2 (n - 1) (by omega)
    rcases hc with ⟨K, R, pl, hK, hR, hz⟩ | ⟨w, pl, rfl⟩ | ⟨K, pl, hK, rfl⟩
    · have top : ∀ (K w : Int32), (K = 6 ∨ K = 7) → w = (K, nI R, pl).2.1 → rstep g (n, S, B, lk) (K, nI R, pl) = (n, updJ S (n - 1) (growR (if K = 7 then gU g else gD g) R (S (n - 1)) 0), B, lk + (growR (if K = 7 then gU g else gD g) R (S (n - 1)) 0).length) := by
        intro K w hK _
        have e0 : (nI R).toInt.toNat = R := by rw [nI_toInt (by omega), Int.toNat_natCast]
        rcases hK with rfl | rfl
        · rw [rs_top (Or.inl rfl)]
          show (n, updJ S (n - 1) (growR (gD g) (nI R).toInt.toNat (S (n - 1)) 0), B, lk + (growR (gD g) (nI R).toInt.toNat (S (n - 1)) 0).length) = _
          rw [e0]; rfl
        · rw [rs_top (Or.inr (Or.inl rfl))]
          show (n, updJ S (n - 1) (growR (gU g) (nI R).toInt.toNat (S (n - 1)) 0), B, lk + (growR (gU g) (nI R).toInt.toNat (S (n - 1)) 0).length) = _
          rw [e0]; rfl
      have ez : zex g (n, S, B, lk) z = rstep g (n, S, B, lk) (K, nI R, pl) := by rcases hz with rfl | ⟨-, rfl⟩ <;> rfl
      rw [ez, top K (nI R) hK rfl]
      rcases hz with rfl | ⟨rfl, rfl⟩
      · obtain rfl : it = nI R := hit (by show ¬ K = 5; rcases hK with rfl | rfl <;> decide)
        rcases hK with rfl | rfl
        · exact cM_does_6 l D tys A ws cI hI ad km v F n S hL ls9 B hB lk h30 g hg ha ha2 hgb R hR hM
        · exact cM_does_7 l D tys A ws cI hI ad km v F n S hL ls9 B hB lk h30 g hg ha ha2 hgb R hR hM
      · obtain rfl : it = -1 := hit (by show ¬ K = 5; rcases hK with rfl | rfl <;> decide)
        rcases hK with rfl | rfl
        · exact cM_does_6u l D tys A ws cI hI ad km v F n S hL ls9 B hB lk h30 g hg ha ha2 hgb hM
        · exact cM_does_7u l D tys A ws cI hI ad km v F n S hL ls9 B hB lk h30 g hg ha ha2 hgb hM
    · obtain rfl : it = w := hit (by show ¬ (9 : Int32) = 5; decide)
      show x_Mv l yM_does wM_does (xR 4) D xCl tys A [.ref (ad km), .int 9, .int it] ws (fun ws1 => x_fr km (km + 24) ws ws1 ∧ ∃ v9 F9, ModF cI ad ws1 km v9 F9 ∧ XM v9 F9 (rstep g (n, S, B, lk) (9, it, pl)) ls9 ∧ kpX v F v9 F9)
      rw [rs_top (Or.inr (Or.inr (Or.inl rfl)))]
      exact cM_does_9 l D tys A ws cI hI ad km v F n S hL ls9 B hB lk h30 g hg ha ha2 hgb it hM
    · rcases hK with rfl | rfl
      · show x_Mv l yM_does wM_does (xR 4) D xCl tys A [.ref (ad km), .int 10, .int it] ws (fun ws1 => x_fr km (km + 24) ws ws1 ∧ ∃ v9 F9, ModF cI ad ws1 km v9 F9 ∧ XM v9 F9 (rstep g (n, S, B, lk) (10, 0, pl)) ls9 ∧ kpX v F v9 F9)
        rw [rs_top (Or.inr (Or.inr (Or.inr (Or.inl rfl))))]
        exact cM_does_10 l D tys A ws cI hI ad km v F n S hL ls9 B hB lk h30 g hg ha ha2 hgb it hM
      · show x_Mv l yM_does wM_does (xR 4) D xCl tys A [.ref (ad km), .int 11, .int it] ws (fun ws1 => x_fr km (km + 24) ws ws1 ∧ ∃ v9 F9, ModF cI ad ws1 km v9 F9 ∧ XM v9 F9 (rstep g (n, S, B, lk) (11, 0, pl)) ls9 ∧ kpX v F v9 F9)
        rw [rs_top (Or.inr (Or.inr (Or.inr (Or.inr rfl))))]
        exact cM_does_11 l D tys A ws cI hI ad km v F n S hL ls9 B hB lk h30 g hg ha ha2 hgb it hM
  · replace ha : 2 ≤ n := ha
    replace ha2 : n ≤ 24 := ha2
    have hga := r2 (n - 2) (by omega)
    have hgb := r2 (n - 1) (by omega)
    show x_Mv l yM_does wM_does (xR 4) D xCl tys A [.ref (ad km), .int K, .int it] ws (fun ws1 => x_fr km (km + 24) ws ws1 ∧ ∃ v9 F9, ModF cI ad ws1 km v9 F9 ∧ XM v9 F9 (rstep g (n, S, B, lk) (K, 0, pl)) ls9 ∧ kpX v F v9 F9)
    rw [rs_two hK, show (n, S, B, lk).1 - 1 - 1 = n - 2 from by show n - 1 - 1 = n - 2; omega]
    rcases hK with rfl | rfl | rfl | rfl
    · exact cM_does_43 l D tys A ws cI hI ad km v F n S hL ls9 B hB lk h30 g hg ha ha2 hga hgb it hM
    · exact cM_does_45 l D tys A ws cI hI ad km v F n S hL ls9 B hB lk h30 g hg ha ha2 hga hgb it hM
    · exact cM_does_38 l D tys A ws cI hI ad km v F n S hL ls9 B hB lk h30 g hg ha ha2 hga hgb it hM
    · exact cM_does_8 l D tys A ws cI hI ad km v F n S hL ls9 B hB lk h30 g hg ha ha2 hga hgb it hM
  · replace ha : 1 ≤ n := ha
    replace ha2 : n ≤ 24 := ha2
    replace hl : ls9.length < 12 := hl
    obtain rfl : it = nI c := hit (by show ¬ (20 : Int32) = 5; decide)
    show x_Mv l yM_does wM_does (xR 4) D xCl tys A [.ref (ad km), .int 20, .int (nI c)] ws (fun ws1 => x_fr km (km + 24) ws ws1 ∧ ∃ v9 F9, ModF cI ad ws1 km v9 F9 ∧ XM v9 F9 (rstep g (n, S, B, lk) (12, nI ls9.length, pl)) (ls9 ++ [c]) ∧ kpX v F v9 F9)
    rw [rs_let rfl, show ((12 : Int32), nI ls9.length, pl).2.1.toInt.toNat = ls9.length from by show (nI ls9.length).toInt.toNat = _; rw [nI_toInt (by omega), Int.toNat_natCast]]
    exact cM_does_20 l D tys A ws cI hI ad km v F n S hL ls9 B hB lk h30 g hg ha ha2 c hc hl hM
  · replace hl : ls9 = ls ++ [c] := hl
    subst hl
    exact cM_does_21 l D tys A ws cI hI ad km v F n S hL ls c B hB lk h30 g hg it hM
