/-- n steps back from t are there -/
def ancK (f : Nat → Int32) : Nat → Nat → Prop
  | 0, _ => True
  | n + 1, t => t < 30 ∧ (n = 0 ∨ ∃ u, u < 30 ∧ f t = nI u ∧ ancK f n u)
theorem anc_ok {f : Nat → Int32} {K : List Nat} {lev : Nat → Nat} (h30 : ∀ u ∈ K, u < 30) (hpa : ∀ u ∈ K, (lev u = 0 ∧ f u = -1) ∨ ∃ v ∈ K, lev u = lev v + 1 ∧ f u = nI v) : ∀ (e t : Nat), t ∈ K → lev t = e → ancK f (e + 1) t := by
  intro e
  induction e with
  | zero => intro t ht _; exact ⟨h30 t ht, Or.inl rfl⟩
  | succ e ih =>
    intro t ht hl
    refine ⟨h30 t ht, ?_⟩
    rcases hpa t ht with ⟨a, -⟩ | ⟨v, hv, a, b⟩
    · omega
    · exact Or.inr ⟨v, h30 v hv, b, ih v hv (by omega)⟩
theorem way_eq2 {g : Gr} {L G : List Nat} (hg : GrOK g) (hL : gRow g L) {x : BX} (hx : x.1 = L) (h0 : ∀ u ∈ L, x.2.1 u = -1 ∧ x.2.2 u = 0) :
    ((bq (nbB false g) 1000 30 0 x).1.find? (fun t => decide (t ∈ G)) = none ∧ wayF g L G = []) ∨ ∃ t e, t < 30 ∧ e < 30 ∧ (bq (nbB false g) 1000 30 0 x).1.find? (fun t => decide (t ∈ G)) = some t ∧ (bq (nbB false g) 1000 30 0 x).2.2 t = nI e ∧ wayF g L G = anc (bq (nbB false g) 1000 30 0 x).2.1 (e + 1) t ∧ ancK (bq (nbB false g) 1000 30 0 x).2.1 (e + 1) t := by
  have hnb : ∀ t u, u ∈ gD g t → u < 30 := fun t u hu => Nat.lt_of_lt_of_le (gD_lt hg t u hu) hg.1
  have h30 : ∀ u ∈ L, u < 30 := fun u hu => Nat.lt_of_lt_of_le (hL.2 u hu) hg.1
  subst hx
  have hB := BI.init (nb := gD g) hL.1 h30 h0
  rw [show nbB false g = gD g from rfl]
  unfold wayF wayS
  rcases wayQ_bq (G := G) hnb 30 0 x (x.1, fun _ => -1) _ rfl (fun u hu => ((h0 u hu).1).symm) hB (by omega) (fun p h => absurd h (by omega)) with ⟨a, b⟩ | ⟨t, a, b, K, l2, k1, k2, k3, k4⟩
  · refine Or.inl ⟨a, ?_⟩
    rw [b]
    show (if blw (-1) 30 = true then _ else _ : List Nat).reverse = []
    rw [if_neg (by decide)]
    rfl
  · have h30K : ∀ u ∈ K, u < 30 := fun u hu => (k2 u hu).1
    refine Or.inr ⟨t, l2 t, (k2 t k1).1, (k2 t k1).2.1, a, (k3 t k1).2, ?_, anc_ok h30K k4 (l2 t) t k1 rfl⟩
    rw [b, chain_anc (f := (bq (gD g) 1000 30 0 x).2.1) (K := K) (lev := l2) h30K (fun u hu => (k3 u hu).1) k4 (l2 t) 30 t [] k1 rfl (k2 t k1).2.1 (fun u hu => by cases hu) (fun u hu => by cases hu), List.nil_append, List.reverse_reverse]
def lastI (o : Option Nat) : Int32 := match o with
  | none => -1
  | some t => nI t
theorem lastI_n {o : Option Nat} (h : ∀ t, o = some t → t < 30) : lastI o = -1 ↔ o = none := by
  cases o with
  | none => exact ⟨fun _ => rfl, fun _ => rfl⟩
  | some t =>
    refine ⟨fun z => ?_, fun z => by cases z⟩
    have z2 : nI t = -1 := z
    have := congrArg Int32.toInt z2
    rw [nI_toInt (by have := h t rfl; omega)] at this
    have : (-1 : Int32).toInt = -1 := by decide
    omega
theorem find_tk {L : List Nat} {p : Nat → Bool} {k : Nat} (hk : k < L.length) (h : (L.take k).find? p = none) : (L.take (k + 1)).find? p = if p L[k] = true then some L[k] else none := by
  rw [List.take_succ_eq_append_getElem hk, List.find?_append, h]
  simp [List.find?_cons]
  cases p L[k] <;> rfl
theorem find_pre {L : List Nat} {p : Nat → Bool} {k t : Nat} (h : (L.take k).find? p = some t) : L.find? p = some t := by
  have e : L = L.take k ++ L.drop k := (List.take_append_drop k L).symm
  rw [e, List.find?_append, h]; rfl
theorem anc_len (f : Nat → Int32) : ∀ n t, (anc f n t).length = n := by
  intro n
  induction n with
  | zero => intro t; rfl
  | succ n ih => intro t; show (anc f n _ ++ [t]).length = _; rw [List.length_append, ih]; rfl
theorem ancK_lt {f : Nat → Int32} : ∀ n t, ancK f n t → ∀ u ∈ anc f n t, u < 30 := by
  intro n
  induction n with
  | zero => intro t _ u hu; cases hu
  | succ n ih =>
    intro t h u hu
    have hu2 : u ∈ anc f n (f t).toInt.toNat ++ [t] := hu
    rcases List.mem_append.mp hu2 with z | z
    · rcases h.2 with q | ⟨v, hv, e, q⟩
      · subst q; cases z
      · rw [e, nI_toInt (by omega), Int.toNat_natCast] at z; exact ih v q u z
    · rw [List.mem_singleton] at z; rw [z]; exact h.1
/-- n lists and one more whose row is being written -/
theorem MLs.last {v : Nat → Int32} {F : Nat → Nat → Int32} {n : Nat} {S : Nat → List Nat} {L : List Nat} (e : v 28 = nI (n + 1)) (hn : n + 1 ≤ 60) (h : ∀ i, i < n → (S i).length ≤ 30 ∧ F 15 i = nI (S i).length ∧ (∀ t ∈ S i, t < 30) ∧ ∀ (j : Nat) (h : j < (S i).length), F 14 (30 * i + j) = nI (S i)[j]) (h2 : L.length ≤ 30 ∧ F 15 n = nI L.length ∧ (∀ t ∈ L, t < 30) ∧ ∀ (j : Nat) (h : j < L.length), F 14 (30 * n + j) = nI L[j]) : MLs v F (n + 1) (updJ S n L) := by
  refine ⟨e, hn, fun i hi => ?_⟩
  by_cases z : i = n
  · rw [z, updJ_s]; exact h2
  · rw [updJ_o9 z]; exact h i (by omega)

set_option maxHeartbeats 4000000 in
set_option maxRecDepth 100000 in
/-- findWay() -/
theorem cM_findWay (l : Launch) (D : va_G) (tys : List (ClassId × FieldType)) (A : Nat → Prop) (ws : va_W) (cI : ClassId) (hI : tys[0]? = some (cI, .int)) (ad : Nat → Nat) (km : Nat) (v : Nat → Int32) (F : Nat → Nat → Int32) (n : Nat) (S : Nat → List Nat) (hS0 : MLs v F n S) (g : Gr) (hg : MGr g v F) (hn2 : 2 ≤ n) (hn58 : n < 50) (hga : gRow g (S (n - 2))) (hgb : gRow g (S (n - 1))) (hM : ModF cI ad ws km v F) : x_Mv l yM_findWay wM_findWay (xR 3) D xCl tys A [.ref (ad km)] ws (fun ws1 => x_fr km (km + 24) ws ws1 ∧ ∃ v9 F9, ModF cI ad ws1 km v9 F9 ∧ MLs v9 F9 (n - 1) (updJ S (n - 2) (wayF g (S (n - 2)) (S (n - 1)))) ∧ v9 30 = v 30 + nI (wayF g (S (n - 2)) (S (n - 1))).length ∧ vk [28, 30] v v9 ∧ fk [14, 15, 20, 21] F F9) := by
  have hF : x_fr km (km + 24) ws ws := x_fr.rf
  obtain ⟨hv28, hn60, hSi⟩ := id hS0
  have hgo := hg.1
  have hgl : g.length ≤ 30 := hgo.1
  refine x_enter (by decide) rfl (Nat.le_of_ble_eq_true rfl) (fun p e s m args below meth c ls hx hb hr hlk hml hown hnm hts hK hP hD hS hA hN hl => ?_)
  have hl : lv_has ls 5 [(0, .ref (ad km))] := hl
  have loop_169 : ∀ (fu9 : Nat) (x0 : BX) (fw0 : Nat → Int32) (n0 : Nat) (t0 : Nat) (m9 : Nat) (cur : Nat) (dn : List Nat) (la : Int32) (kk : Int32) (F1 : Nat → Nat → Int32) (vw : Nat → Int32) (ws1 : va_W) (H : Heap) (locs : List Loc) (ls : Array Slot), x_fr km (km + 24) ws ws1 → ModF cI ad ws1 km vw F1 → fk [14, 15, 20, 21] F F1 → x0.1 = (S (n - 2)) → (∀ u ∈ (S (n - 2)), x0.2.1 u = -1 ∧ x0.2.2 u = 0) → F1 20 = fw0 → (anc fw0 n0 t0) = anc fw0 m9 cur ++ dn → n0 ≤ 30 → ancK fw0 n0 t0 → (0 < m9 → la = nI cur) → ancK fw0 m9 cur → kk = nI m9 - 1 → (∀ i, i < n + 2 → ((updJ (updJ S n (S (n - 2))) (n + 1) (bq (nbB false g) 1000 30 0 x0).1) i).length ≤ 30 ∧ F1 15 i = nI ((updJ (updJ S n (S (n - 2))) (n + 1) (bq (nbB false g) 1000 30 0 x0).1) i).length ∧ (∀ t ∈ (updJ (updJ S n (S (n - 2))) (n + 1) (bq (nbB false g) 1000 30 0 x0).1) i, t < 30) ∧ ∀ (j : Nat) (h : j < ((updJ (updJ S n (S (n - 2))) (n + 1) (bq (nbB false g) 1000 30 0 x0).1) i).length), F1 14 (30 * i + j) = nI ((updJ (updJ S n (S (n - 2))) (n + 1) (bq (nbB false g) 1000 30 0 x0).1) i)[j]) → F1 15 (n + 2) = nI n0 → (∀ (j : Nat) (h : j < dn.length), F1 14 (30 * (n + 2) + m9 + j) = nI dn[j]) → vw 28 = nI (n + 2 + 1) → vk [28] v vw → (wayF g (S (n - 2)) (S (n - 1))) = (anc fw0 n0 t0) → m9 < fu9 → va_P D xCl ws1 H → va_D A ws1 → va_S A s.heap H locs → lv_has ls 5 [(0, .ref (ad km)), (1, .int (nI (n - 1))), (2, .int la), (4, .int kk)] → W p l e (xR 3) s m args below meth c H locs 0 0 (MQ below (va_Qv (fun ws1 => x_fr km (km + 24) ws ws1 ∧ ∃ v9 F9, ModF cI ad ws1 km v9 F9 ∧ MLs v9 F9 (n - 1) (updJ S (n - 2) (wayF g (S (n - 2)) (S (n - 1)))) ∧ v9 30 = v 30 + nI (wayF g (S (n - 2)) (S (n - 1))).length ∧ vk [28, 30] v v9 ∧ fk [14, 15, 20, 21] F F9) (x_B D xCl tys A) A) args s 0 0 A) (F0 m 169 ls []) := by
    intro fu9
    induction fu9 with
    | zero => intro x0 fw0 n0 t0 m9 cur dn la kk F1 vw ws1 H locs ls hF hM hfk hx0 hx1 h20 hPP hn30 hacl hla hac hk9 hrows hsz hdn hv28w hvkw hway hme; exact absurd hme (Nat.not_lt_zero _)
    | succ fu9 ih =>
      intro x0 fw0 n0 t0 m9 cur dn la kk F1 vw ws1 H locs ls hF hM hfk hx0 hx1 h20 hPP hn30 hacl hla hac hk9 hrows hsz hdn hv28w hvkw hway hme hP hD hS hl
      have hbq30 : ∀ u ∈ (bq (nbB false g) 1000 30 0 x0).1, u < 30 := bq_in (fun t u hu => Nat.lt_of_lt_of_le (nbB_lt hgo t u hu) hgl) 30 0 x0 (fun u hu => Nat.lt_of_lt_of_le (hga.2 u (by rw [← hx0]; exact hu)) hgl)
      refine lv_iload hx hb dM_findWay_169 (lv_at hl 3 rfl) ?_
      refine lv_if_lt (tgt := 205) hx hb dM_findWay_171 (by decide) (fun c171 => ?_) (fun c171 => ?_)
      · have hm0 : m9 = 0 := by rcases Nat.eq_zero_or_pos m9 with z9 | z9; exact z9; (exfalso; obtain ⟨m2, rfl⟩ : ∃ m2, m9 = m2 + 1 := ⟨m9 - 1, by omega⟩; have hkm : kk = nI m2 := (by rw [hk9]; exact nI_pred _); have z9 := congrArg List.length hPP; rw [anc_len, List.length_append, anc_len] at z9; rw [hkm] at c171; exact nI_pos (by omega) c171)
        subst hm0
        have hdnP : dn = (anc fw0 n0 t0) := hPP.symm
        subst hdnP
        have hS1 : MLs vw F1 (n + 2 + 1) (updJ (updJ (updJ S n (S (n - 2))) (n + 1) (bq (nbB false g) 1000 30 0 x0).1) (n + 2) (anc fw0 n0 t0)) := MLs.last hv28w (by omega) hrows ⟨by rw [anc_len]; exact hn30, by rw [hsz, anc_len], ancK_lt _ _ hacl, fun j hj => by have z9 := hdn j hj; rw [Nat.add_zero] at z9; exact z9⟩
        refine lv_aload_n hx hb dM_findWay_205 rfl (lv_at hl 0 rfl) ?_
        refine lv_iconst (v := 4) hx hb dM_findWay_206 (by decide) ?_
        refine x_callv (x_runV (n := 1) (As := [.int 4]) (rest := []) ⟨hx, hb, hml, hown, hts⟩ (cM_replace l D tys A ws1 cI hI ad km vw F1 (n + 2 + 1) (updJ (updJ (updJ S n (S (n - 2))) (n + 1) (bq (nbB false g) 1000 30 0 x0).1) (n + 2) (anc fw0 n0 t0)) hS1 4 (by omega) (by omega) hM) tw_853 tw_855 ts_M_replace tw_8 tw_856 (by decide +kernel) rfl rfl ⟨by decide, by decide⟩ ⟨Nat.zero_le _, Nat.zero_le _⟩ (va_recv hK hP (ci := 7) (q0 := km) rfl hM.1) hK hP hD hS hA hN rfl hl.1 rfl (lv_room (Nat.le_of_ble_eq_true rfl)) dM_findWay_207) hS (fun ws_1 H locs hrp hP hD hS => ?_)
        obtain ⟨hF9, v9, F9, hM9, hS9, h30, hvk9, hfk9⟩ := hrp
        have hF := hF.tr hF9
        exact x_vret hx hb hr hlk hK hP hD hS dM_findWay_210 (by rw [show n + 2 + 1 - 1 - 4 + 1 = n - 1 by omega, show n + 2 + 1 - 1 - 4 = n - 2 by omega, show n + 2 + 1 - 1 = n + 2 by omega, updJ_s] at hS9; rw [show n + 2 + 1 - 1 = n + 2 by omega, updJ_s] at h30; rw [← hway] at hS9 h30; exact ⟨hF, _, _, hM9, hS9.cg (fun j hj => by by_cases z9 : j = n - 2; (rw [z9, updJ_s, updJ_s]); (rw [updJ_o9 z9, updJ_o9 z9, updJ_o9 (by omega), updJ_o9 (by omega), updJ_o9 (by omega)])), by rw [h30, hvkw 30 (by simp)], (hvkw.wd (by simp)).tr hvk9, hfk.tr (hfk9.wd (by simp))⟩)
      · obtain ⟨m2, rfl⟩ : ∃ m2, m9 = m2 + 1 := ⟨m9 - 1, by rcases Nat.eq_zero_or_pos m9 with z9 | z9; (exact absurd c171 (by rw [hk9, z9]; decide)); omega⟩
        obtain ⟨hc30, hnx⟩ := hac
        obtain rfl : la = nI cur := hla (by omega)
        have hkm : kk = nI m2 := by rw [hk9]; exact nI_pred _
        obtain rfl := hkm
        have hm30 : m2 < 30 := by have z9 := congrArg List.length hPP; rw [anc_len, List.length_append, anc_len] at z9; omega
        refine lv_aload_n hx hb dM_findWay_174 rfl (lv_at hl 0 rfl) ?_
        refine va_get (D := D) (cl := xCl) (ci := 7) (v := .ref (ad (km + 14))) (C := rnM) (T := tbM) (N := 39) hx hb hts inM hown hK hP km hM.1 rfl 23 (by decide) (hts _ tw_640) (fun _ h9 => h9) rfl dM_findWay_175 ?_
        refine lv_bipush (v := 30) hx hb dM_findWay_178 (by decide) ?_
        refine lv_aload_n hx hb dM_findWay_180 rfl (lv_at hl 0 rfl) ?_
        refine va_get (D := D) (cl := xCl) (ci := 7) (v := .int (vw 28)) (C := rnM) (T := tbM) (N := 39) hx hb hts inM hown hK hP km hM.1 rfl 28 (by decide) (hts _ tw_645) (fun _ h9 => h9) rfl dM_findWay_181 ?_
        refine lv_iconst (v := 1) hx hb dM_findWay_184 (by decide) ?_
        refine lv_isub hx hb dM_findWay_185 ?_
        refine lv_topi (fun v_2 ev_2 => ?_)
        obtain rfl : v_2 = nI (n + 2) := by rw [ev_2, hv28w, show (1 : Int32) = nI 1 from rfl, pk_sub (by omega), show n + 3 - 1 = n + 2 by omega]
        refine lv_imul hx hb dM_findWay_186 ?_
        refine lv_topi (fun v_3 ev_3 => ?_)
        obtain rfl : v_3 = nI (30 * (n + 2)) := by rw [ev_3, show (30 : Int32) = nI 30 from rfl, pk_mul]
        refine lv_iload hx hb dM_findWay_187 (lv_at hl 3 rfl) ?_
        refine lv_iadd hx hb dM_findWay_189 ?_
        refine lv_topi (fun v_4 ev_4 => ?_)
        obtain rfl : v_4 = nI (30 * (n + 2) + m2) := by rw [ev_4, nI_add]
        refine lv_iload_n hx hb dM_findWay_190 rfl (lv_at hl 2 rfl) ?_
        refine va_iast hx hb hK hP hD hS (km + 14) 0 (hM.a 14 1800 rfl (by omega) (by omega)) hI (vp_in_nI (by omega) (by omega)) dM_findWay_191 (fun H locs hP hD hS => ?_)
        obtain ⟨ws_6, hu_5, hP, hD⟩ := x_gen (hM.a 14 1800 rfl (by omega) (by omega)) hP hD
        have hM : ModF cI ad ws_6 km vw (setF F1 14 ((upd (F1 14) ((nI (30 * (n + 2) + m2))).toNatClampNeg ((nI cur))))) := hM.arr 14 1800 rfl (by omega) (by omega) hu_5
        have hF := hF.tr (hu_5.fr (a := km) (b := km + 24) (by omega) (by omega))
        refine lv_aload_n hx hb dM_findWay_192 rfl (lv_at hl 0 rfl) ?_
        refine va_get (D := D) (cl := xCl) (ci := 7) (v := .ref (ad (km + 20))) (C := rnM) (T := tbM) (N := 39) hx hb hts inM hown hK hP km hM.1 rfl 32 (by decide) (hts _ tw_649) (fun _ h9 => h9) rfl dM_findWay_193 ?_
        refine lv_iload_n hx hb dM_findWay_196 rfl (lv_at hl 2 rfl) ?_
        refine va_iald hx hb hK hP (km + 20) 0 (hM.a 20 30 rfl (by omega) (by omega)) hI (vp_in_nI (by omega) (by omega)) dM_findWay_197 ?_
        refine lv_topi (fun v_7 ev_7 => ?_)
        have hfc : v_7 = fw0 cur := by rw [ev_7]; show F1 20 (nI cur).toNatClampNeg = _; rw [nI_clamp (by omega), h20]
        refine lv_istore_n (lv' := [(2, .int v_7), (0, .ref (ad km)), (1, .int (nI (n - 1))), (4, .int (nI m2))]) hx hb dM_findWay_198 rfl hl (by decide) rfl (fun ls hl => ?_)
        obtain ⟨v_8, ev_8⟩ : ∃ y : Int32, y = (nI m2) + (-1) := ⟨_, rfl⟩
        refine lv_iinc (v := v_8) (lv' := [(4, .int v_8), (2, .int v_7), (0, .ref (ad km)), (1, .int (nI (n - 1)))]) hx hb dM_findWay_199 hl (k := 3) rfl (by rw [ev_8]; rfl) (by decide) rfl (fun ls hl => ?_)
        refine lv_goto (tgt := 169) hx hb dM_findWay_202 (by decide) ?_
        exact ih x0 fw0 n0 t0 m2 (fw0 cur).toInt.toNat (cur :: dn) v_7 v_8 (setF F1 14 ((upd (F1 14) ((nI (30 * (n + 2) + m2))).toNatClampNeg ((nI cur))))) vw ws_6 _ _ _ hF hM (hfk.tr (fk_s (by simp))) hx0 hx1 h20 (by rw [hPP]; show (anc fw0 m2 (fw0 cur).toInt.toNat ++ [cur]) ++ dn = _; rw [List.append_assoc]; rfl) hn30 hacl (fun z9 => by rw [hfc]; rcases hnx with z8 | ⟨u9, hu9, e9, -⟩; (exact absurd z8 (by omega)); (rw [e9, nI_toInt (by omega), Int.toNat_natCast])) (by rcases hnx with z8 | ⟨u9, hu9, e9, q9⟩; (rw [z8]; trivial); (rw [e9, nI_toInt (by omega), Int.toNat_natCast]; exact q9)) (by rw [ev_8, Int32.sub_eq_add_neg]) (fun i hi => by obtain ⟨a1, a2, a3, a4⟩ := hrows i hi; exact ⟨a1, a2, a3, fun j hj => by show upd (F1 14) (nI (30 * (n + 2) + m2)).toNatClampNeg (nI cur) _ = _; rw [nI_clamp (by omega), upd_o (by omega)]; exact a4 j hj⟩) hsz (fun j hj => by show upd (F1 14) (nI (30 * (n + 2) + m2)).toNatClampNeg (nI cur) _ = _; rw [nI_clamp (by omega)]; cases j with | zero => (show upd (F1 14) (30 * (n + 2) + m2) (nI cur) (30 * (n + 2) + m2) = nI cur; rw [upd_s9]) | succ j => (rw [upd_o (by omega), show 30 * (n + 2) + m2 + (j + 1) = 30 * (n + 2) + (m2 + 1) + j by omega]; exact hdn j (by simp at hj; omega))) hv28w hvkw hway (by omega) hP hD hS (lv_sub hl [2, 3, 1, 0] rfl)
  have loop_60 : ∀ (fu9 : Nat) (x0 : BX) (k : Nat) (la : Int32) (v1 : Nat → Int32) (F1 : Nat → Nat → Int32) (ws1 : va_W) (H : Heap) (locs : List Loc) (ls : Array Slot), x_fr km (km + 24) ws ws1 → ModF cI ad ws1 km v1 F1 → vk [28] v v1 → fk [14, 15, 20, 21] F F1 → x0.1 = (S (n - 2)) → (∀ u ∈ (S (n - 2)), x0.2.1 u = -1 ∧ x0.2.2 u = 0) → MLs v1 F1 (n + 1 + 1) (updJ (updJ S n (S (n - 2))) (n + 1) (bq (nbB false g) 1000 30 0 x0).1) → F1 20 = (bq (nbB false g) 1000 30 0 x0).2.1 → F1 21 = (bq (nbB false g) 1000 30 0 x0).2.2 → k ≤ 40 → la = lastI (((bq (nbB false g) 1000 30 0 x0).1.take k).find? (fun t => decide (t ∈ (S (n - 1))))) → (bq (nbB false g) 1000 30 0 x0).1.length - k < fu9 → va_P D xCl ws1 H → va_D A ws1 → va_S A s.heap H locs → lv_has ls 5 [(0, .ref (ad km)), (1, .int (nI (n - 1))), (2, .int la), (3, .int (nI k))] → W p l e (xR 3) s m args below meth c H locs 0 0 (MQ below (va_Qv (fun ws1 => x_fr km (km + 24) ws ws1 ∧ ∃ v9 F9, ModF cI ad ws1 km v9 F9 ∧ MLs v9 F9 (n - 1) (updJ S (n - 2) (wayF g (S (n - 2)) (S (n - 1)))) ∧ v9 30 = v 30 + nI (wayF g (S (n - 2)) (S (n - 1))).length ∧ vk [28, 30] v v9 ∧ fk [14, 15, 20, 21] F F9) (x_B D xCl tys A) A) args s 0 0 A) (F0 m 60 ls []) := by
    intro fu9
    induction fu9 with
    | zero => intro x0 k la v1 F1 ws1 H locs ls hF hM hvk hfk hx0 hx1 hS1 h20 h21 hk9 hla hme; exact absurd hme (Nat.not_lt_zero _)
    | succ fu9 ih =>
      intro x0 k la v1 F1 ws1 H locs ls hF hM hvk hfk hx0 hx1 hS1 h20 h21 hk9 hla hme hP hD hS hl
      obtain ⟨hu28, hu60, hui⟩ := id hS1
      have huX := hui (n + 1) (by omega)
      rw [updJ_s] at huX
      have huB := hui (n - 1) (by omega)
      rw [updJ_o9 (by omega), updJ_o9 (by omega)] at huB
      have hbq30 : ∀ u ∈ (bq (nbB false g) 1000 30 0 x0).1, u < 30 := bq_in (fun t u hu => Nat.lt_of_lt_of_le (nbB_lt hgo t u hu) hgl) 30 0 x0 (fun u hu => Nat.lt_of_lt_of_le (hga.2 u (by rw [← hx0]; exact hu)) hgl)
      refine lv_iload_n hx hb dM_findWay_60 rfl (lv_at hl 3 rfl) ?_
      refine lv_aload_n hx hb dM_findWay_61 rfl (lv_at hl 0 rfl) ?_
      refine va_get (D := D) (cl := xCl) (ci := 7) (v := .ref (ad (km + 15))) (C := rnM) (T := tbM) (N := 39) hx hb hts inM hown hK hP km hM.1 rfl 24 (by decide) (hts _ tw_641) (fun _ h9 => h9) rfl dM_findWay_62 ?_
      refine lv_aload_n hx hb dM_findWay_65 rfl (lv_at hl 0 rfl) ?_
      refine va_get (D := D) (cl := xCl) (ci := 7) (v := .int (v1 28)) (C := rnM) (T := tbM) (N := 39) hx hb hts inM hown hK hP km hM.1 rfl 28 (by decide) (hts _ tw_645) (fun _ h9 => h9) rfl dM_findWay_66 ?_
      refine lv_iconst (v := 1) hx hb dM_findWay_69 (by decide) ?_
      refine lv_isub hx hb dM_findWay_70 ?_
      refine lv_topi (fun v_9 ev_9 => ?_)
      obtain rfl : v_9 = nI (n + 1) := by rw [ev_9, hu28, show (1 : Int32) = nI 1 from rfl, pk_sub (by omega), show n + 1 + 1 - 1 = n + 1 by omega]
      refine va_iald hx hb hK hP (km + 15) 0 (hM.a 15 60 rfl (by omega) (by omega)) hI (vp_in_nI (by omega) (by omega)) dM_findWay_71 ?_
      refine lv_topi (fun v_10 ev_10 => ?_)
      obtain rfl : v_10 = nI (bq (nbB false g) 1000 30 0 x0).1.length := by rw [ev_10, nI_clamp (by omega)]; exact huX.2.1
      refine lv_icmp_ge (tgt := 130) hx hb dM_findWay_72 (by decide) (fun c72 => ?_) (fun c72 => ?_)
      · have hfn : la = lastI ((bq (nbB false g) 1000 30 0 x0).1.find? (fun t => decide (t ∈ (S (n - 1))))) := by rw [hla, show (bq (nbB false g) 1000 30 0 x0).1.take k = (bq (nbB false g) 1000 30 0 x0).1 from List.take_of_length_le (by rw [nI_leI (by omega) (by omega)] at c72; exact c72)]
        refine lv_aload_n hx hb dM_findWay_130 rfl (lv_at hl 0 rfl) ?_
        refine x_callv (x_runV (n := 0) (As := []) (rest := []) ⟨hx, hb, hml, hown, hts⟩ (cM_begin l D tys A ws1 cI hI ad km v1 F1 (n + 1 + 1) ((updJ (updJ S n (S (n - 2))) (n + 1) (bq (nbB false g) 1000 30 0 x0).1)) hS1 (by omega) hM) tw_833 tw_835 ts_M_begin tw_8 tw_836 (by decide +kernel) rfl rfl ⟨by decide, by decide⟩ ⟨Nat.zero_le _, Nat.zero_le _⟩ (va_recv hK hP (ci := 7) (q0 := km) rfl hM.1) hK hP hD hS hA hN rfl hl.1 rfl (lv_room (Nat.le_of_ble_eq_true rfl)) dM_findWay_131) hS (fun ws_11 H locs hbe hP hD hS => ?_)
        obtain ⟨hF9, vw, F2, hM, hS2, hvk2, hfk2⟩ := hbe
        have hF := hF.tr hF9
        have h202 : F2 20 = (bq (nbB false g) 1000 30 0 x0).2.1 := by rw [hfk2 20 (by simp)]; exact h20
        have h212 : F2 21 = (bq (nbB false g) 1000 30 0 x0).2.2 := by rw [hfk2 21 (by simp)]; exact h21
        have hv28w := hS2.1
        have hrow2 : ∀ i, i < n + 2 → ((updJ (updJ S n (S (n - 2))) (n + 1) (bq (nbB false g) 1000 30 0 x0).1) i).length ≤ 30 ∧ F2 15 i = nI ((updJ (updJ S n (S (n - 2))) (n + 1) (bq (nbB false g) 1000 30 0 x0).1) i).length ∧ (∀ t ∈ (updJ (updJ S n (S (n - 2))) (n + 1) (bq (nbB false g) 1000 30 0 x0).1) i, t < 30) ∧ ∀ (j : Nat) (h : j < ((updJ (updJ S n (S (n - 2))) (n + 1) (bq (nbB false g) 1000 30 0 x0).1) i).length), F2 14 (30 * i + j) = nI ((updJ (updJ S n (S (n - 2))) (n + 1) (bq (nbB false g) 1000 30 0 x0).1) i)[j] := fun i hi => by have z9 := hS2.2.2 i (by omega); rw [updJ_o9 (by omega)] at z9; exact z9
        refine lv_iload_n hx hb dM_findWay_134 rfl (lv_at hl 2 rfl) ?_
        refine lv_iconst (v := (-1)) hx hb dM_findWay_135 (by decide) ?_
        refine lv_icmp_ne (tgt := 143) hx hb dM_findWay_136 (by decide) (fun c136 => ?_) (fun c136 => ?_)
        · obtain ⟨t0, e0, ht0, he0, hfd, hrd, hwy, hak⟩ := (way_eq2 (G := (S (n - 1))) hgo hga hx0 hx1).resolve_left (fun z9 => c136 (by rw [hfn, z9.1]; rfl))
          obtain rfl : la = nI t0 := by rw [hfn, hfd]; rfl
          refine lv_aload_n hx hb dM_findWay_143 rfl (lv_at hl 0 rfl) ?_
          refine va_get (D := D) (cl := xCl) (ci := 7) (v := .ref (ad (km + 21))) (C := rnM) (T := tbM) (N := 39) hx hb hts inM hown hK hP km hM.1 rfl 33 (by decide) (hts _ tw_650) (fun _ h9 => h9) rfl dM_findWay_144 ?_
          refine lv_iload_n hx hb dM_findWay_147 rfl (lv_at hl 2 rfl) ?_
          refine va_iald hx hb hK hP (km + 21) 0 (hM.a 21 30 rfl (by omega) (by omega)) hI (vp_in_nI (by omega) (by omega)) dM_findWay_148 ?_
          refine lv_topi (fun v_12 ev_12 => ?_)
          refine lv_iconst (v := 1) hx hb dM_findWay_149 (by decide) ?_
          refine lv_iadd hx hb dM_findWay_150 ?_
          refine lv_topi (fun v_13 ev_13 => ?_)
          obtain rfl : v_13 = nI (e0 + 1) := by rw [ev_13, ev_12, nI_clamp (by omega), h212, hrd, nI_1]
          refine lv_istore_n (lv' := [(3, .int (nI (e0 + 1))), (0, .ref (ad km)), (1, .int (nI (n - 1))), (2, .int (nI t0))]) hx hb dM_findWay_151 rfl hl (by decide) rfl (fun ls hl => ?_)
          refine lv_aload_n hx hb dM_findWay_152 rfl (lv_at hl 1 rfl) ?_
          refine va_get (D := D) (cl := xCl) (ci := 7) (v := .ref (ad (km + 15))) (C := rnM) (T := tbM) (N := 39) hx hb hts inM hown hK hP km hM.1 rfl 24 (by decide) (hts _ tw_641) (fun _ h9 => h9) rfl dM_findWay_153 ?_
          refine lv_aload_n hx hb dM_findWay_156 rfl (lv_at hl 1 rfl) ?_
          refine va_get (D := D) (cl := xCl) (ci := 7) (v := .int (vw 28)) (C := rnM) (T := tbM) (N := 39) hx hb hts inM hown hK hP km hM.1 rfl 28 (by decide) (hts _ tw_645) (fun _ h9 => h9) rfl dM_findWay_157 ?_
          refine lv_iconst (v := 1) hx hb dM_findWay_160 (by decide) ?_
          refine lv_isub hx hb dM_findWay_161 ?_
          refine lv_topi (fun v_14 ev_14 => ?_)
          obtain rfl : v_14 = nI (n + 2) := by rw [ev_14, hv28w, show (1 : Int32) = nI 1 from rfl, pk_sub (by omega), show n + 1 + 1 + 1 - 1 = n + 2 by omega]
          refine lv_iload_n hx hb dM_findWay_162 rfl (lv_at hl 0 rfl) ?_
          refine va_iast hx hb hK hP hD hS (km + 15) 0 (hM.a 15 60 rfl (by omega) (by omega)) hI (vp_in_nI (by omega) (by omega)) dM_findWay_163 (fun H locs hP hD hS => ?_)
          obtain ⟨ws_16, hu_15, hP, hD⟩ := x_gen (hM.a 15 60 rfl (by omega) (by omega)) hP hD
          have hM : ModF cI ad ws_16 km vw (setF F2 15 ((upd (F2 15) ((nI (n + 2))).toNatClampNeg ((nI (e0 + 1)))))) := hM.arr 15 60 rfl (by omega) (by omega) hu_15
          have hF := hF.tr (hu_15.fr (a := km) (b := km + 24) (by omega) (by omega))
          refine lv_iload_n hx hb dM_findWay_164 rfl (lv_at hl 0 rfl) ?_
          refine lv_iconst (v := 1) hx hb dM_findWay_165 (by decide) ?_
          refine lv_isub hx hb dM_findWay_166 ?_
          refine lv_topi (fun v_17 ev_17 => ?_)
          refine lv_istore (lv' := [(4, .int v_17), (3, .int (nI (e0 + 1))), (0, .ref (ad km)), (1, .int (nI (n - 1))), (2, .int (nI t0))]) hx hb dM_findWay_167 hl (by decide) rfl (fun ls hl => ?_)
          exact loop_169 _ x0 (bq (nbB false g) 1000 30 0 x0).2.1 (e0 + 1) t0 (e0 + 1) t0 [] (nI t0) v_17 (setF F2 15 ((upd (F2 15) ((nI (n + 2))).toNatClampNeg ((nI (e0 + 1)))))) vw ws_16 _ _ _ hF hM ((hfk.tr (hfk2.wd (by simp))).tr (fk_s (by simp))) hx0 hx1 h202 (by rw [List.append_nil]) (by omega) hak (fun _ => rfl) hak (by rw [ev_17]) (fun i hi => by obtain ⟨a1, a2, a3, a4⟩ := hrow2 i hi; exact ⟨a1, by show upd (F2 15) (nI (n + 2)).toNatClampNeg (nI (e0 + 1)) i = _; rw [nI_clamp (by omega), upd_o (by omega)]; exact a2, a3, a4⟩) (by show upd (F2 15) (nI (n + 2)).toNatClampNeg (nI (e0 + 1)) (n + 2) = _; rw [nI_clamp (by omega), upd_s9]) (fun j hj => by cases hj) hv28w (hvk.tr hvk2) hwy (Nat.lt_succ_self _) hP hD hS (lv_sub hl [2, 3, 4, 0] rfl)
        · have hwy : (wayF g (S (n - 2)) (S (n - 1))) = [] := by
            rcases way_eq2 (G := (S (n - 1))) hgo hga hx0 hx1 with ⟨-, z9⟩ | ⟨t0, e0, ht0, -, hfd, -⟩
            · exact z9
            · exact absurd ((lastI_n (fun t ht => hbq30 t (List.mem_of_find?_eq_some ht))).mp (by rw [← hfn]; exact c136)) (by rw [hfd]; exact fun z8 => by cases z8)
          refine lv_iconst (v := 0) hx hb dM_findWay_139 (by decide) ?_
          refine lv_goto (tgt := 151) hx hb dM_findWay_140 (by decide) ?_
          refine lv_istore_n (lv' := [(3, .int 0), (0, .ref (ad km)), (1, .int (nI (n - 1))), (2, .int la)]) hx hb dM_findWay_151 rfl hl (by decide) rfl (fun ls hl => ?_)
          refine lv_aload_n hx hb dM_findWay_152 rfl (lv_at hl 1 rfl) ?_
          refine va_get (D := D) (cl := xCl) (ci := 7) (v := .ref (ad (km + 15))) (C := rnM) (T := tbM) (N := 39) hx hb hts inM hown hK hP km hM.1 rfl 24 (by decide) (hts _ tw_641) (fun _ h9 => h9) rfl dM_findWay_153 ?_
          refine lv_aload_n hx hb dM_findWay_156 rfl (lv_at hl 1 rfl) ?_
          refine va_get (D := D) (cl := xCl) (ci := 7) (v := .int (vw 28)) (C := rnM) (T := tbM) (N := 39) hx hb hts inM hown hK hP km hM.1 rfl 28 (by decide) (hts _ tw_645) (fun _ h9 => h9) rfl dM_findWay_157 ?_
          refine lv_iconst (v := 1) hx hb dM_findWay_160 (by decide) ?_
          refine lv_isub hx hb dM_findWay_161 ?_
          refine lv_topi (fun v_18 ev_18 => ?_)
          obtain rfl : v_18 = nI (n + 2) := by rw [ev_18, hv28w, show (1 : Int32) = nI 1 from rfl, pk_sub (by omega), show n + 1 + 1 + 1 - 1 = n + 2 by omega]
          refine lv_iload_n hx hb dM_findWay_162 rfl (lv_at hl 0 rfl) ?_
          refine va_iast hx hb hK hP hD hS (km + 15) 0 (hM.a 15 60 rfl (by omega) (by omega)) hI (vp_in_nI (by omega) (by omega)) dM_findWay_163 (fun H locs hP hD hS => ?_)
          obtain ⟨ws_20, hu_19, hP, hD⟩ := x_gen (hM.a 15 60 rfl (by omega) (by omega)) hP hD
          have hM : ModF cI ad ws_20 km vw (setF F2 15 ((upd (F2 15) ((nI (n + 2))).toNatClampNeg 0))) := hM.arr 15 60 rfl (by omega) (by omega) hu_19
          have hF := hF.tr (hu_19.fr (a := km) (b := km + 24) (by omega) (by omega))
          refine lv_iload_n hx hb dM_findWay_164 rfl (lv_at hl 0 rfl) ?_
          refine lv_iconst (v := 1) hx hb dM_findWay_165 (by decide) ?_
          refine lv_isub hx hb dM_findWay_166 ?_
          refine lv_topi (fun v_21 ev_21 => ?_)
          refine lv_istore (lv' := [(4, .int v_21), (3, .int 0), (0, .ref (ad km)), (1, .int (nI (n - 1))), (2, .int la)]) hx hb dM_findWay_167 hl (by decide) rfl (fun ls hl => ?_)
          exact loop_169 _ x0 (bq (nbB false g) 1000 30 0 x0).2.1 0 0 0 0 [] la v_21 (setF F2 15 ((upd (F2 15) ((nI (n + 2))).toNatClampNeg 0))) vw ws_20 _ _ _ hF hM ((hfk.tr (hfk2.wd (by simp))).tr (fk_s (by simp))) hx0 hx1 h202 rfl (Nat.zero_le _) trivial (fun z9 => absurd z9 (Nat.lt_irrefl _)) trivial (by rw [ev_21]; rfl) (fun i hi => by obtain ⟨a1, a2, a3, a4⟩ := hrow2 i hi; exact ⟨a1, by show upd (F2 15) (nI (n + 2)).toNatClampNeg 0 i = _; rw [nI_clamp (by omega), upd_o (by omega)]; exact a2, a3, a4⟩) (by show upd (F2 15) (nI (n + 2)).toNatClampNeg 0 (n + 2) = _; rw [nI_clamp (by omega), upd_s9]; rfl) (fun j hj => by cases hj) hv28w (hvk.tr hvk2) hwy (Nat.lt_succ_self _) hP hD hS (lv_sub hl [2, 3, 4, 0] rfl)
      · refine lv_iload_n hx hb dM_findWay_75 rfl (lv_at hl 2 rfl) ?_
        refine lv_iconst (v := (-1)) hx hb dM_findWay_76 (by decide) ?_
        refine lv_icmp_ne (tgt := 130) hx hb dM_findWay_77 (by decide) (fun c77 => ?_) (fun c77 => ?_)
        · have hfn : la = lastI ((bq (nbB false g) 1000 30 0 x0).1.find? (fun t => decide (t ∈ (S (n - 1))))) := by
            cases hq9 : ((bq (nbB false g) 1000 30 0 x0).1.take k).find? (fun t => decide (t ∈ (S (n - 1)))) with
            | none => exact absurd (by rw [hla, hq9]; rfl) c77
            | some t => rw [hla, hq9, find_pre hq9]
          refine lv_aload_n hx hb dM_findWay_130 rfl (lv_at hl 0 rfl) ?_
          refine x_callv (x_runV (n := 0) (As := []) (rest := []) ⟨hx, hb, hml, hown, hts⟩ (cM_begin l D tys A ws1 cI hI ad km v1 F1 (n + 1 + 1) ((updJ (updJ S n (S (n - 2))) (n + 1) (bq (nbB false g) 1000 30 0 x0).1)) hS1 (by omega) hM) tw_833 tw_835 ts_M_begin tw_8 tw_836 (by decide +kernel) rfl rfl ⟨by decide, by decide⟩ ⟨Nat.zero_le _, Nat.zero_le _⟩ (va_recv hK hP (ci := 7) (q0 := km) rfl hM.1) hK hP hD hS hA hN rfl hl.1 rfl (lv_room (Nat.le_of_ble_eq_true rfl)) dM_findWay_131) hS (fun ws_22 H locs hbe hP hD hS => ?_)
          obtain ⟨hF9, vw, F2, hM, hS2, hvk2, hfk2⟩ := hbe
          have hF := hF.tr hF9
          have h202 : F2 20 = (bq (nbB false g) 1000 30 0 x0).2.1 := by rw [hfk2 20 (by simp)]; exact h20
          have h212 : F2 21 = (bq (nbB false g) 1000 30 0 x0).2.2 := by rw [hfk2 21 (by simp)]; exact h21
          have hv28w := hS2.1
          have hrow2 : ∀ i, i < n + 2 → ((updJ (updJ S n (S (n - 2))) (n + 1) (bq (nbB false g) 1000 30 0 x0).1) i).length ≤ 30 ∧ F2 15 i = nI ((updJ (updJ S n (S (n - 2))) (n + 1) (bq (nbB false g) 1000 30 0 x0).1) i).length ∧ (∀ t ∈ (updJ (updJ S n (S (n - 2))) (n + 1) (bq (nbB false g) 1000 30 0 x0).1) i, t < 30) ∧ ∀ (j : Nat) (h : j < ((updJ (updJ S n (S (n - 2))) (n + 1) (bq (nbB false g) 1000 30 0 x0).1) i).length), F2 14 (30 * i + j) = nI ((updJ (updJ S n (S (n - 2))) (n + 1) (bq (nbB false g) 1000 30 0 x0).1) i)[j] := fun i hi => by have z9 := hS2.2.2 i (by omega); rw [updJ_o9 (by omega)] at z9; exact z9
          refine lv_iload_n hx hb dM_findWay_134 rfl (lv_at hl 2 rfl) ?_
          refine lv_iconst (v := (-1)) hx hb dM_findWay_135 (by decide) ?_
          refine lv_icmp_ne (tgt := 143) hx hb dM_findWay_136 (by decide) (fun c136 => ?_) (fun c136 => ?_)
          · obtain ⟨t0, e0, ht0, he0, hfd, hrd, hwy, hak⟩ := (way_eq2 (G := (S (n - 1))) hgo hga hx0 hx1).resolve_left (fun z9 => c136 (by rw [hfn, z9.1]; rfl))
            obtain rfl : la = nI t0 := by rw [hfn, hfd]; rfl
            refine lv_aload_n hx hb dM_findWay_143 rfl (lv_at hl 0 rfl) ?_
            refine va_get (D := D) (cl := xCl) (ci := 7) (v := .ref (ad (km + 21))) (C := rnM) (T := tbM) (N := 39) hx hb hts inM hown hK hP km hM.1 rfl 33 (by decide) (hts _ tw_650) (fun _ h9 => h9) rfl dM_findWay_144 ?_
            refine lv_iload_n hx hb dM_findWay_147 rfl (lv_at hl 2 rfl) ?_
            refine va_iald hx hb hK hP (km + 21) 0 (hM.a 21 30 rfl (by omega) (by omega)) hI (vp_in_nI (by omega) (by omega)) dM_findWay_148 ?_
            refine lv_topi (fun v_23 ev_23 => ?_)
            refine lv_iconst (v := 1) hx hb dM_findWay_149 (by decide) ?_
            refine lv_iadd hx hb dM_findWay_150 ?_
            refine lv_topi (fun v_24 ev_24 => ?_)
            obtain rfl : v_24 = nI (e0 + 1) := by rw [ev_24, ev_23, nI_clamp (by omega), h212, hrd, nI_1]
            refine lv_istore_n (lv' := [(3, .int (nI (e0 + 1))), (0, .ref (ad km)), (1, .int (nI (n - 1))), (2, .int (nI t0))]) hx hb dM_findWay_151 rfl hl (by decide) rfl (fun ls hl => ?_)
            refine lv_aload_n hx hb dM_findWay_152 rfl (lv_at hl 1 rfl) ?_
            refine va_get (D := D) (cl := xCl) (ci := 7) (v := .ref (ad (km + 15))) (C := rnM) (T := tbM) (N := 39) hx hb hts inM hown hK hP km hM.1 rfl 24 (by decide) (hts _ tw_641) (fun _ h9 => h9) rfl dM_findWay_153 ?_
            refine lv_aload_n hx hb dM_findWay_156 rfl (lv_at hl 1 rfl) ?_
            refine va_get (D := D) (cl := xCl) (ci := 7) (v := .int (vw 28)) (C := rnM) (T := tbM) (N := 39) hx hb hts inM hown hK hP km hM.1 rfl 28 (by decide) (hts _ tw_645) (fun _ h9 => h9) rfl dM_findWay_157 ?_
            refine lv_iconst (v := 1) hx hb dM_findWay_160 (by decide) ?_
            refine lv_isub hx hb dM_findWay_161 ?_
            refine lv_topi (fun v_25 ev_25 => ?_)
            obtain rfl : v_25 = nI (n + 2) := by rw [ev_25, hv28w, show (1 : Int32) = nI 1 from rfl, pk_sub (by omega), show n + 1 + 1 + 1 - 1 = n + 2 by omega]
            refine lv_iload_n hx hb dM_findWay_162 rfl (lv_at hl 0 rfl) ?_
            refine va_iast hx hb hK hP hD hS (km + 15) 0 (hM.a 15 60 rfl (by omega) (by omega)) hI (vp_in_nI (by omega) (by omega)) dM_findWay_163 (fun H locs hP hD hS => ?_)
            obtain ⟨ws_27, hu_26, hP, hD⟩ := x_gen (hM.a 15 60 rfl (by omega) (by omega)) hP hD
            have hM : ModF cI ad ws_27 km vw (setF F2 15 ((upd (F2 15) ((nI (n + 2))).toNatClampNeg ((nI (e0 + 1)))))) := hM.arr 15 60 rfl (by omega) (by omega) hu_26
            have hF := hF.tr (hu_26.fr (a := km) (b := km + 24) (by omega) (by omega))
            refine lv_iload_n hx hb dM_findWay_164 rfl (lv_at hl 0 rfl) ?_
            refine lv_iconst (v := 1) hx hb dM_findWay_165 (by decide) ?_
            refine lv_isub hx hb dM_findWay_166 ?_
            refine lv_topi (fun v_28 ev_28 => ?_)
            refine lv_istore (lv' := [(4, .int v_28), (3, .int (nI (e0 + 1))), (0, .ref (ad km)), (1, .int (nI (n - 1))), (2, .int (nI t0))]) hx hb dM_findWay_167 hl (by decide) rfl (fun ls hl => ?_)
            exact loop_169 _ x0 (bq (nbB false g) 1000 30 0 x0).2.1 (e0 + 1) t0 (e0 + 1) t0 [] (nI t0) v_28 (setF F2 15 ((upd (F2 15) ((nI (n + 2))).toNatClampNeg ((nI (e0 + 1)))))) vw ws_27 _ _ _ hF hM ((hfk.tr (hfk2.wd (by simp))).tr (fk_s (by simp))) hx0 hx1 h202 (by rw [List.append_nil]) (by omega) hak (fun _ => rfl) hak (by rw [ev_28]) (fun i hi => by obtain ⟨a1, a2, a3, a4⟩ := hrow2 i hi; exact ⟨a1, by show upd (F2 15) (nI (n + 2)).toNatClampNeg (nI (e0 + 1)) i = _; rw [nI_clamp (by omega), upd_o (by omega)]; exact a2, a3, a4⟩) (by show upd (F2 15) (nI (n + 2)).toNatClampNeg (nI (e0 + 1)) (n + 2) = _; rw [nI_clamp (by omega), upd_s9]) (fun j hj => by cases hj) hv28w (hvk.tr hvk2) hwy (Nat.lt_succ_self _) hP hD hS (lv_sub hl [2, 3, 4, 0] rfl)
          · have hwy : (wayF g (S (n - 2)) (S (n - 1))) = [] := by
              rcases way_eq2 (G := (S (n - 1))) hgo hga hx0 hx1 with ⟨-, z9⟩ | ⟨t0, e0, ht0, -, hfd, -⟩
              · exact z9
              · exact absurd ((lastI_n (fun t ht => hbq30 t (List.mem_of_find?_eq_some ht))).mp (by rw [← hfn]; exact c136)) (by rw [hfd]; exact fun z8 => by cases z8)
            refine lv_iconst (v := 0) hx hb dM_findWay_139 (by decide) ?_
            refine lv_goto (tgt := 151) hx hb dM_findWay_140 (by decide) ?_
            refine lv_istore_n (lv' := [(3, .int 0), (0, .ref (ad km)), (1, .int (nI (n - 1))), (2, .int la)]) hx hb dM_findWay_151 rfl hl (by decide) rfl (fun ls hl => ?_)
            refine lv_aload_n hx hb dM_findWay_152 rfl (lv_at hl 1 rfl) ?_
            refine va_get (D := D) (cl := xCl) (ci := 7) (v := .ref (ad (km + 15))) (C := rnM) (T := tbM) (N := 39) hx hb hts inM hown hK hP km hM.1 rfl 24 (by decide) (hts _ tw_641) (fun _ h9 => h9) rfl dM_findWay_153 ?_
            refine lv_aload_n hx hb dM_findWay_156 rfl (lv_at hl 1 rfl) ?_
            refine va_get (D := D) (cl := xCl) (ci := 7) (v := .int (vw 28)) (C := rnM) (T := tbM) (N := 39) hx hb hts inM hown hK hP km hM.1 rfl 28 (by decide) (hts _ tw_645) (fun _ h9 => h9) rfl dM_findWay_157 ?_
            refine lv_iconst (v := 1) hx hb dM_findWay_160 (by decide) ?_
            refine lv_isub hx hb dM_findWay_161 ?_
            refine lv_topi (fun v_29 ev_29 => ?_)
            obtain rfl : v_29 = nI (n + 2) := by rw [ev_29, hv28w, show (1 : Int32) = nI 1 from rfl, pk_sub (by omega), show n + 1 + 1 + 1 - 1 = n + 2 by omega]
            refine lv_iload_n hx hb dM_findWay_162 rfl (lv_at hl 0 rfl) ?_
            refine va_iast hx hb hK hP hD hS (km + 15) 0 (hM.a 15 60 rfl (by omega) (by omega)) hI (vp_in_nI (by omega) (by omega)) dM_findWay_163 (fun H locs hP hD hS => ?_)
            obtain ⟨ws_31, hu_30, hP, hD⟩ := x_gen (hM.a 15 60 rfl (by omega) (by omega)) hP hD
            have hM : ModF cI ad ws_31 km vw (setF F2 15 ((upd (F2 15) ((nI (n + 2))).toNatClampNeg 0))) := hM.arr 15 60 rfl (by omega) (by omega) hu_30
            have hF := hF.tr (hu_30.fr (a := km) (b := km + 24) (by omega) (by omega))
            refine lv_iload_n hx hb dM_findWay_164 rfl (lv_at hl 0 rfl) ?_
            refine lv_iconst (v := 1) hx hb dM_findWay_165 (by decide) ?_
            refine lv_isub hx hb dM_findWay_166 ?_
            refine lv_topi (fun v_32 ev_32 => ?_)
            refine lv_istore (lv' := [(4, .int v_32), (3, .int 0), (0, .ref (ad km)), (1, .int (nI (n - 1))), (2, .int la)]) hx hb dM_findWay_167 hl (by decide) rfl (fun ls hl => ?_)
            exact loop_169 _ x0 (bq (nbB false g) 1000 30 0 x0).2.1 0 0 0 0 [] la v_32 (setF F2 15 ((upd (F2 15) ((nI (n + 2))).toNatClampNeg 0))) vw ws_31 _ _ _ hF hM ((hfk.tr (hfk2.wd (by simp))).tr (fk_s (by simp))) hx0 hx1 h202 rfl (Nat.zero_le _) trivial (fun z9 => absurd z9 (Nat.lt_irrefl _)) trivial (by rw [ev_32]; rfl) (fun i hi => by obtain ⟨a1, a2, a3, a4⟩ := hrow2 i hi; exact ⟨a1, by show upd (F2 15) (nI (n + 2)).toNatClampNeg 0 i = _; rw [nI_clamp (by omega), upd_o (by omega)]; exact a2, a3, a4⟩) (by show upd (F2 15) (nI (n + 2)).toNatClampNeg 0 (n + 2) = _; rw [nI_clamp (by omega), upd_s9]; rfl) (fun j hj => by cases hj) hv28w (hvk.tr hvk2) hwy (Nat.lt_succ_self _) hP hD hS (lv_sub hl [2, 3, 4, 0] rfl)
        · have hk2 : k < (bq (nbB false g) 1000 30 0 x0).1.length := by rw [nI_leI (by omega) (by omega)] at c72; omega
          have hno : ((bq (nbB false g) 1000 30 0 x0).1.take k).find? (fun t => decide (t ∈ (S (n - 1)))) = none := (lastI_n (fun t ht => hbq30 t (List.mem_of_mem_take (List.mem_of_find?_eq_some ht)))).mp (by rw [← hla]; exact c77)
          have ht30 : (bq (nbB false g) 1000 30 0 x0).1[k] < 30 := hbq30 _ (List.getElem_mem hk2)
          refine lv_aload_n hx hb dM_findWay_80 rfl (lv_at hl 0 rfl) ?_
          refine va_get (D := D) (cl := xCl) (ci := 7) (v := .ref (ad (km + 14))) (C := rnM) (T := tbM) (N := 39) hx hb hts inM hown hK hP km hM.1 rfl 23 (by decide) (hts _ tw_640) (fun _ h9 => h9) rfl dM_findWay_81 ?_
          refine lv_bipush (v := 30) hx hb dM_findWay_84 (by decide) ?_
          refine lv_aload_n hx hb dM_findWay_86 rfl (lv_at hl 0 rfl) ?_
          refine va_get (D := D) (cl := xCl) (ci := 7) (v := .int (v1 28)) (C := rnM) (T := tbM) (N := 39) hx hb hts inM hown hK hP km hM.1 rfl 28 (by decide) (hts _ tw_645) (fun _ h9 => h9) rfl dM_findWay_87 ?_
          refine lv_iconst (v := 1) hx hb dM_findWay_90 (by decide) ?_
          refine lv_isub hx hb dM_findWay_91 ?_
          refine lv_topi (fun v_33 ev_33 => ?_)
          obtain rfl : v_33 = nI (n + 1) := by rw [ev_33, hu28, show (1 : Int32) = nI 1 from rfl, pk_sub (by omega), show n + 1 + 1 - 1 = n + 1 by omega]
          refine lv_imul hx hb dM_findWay_92 ?_
          refine lv_topi (fun v_34 ev_34 => ?_)
          obtain rfl : v_34 = nI (30 * (n + 1)) := by rw [ev_34, show (30 : Int32) = nI 30 from rfl, pk_mul]
          refine lv_iload_n hx hb dM_findWay_93 rfl (lv_at hl 3 rfl) ?_
          refine lv_iadd hx hb dM_findWay_94 ?_
          refine lv_topi (fun v_35 ev_35 => ?_)
          obtain rfl : v_35 = nI (30 * (n + 1) + k) := by rw [ev_35, nI_add]
          refine va_iald hx hb hK hP (km + 14) 0 (hM.a 14 1800 rfl (by omega) (by omega)) hI (vp_in_nI (by omega) (by omega)) dM_findWay_95 ?_
          refine lv_topi (fun v_36 ev_36 => ?_)
          obtain rfl : v_36 = nI (bq (nbB false g) 1000 30 0 x0).1[k] := by rw [ev_36, nI_clamp (by omega)]; exact huX.2.2.2 k hk2
          refine lv_istore (lv' := [(4, .int (nI (bq (nbB false g) 1000 30 0 x0).1[k])), (0, .ref (ad km)), (1, .int (nI (n - 1))), (2, .int la), (3, .int (nI k))]) hx hb dM_findWay_96 hl (by decide) rfl (fun ls hl => ?_)
          refine lv_aload_n hx hb dM_findWay_98 rfl (lv_at hl 1 rfl) ?_
          refine lv_bipush (v := 30) hx hb dM_findWay_99 (by decide) ?_
          refine lv_iload_n hx hb dM_findWay_101 rfl (lv_at hl 2 rfl) ?_
          refine lv_imul hx hb dM_findWay_102 ?_
          refine lv_topi (fun v_37 ev_37 => ?_)
          obtain rfl : v_37 = nI (30 * (n - 1)) := by rw [ev_37, show (30 : Int32) = nI 30 from rfl, pk_mul]
          refine lv_aload_n hx hb dM_findWay_103 rfl (lv_at hl 1 rfl) ?_
          refine va_get (D := D) (cl := xCl) (ci := 7) (v := .ref (ad (km + 15))) (C := rnM) (T := tbM) (N := 39) hx hb hts inM hown hK hP km hM.1 rfl 24 (by decide) (hts _ tw_641) (fun _ h9 => h9) rfl dM_findWay_104 ?_
          refine lv_iload_n hx hb dM_findWay_107 rfl (lv_at hl 2 rfl) ?_
          refine va_iald hx hb hK hP (km + 15) 0 (hM.a 15 60 rfl (by omega) (by omega)) hI (vp_in_nI (by omega) (by omega)) dM_findWay_108 ?_
          refine lv_topi (fun v_38 ev_38 => ?_)
          obtain rfl : v_38 = nI (S (n - 1)).length := by rw [ev_38, nI_clamp (by omega)]; exact huB.2.1
          refine lv_iload hx hb dM_findWay_109 (lv_at hl 0 rfl) ?_
          refine x_calli (x_runV (n := 3) (As := [.int (nI (30 * (n - 1))), .int (nI (S (n - 1)).length), .int (nI (bq (nbB false g) 1000 30 0 x0).1[k])]) (rest := []) ⟨hx, hb, hml, hown, hts⟩ (cM_isIn l D tys A ws1 cI hI ad km v1 F1 (30 * (n - 1)) (bq (nbB false g) 1000 30 0 x0).1[k] (S (n - 1)) huB.1 (by omega) (by omega) (fun i h => huB.2.2.1 _ (List.getElem_mem h)) (fun j h => huB.2.2.2 j h) hM) tw_849 tw_851 ts_M_isIn tw_8 tw_852 (by decide +kernel) rfl rfl ⟨by decide, by decide⟩ ⟨Nat.zero_le _, Nat.zero_le _⟩ (va_recv hK hP (ci := 7) (q0 := km) rfl hM.1) hK hP hD hS hA hN rfl hl.1 rfl (lv_room (Nat.le_of_ble_eq_true rfl)) dM_findWay_111) hS (fun rii ws_39 H locs hii hP hD hS => ?_)
          obtain ⟨hii, rfl⟩ := hii
          refine lv_if_eq (tgt := 122) hx hb dM_findWay_114 (by decide) (fun c114 => ?_) (fun c114 => ?_)
          · refine lv_iconst (v := (-1)) hx hb dM_findWay_122 (by decide) ?_
            refine lv_istore_n (lv' := [(2, .int (-1)), (4, .int (nI (bq (nbB false g) 1000 30 0 x0).1[k])), (0, .ref (ad km)), (1, .int (nI (n - 1))), (3, .int (nI k))]) hx hb dM_findWay_123 rfl hl (by decide) rfl (fun ls hl => ?_)
            refine lv_iinc (v := (nI (k + 1))) (lv' := [(3, .int (nI (k + 1))), (2, .int (-1)), (4, .int (nI (bq (nbB false g) 1000 30 0 x0).1[k])), (0, .ref (ad km)), (1, .int (nI (n - 1)))]) hx hb dM_findWay_124 hl (k := 4) rfl (nI_1 _) (by decide) rfl (fun ls hl => ?_)
            refine lv_goto (tgt := 60) hx hb dM_findWay_127 (by decide) ?_
            exact ih x0 (k + 1) (-1) v1 F1 ws1 _ _ _ hF hM hvk hfk hx0 hx1 hS1 h20 h21 (by omega) (by rw [find_tk hk2 hno, if_neg (by rw [show decide ((bq (nbB false g) 1000 30 0 x0).1[k] ∈ (S (n - 1))) = false from b2i_0.mp (by rw [← hii]; exact c114)]; decide)]; rfl) (by omega) hP hD hS (lv_sub hl [3, 4, 1, 0] rfl)
          · refine lv_iload hx hb dM_findWay_117 (lv_at hl 0 rfl) ?_
            refine lv_goto (tgt := 123) hx hb dM_findWay_119 (by decide) ?_
            refine lv_istore_n (lv' := [(2, .int (nI (bq (nbB false g) 1000 30 0 x0).1[k])), (4, .int (nI (bq (nbB false g) 1000 30 0 x0).1[k])), (0, .ref (ad km)), (1, .int (nI (n - 1))), (3, .int (nI k))]) hx hb dM_findWay_123 rfl hl (by decide) rfl (fun ls hl => ?_)
            refine lv_iinc (v := (nI (k + 1))) (lv' := [(3, .int (nI (k + 1))), (2, .int (nI (bq (nbB false g) 1000 30 0 x0).1[k])), (4, .int (nI (bq (nbB false g) 1000 30 0 x0).1[k])), (0, .ref (ad km)), (1, .int (nI (n - 1)))]) hx hb dM_findWay_124 hl (k := 4) rfl (nI_1 _) (by decide) rfl (fun ls hl => ?_)
            refine lv_goto (tgt := 60) hx hb dM_findWay_127 (by decide) ?_
            exact ih x0 (k + 1) (nI (bq (nbB false g) 1000 30 0 x0).1[k]) v1 F1 ws1 _ _ _ hF hM hvk hfk hx0 hx1 hS1 h20 h21 (by omega) (by rw [find_tk hk2 hno, if_pos (b2i_n0.mp (by rw [← hii]; exact c114))]; rfl) (by omega) hP hD hS (lv_sub hl [3, 4, 1, 0] rfl)
  have loop_13 : ∀ (fu9 : Nat) (i : Nat) (v1 : Nat → Int32) (F1 : Nat → Nat → Int32) (ws1 : va_W) (H : Heap) (locs : List Loc) (ls : Array Slot), x_fr km (km + 24) ws ws1 → ModF cI ad ws1 km v1 F1 → vk [28] v v1 → fk [14, 15] F F1 → i ≤ (S (n - 2)).length → MLs v1 F1 (n + 1) (updJ S n ((S (n - 2)).take i)) → (S (n - 2)).length - i < fu9 → va_P D xCl ws1 H → va_D A ws1 → va_S A s.heap H locs → lv_has ls 5 [(0, .ref (ad km)), (1, .int (nI (n - 1))), (2, .int (nI i))] → W p l e (xR 3) s m args below meth c H locs 0 0 (MQ below (va_Qv (fun ws1 => x_fr km (km + 24) ws ws1 ∧ ∃ v9 F9, ModF cI ad ws1 km v9 F9 ∧ MLs v9 F9 (n - 1) (updJ S (n - 2) (wayF g (S (n - 2)) (S (n - 1)))) ∧ v9 30 = v 30 + nI (wayF g (S (n - 2)) (S (n - 1))).length ∧ vk [28, 30] v v9 ∧ fk [14, 15, 20, 21] F F9) (x_B D xCl tys A) A) args s 0 0 A) (F0 m 13 ls []) := by
    intro fu9
    induction fu9 with
    | zero => intro i v1 F1 ws1 H locs ls hF hM hvk hfk hi hS1 hme; exact absurd hme (Nat.not_lt_zero _)
    | succ fu9 ih =>
      intro i v1 F1 ws1 H locs ls hF hM hvk hfk hi hS1 hme hP hD hS hl
      obtain ⟨hu28, hu60, hui⟩ := id hS1
      have huA := hui (n - 2) (by omega)
      rw [updJ_o9 (by omega)] at huA
      refine lv_iload_n hx hb dM_findWay_13 rfl (lv_at hl 2 rfl) ?_
      refine lv_aload_n hx hb dM_findWay_14 rfl (lv_at hl 0 rfl) ?_
      refine va_get (D := D) (cl := xCl) (ci := 7) (v := .ref (ad (km + 15))) (C := rnM) (T := tbM) (N := 39) hx hb hts inM hown hK hP km hM.1 rfl 24 (by decide) (hts _ tw_641) (fun _ h9 => h9) rfl dM_findWay_15 ?_
      refine lv_iload_n hx hb dM_findWay_18 rfl (lv_at hl 1 rfl) ?_
      refine lv_iconst (v := 1) hx hb dM_findWay_19 (by decide) ?_
      refine lv_isub hx hb dM_findWay_20 ?_
      refine lv_topi (fun v_40 ev_40 => ?_)
      obtain rfl : v_40 = nI (n - 2) := by rw [ev_40, show (1 : Int32) = nI 1 from rfl, pk_sub (by omega), show n - 1 - 1 = n - 2 by omega]
      refine va_iald hx hb hK hP (km + 15) 0 (hM.a 15 60 rfl (by omega) (by omega)) hI (vp_in_nI (by omega) (by omega)) dM_findWay_21 ?_
      refine lv_topi (fun v_41 ev_41 => ?_)
      obtain rfl : v_41 = nI (S (n - 2)).length := by rw [ev_41, nI_clamp (by omega)]; exact huA.2.1
      refine lv_icmp_ge (tgt := 48) hx hb dM_findWay_22 (by decide) (fun c22 => ?_) (fun c22 => ?_)
      · refine lv_aload_n hx hb dM_findWay_48 rfl (lv_at hl 0 rfl) ?_
        refine lv_iconst (v := 0) hx hb dM_findWay_49 (by decide) ?_
        refine lv_sipush (v := 1000) hx hb dM_findWay_50 (by decide) ?_
        have htk : (S (n - 2)).take i = (S (n - 2)) := List.take_of_length_le (by rw [nI_leI (by omega) (by omega)] at c22; exact c22)
        rw [htk] at hS1
        have hg1 : MGr g v1 F1 := hg.c2 (hvk 1 (by simp)) (hfk 1 (by simp)) (hfk 2 (by simp)) (hfk 3 (by simp)) (hfk 4 (by simp)) (hfk 5 (by simp))
        refine x_callv (x_runV (n := 2) (As := [.int 0, .int 1000]) (rest := []) ⟨hx, hb, hml, hown, hts⟩ (cM_reach_f l D tys A ws1 cI hI ad km v1 F1 (n + 1) (updJ S n (S (n - 2))) hS1 g hg1 1000 (by omega) (by omega) (by rw [show n + 1 - 1 = n by omega, updJ_s]; exact hga) hM) tw_857 tw_859 ts_M_reach tw_8 tw_860 (by decide +kernel) rfl rfl ⟨by decide, by decide⟩ ⟨Nat.zero_le _, Nat.zero_le _⟩ (va_recv hK hP (ci := 7) (q0 := km) rfl hM.1) hK hP hD hS hA hN rfl hl.1 rfl (lv_room (Nat.le_of_ble_eq_true rfl)) dM_findWay_53) hS (fun ws_42 H locs hre hP hD hS => ?_)
        obtain ⟨hF9, v3, F3, x0, hM, hx0, hx1, hS3, h20, h21, hvk3, hfk3⟩ := hre
        have hF := hF.tr hF9
        rw [show n + 1 - 1 = n by omega, updJ_s] at hx0 hx1
        refine lv_iconst (v := (-1)) hx hb dM_findWay_56 (by decide) ?_
        refine lv_istore_n (lv' := [(2, .int (-1)), (0, .ref (ad km)), (1, .int (nI (n - 1)))]) hx hb dM_findWay_57 rfl hl (by decide) rfl (fun ls hl => ?_)
        refine lv_iconst (v := 0) hx hb dM_findWay_58 (by decide) ?_
        refine lv_istore_n (lv' := [(3, .int 0), (2, .int (-1)), (0, .ref (ad km)), (1, .int (nI (n - 1)))]) hx hb dM_findWay_59 rfl hl (by decide) rfl (fun ls hl => ?_)
        exact loop_60 _ x0 0 (-1) v3 F3 ws_42 _ _ _ hF hM (hvk.tr hvk3) ((hfk.wd (by simp)).tr hfk3) hx0 hx1 hS3 h20 h21 (Nat.zero_le _) rfl (Nat.lt_succ_self _) hP hD hS (lv_sub hl [2, 3, 1, 0] rfl)
      · have hi2 : i < (S (n - 2)).length := by rw [nI_leI (by omega) (by omega)] at c22; omega
        have hcap : ((S (n - 2)).take i).length < 30 := by rw [List.length_take]; have := huA.1; omega
        have ht30 : (S (n - 2))[i] < 30 := huA.2.2.1 _ (List.getElem_mem hi2)
        refine lv_aload_n hx hb dM_findWay_25 rfl (lv_at hl 0 rfl) ?_
        refine lv_aload_n hx hb dM_findWay_26 rfl (lv_at hl 0 rfl) ?_
        refine va_get (D := D) (cl := xCl) (ci := 7) (v := .ref (ad (km + 14))) (C := rnM) (T := tbM) (N := 39) hx hb hts inM hown hK hP km hM.1 rfl 23 (by decide) (hts _ tw_640) (fun _ h9 => h9) rfl dM_findWay_27 ?_
        refine lv_bipush (v := 30) hx hb dM_findWay_30 (by decide) ?_
        refine lv_iload_n hx hb dM_findWay_32 rfl (lv_at hl 1 rfl) ?_
        refine lv_iconst (v := 1) hx hb dM_findWay_33 (by decide) ?_
        refine lv_isub hx hb dM_findWay_34 ?_
        refine lv_topi (fun v_43 ev_43 => ?_)
        obtain rfl : v_43 = nI (n - 2) := by rw [ev_43, show (1 : Int32) = nI 1 from rfl, pk_sub (by omega), show n - 1 - 1 = n - 2 by omega]
        refine lv_imul hx hb dM_findWay_35 ?_
        refine lv_topi (fun v_44 ev_44 => ?_)
        obtain rfl : v_44 = nI (30 * (n - 2)) := by rw [ev_44, show (30 : Int32) = nI 30 from rfl, pk_mul]
        refine lv_iload_n hx hb dM_findWay_36 rfl (lv_at hl 2 rfl) ?_
        refine lv_iadd hx hb dM_findWay_37 ?_
        refine lv_topi (fun v_45 ev_45 => ?_)
        obtain rfl : v_45 = nI (30 * (n - 2) + i) := by rw [ev_45, nI_add]
        refine va_iald hx hb hK hP (km + 14) 0 (hM.a 14 1800 rfl (by omega) (by omega)) hI (vp_in_nI (by omega) (by omega)) dM_findWay_38 ?_
        refine lv_topi (fun v_46 ev_46 => ?_)
        obtain rfl : v_46 = nI (S (n - 2))[i] := by rw [ev_46, nI_clamp (by omega)]; exact huA.2.2.2 i hi2
        refine x_callv (x_runV (n := 1) (As := [.int (nI (S (n - 2))[i])]) (rest := []) ⟨hx, hb, hml, hown, hts⟩ (cM_add l D tys A ws1 cI hI ad km v1 F1 (n + 1) (updJ S n ((S (n - 2)).take i)) hS1 (S (n - 2))[i] (by omega) (by omega) (by rw [show (n + 1) - 1 = n by omega, updJ_s]; exact hcap) hM) tw_837 tw_839 ts_M_add tw_8 tw_840 (by decide +kernel) rfl rfl ⟨by decide, by decide⟩ ⟨Nat.zero_le _, Nat.zero_le _⟩ (va_recv hK hP (ci := 7) (q0 := km) rfl hM.1) hK hP hD hS hA hN rfl hl.1 rfl (lv_room (Nat.le_of_ble_eq_true rfl)) dM_findWay_39) hS (fun ws_47 H locs had hP hD hS => ?_)
        obtain ⟨hF9, v2, F2, hM, hS2, hvk2, hfk2⟩ := had
        have hF := hF.tr hF9
        rw [show (n + 1) - 1 = n by omega, updJ_s, updJ_2] at hS2
        refine lv_iinc (v := (nI (i + 1))) (lv' := [(2, .int (nI (i + 1))), (0, .ref (ad km)), (1, .int (nI (n - 1)))]) hx hb dM_findWay_42 hl (k := 2) rfl (nI_1 _) (by decide) rfl (fun ls hl => ?_)
        refine lv_goto (tgt := 13) hx hb dM_findWay_45 (by decide) ?_
        exact ih (i + 1) v2 F2 ws_47 _ _ _ hF hM (hvk.tr hvk2) (hfk.tr hfk2) (by omega) (by rw [List.take_succ_eq_append_getElem hi2]; exact hS2) (by omega) hP hD hS (lv_sub hl [1, 2, 0] rfl)
  refine lv_aload_n hx hb dM_findWay_0 rfl (lv_at hl 0 rfl) ?_
  refine va_get (D := D) (cl := xCl) (ci := 7) (v := .int (v 28)) (C := rnM) (T := tbM) (N := 39) hx hb hts inM hown hK hP km hM.1 rfl 28 (by decide) (hts _ tw_645) (fun _ h9 => h9) rfl dM_findWay_1 ?_
  refine lv_iconst (v := 1) hx hb dM_findWay_4 (by decide) ?_
  refine lv_isub hx hb dM_findWay_5 ?_
  refine lv_topi (fun v_48 ev_48 => ?_)
  obtain rfl : v_48 = nI (n - 1) := by rw [ev_48, hv28, show (1 : Int32) = nI 1 from rfl, pk_sub (by omega)]
  refine lv_istore_n (lv' := [(1, .int (nI (n - 1))), (0, .ref (ad km))]) hx hb dM_findWay_6 rfl hl (by decide) rfl (fun ls hl => ?_)
  refine lv_aload_n hx hb dM_findWay_7 rfl (lv_at hl 1 rfl) ?_
  refine x_callv (x_runV (n := 0) (As := []) (rest := []) ⟨hx, hb, hml, hown, hts⟩ (cM_begin l D tys A ws cI hI ad km v F n S hS0 (by omega) hM) tw_833 tw_835 ts_M_begin tw_8 tw_836 (by decide +kernel) rfl rfl ⟨by decide, by decide⟩ ⟨Nat.zero_le _, Nat.zero_le _⟩ (va_recv hK hP (ci := 7) (q0 := km) rfl hM.1) hK hP hD hS hA hN rfl hl.1 rfl (lv_room (Nat.le_of_ble_eq_true rfl)) dM_findWay_8) hS (fun ws_49 H locs hbe hP hD hS => ?_)
  obtain ⟨hF9, v1, F1, hM, hS1, hvk, hfk⟩ := hbe
  have hF := hF.tr hF9
  refine lv_iconst (v := 0) hx hb dM_findWay_11 (by decide) ?_
  refine lv_istore_n (lv' := [(2, .int 0), (1, .int (nI (n - 1))), (0, .ref (ad km))]) hx hb dM_findWay_12 rfl hl (by decide) rfl (fun ls hl => ?_)
  exact loop_13 _ 0 v1 F1 ws_49 _ _ _ hF hM hvk hfk (Nat.zero_le _) (by rw [List.take_zero]; exact hS1) (Nat.lt_succ_self _) hP hD hS (lv_sub hl [2, 1, 0] rfl)
