-- ===== Runner =====
/-- a place held within bounds -/
def clampI (i : Int32) (n : Nat) : Nat := if i.toInt < 0 then 0 else if i.toInt < n then i.toInt.toNat else n - 1
theorem clampI_nI {i n : Nat} (h : i < n) (hn : n < 2 ^ 31) : clampI (nI i) n = i := by
  unfold clampI
  rw [nI_toInt (by omega), if_neg (by omega), if_pos (by omega)]; simp
theorem clamp_val {i : Int32} {n : Nat} (h0 : 0 < n) (hn : n < 1000) : (if (0 : Int32) < (if nI n - 1 < i then nI n - 1 else i) then (if nI n - 1 < i then nI n - 1 else i) else 0) = nI (clampI i n) := by
  have e : nI n - 1 = nI (n - 1) := by rw [show (1 : Int32) = nI 1 from rfl, pk_sub h0]
  rw [e]
  unfold clampI
  by_cases h1 : i.toInt < 0
  · rw [if_pos h1]
    have a : ¬ nI (n - 1) < i := by rw [i32_lt, nI_toInt (by omega)]; omega
    rw [if_neg a, if_neg (by rw [i32_lt, i32_0]; omega)]; rfl
  · rw [if_neg h1]
    obtain ⟨j, hj, rfl⟩ := nI_of (x := i) (by rw [i32_lt, i32_0]; exact h1)
    rw [nI_toInt hj]
    by_cases h2 : j < n
    · have a : ¬ nI (n - 1) < nI j := nI_nlt (by omega) (by omega)
      have b : (j : Int) < (n : Int) := by omega
      rw [if_neg a, if_pos b, Int.toNat_natCast]
      by_cases h3 : 0 < j
      · have c : (0 : Int32) < nI j := by rw [show (0 : Int32) = nI 0 from rfl]; exact nI_lt h3 (by omega)
        rw [if_pos c]
      · have z : j = 0 := by omega
        have c : ¬ (0 : Int32) < nI j := by rw [z]; decide
        rw [if_neg c, z]; rfl
    · have a : nI (n - 1) < nI j := nI_lt (by omega) hj
      have b : ¬ (j : Int) < (n : Int) := by omega
      rw [if_pos a, if_neg b]
      by_cases h3 : 0 < n - 1
      · have c : (0 : Int32) < nI (n - 1) := by rw [show (0 : Int32) = nI 0 from rfl]; exact nI_lt h3 (by omega)
        rw [if_pos c]
      · have z : n - 1 = 0 := by omega
        have c : ¬ (0 : Int32) < nI (n - 1) := by rw [z]; decide
        rw [if_neg c, z]; rfl
theorem clampI_lt (i : Int32) {n : Nat} (h0 : 0 < n) : clampI i n < n := by
  unfold clampI
  split
  · exact h0
  · split <;> omega

set_option maxHeartbeats 4000000 in
set_option maxRecDepth 100000 in
/-- Runner.rowAt(rows, i) -/
theorem cN_rowAt (l : Launch) (D : va_G) (tys : List (ClassId × FieldType)) (A : Nat → Prop) (ws : va_W) (cR : ClassId) (hCR : tys[2]? = some (cR, .object "GraphQuery$Row")) (ad : Nat → Nat) (ka n : Nat) (h0n : 0 < n) (hn : n < 1000) (f : Nat → Option Nat) (hf : ∀ i, i < n → ∃ b, f i = some b) (i : Int32) (hA0 : ws[ka]? = some (ad ka, .inl (cR, n, .inr (.inr (.inr (.inr f)))))) : x_Mr l yN_rowAt wN_rowAt (xR 1) D xCl tys A [.ref (ad ka), .int i] ws (fun a ws1 => f (clampI i n) = some a ∧ ws = ws1) := by
  refine x_enter (by decide) rfl (Nat.le_of_ble_eq_true rfl) (fun p e s m args below meth c ls hx hb hr hlk hml hown hnm hts hK hP hD hS hA hN hl => ?_)
  have hl : lv_has ls 2 [(0, .ref (ad ka)), (1, .int i)] := hl
  refine lv_aload_n hx hb dN_rowAt_0 rfl (lv_at hl 0 rfl) ?_
  refine lv_iconst (v := 0) hx hb dN_rowAt_1 (by decide) ?_
  refine lv_iload_n hx hb dN_rowAt_2 rfl (lv_at hl 1 rfl) ?_
  refine lv_aload_n hx hb dN_rowAt_3 rfl (lv_at hl 0 rfl) ?_
  refine va_alen (v := (nI n)) hx hb hK hP ka 2 hA0 hCR (by rfl) dN_rowAt_4 ?_
  refine lv_iconst (v := 1) hx hb dN_rowAt_5 (by decide) ?_
  refine lv_isub hx hb dN_rowAt_6 ?_
  refine lv_topi (fun v_1 ev_1 => ?_)
  refine va_mmin hx hb (by rw [hml]; exact hl.1.symm) hown (hts _ tw_420) (hts _ tw_421) (hts _ tw_13) (hts _ tw_422) (by decide) (Nat.le_of_ble_eq_true rfl) (Nat.zero_le _) (Nat.zero_le _) dN_rowAt_7 ?_
  refine lv_topi (fun v_2 ev_2 => ?_)
  refine va_mmax hx hb (by rw [hml]; exact hl.1.symm) hown (hts _ tw_423) (hts _ tw_424) (hts _ tw_13) (hts _ tw_425) (by decide) (Nat.le_of_ble_eq_true rfl) (Nat.zero_le _) (Nat.zero_le _) dN_rowAt_10 ?_
  refine lv_topi (fun v_3 ev_3 => ?_)
  obtain rfl : v_3 = nI (clampI i n) := by rw [ev_3, ev_2, ev_1]; exact clamp_val h0n hn
  obtain ⟨b9, hfb⟩ := hf (clampI i n) (clampI_lt i h0n)
  refine va_aldq hx hb hK hP ka 2 hA0 hCR (vp_in_nI (clampI_lt i h0n) (by omega)) dN_rowAt_13 ?_
  rw [nI_clamp (by have := clampI_lt i h0n; omega), hfb]
  refine W.eq (g2 := F0 m 14 ls [.ref b9]) rfl ?_
  exact x_aret hx hb hr (Or.inl ⟨_, rfl⟩) hlk hK hP hD hS dN_rowAt_14 ⟨rfl, rfl⟩

def updJ (J : Nat → List Nat) (i : Nat) (L : List Nat) : Nat → List Nat := fun j => if j = i then L else J j
/-- the cells kn .. kn + 74 are a Runner: n lists on the stack, J its rows, B the bound rows -/
def RunnerAt (cI cR : ClassId) (ad : Nat → Nat) (ws : va_W) (kn n : Nat) (J B : Nat → List Nat) : Prop :=
  ws[kn]? = some (ad kn, .inr (3, [.ref (ad (kn + 1)), .ref (ad (kn + 50)), .int (nI n)])) ∧ (∃ f : Nat → Option Nat, ws[kn + 1]? = some (ad (kn + 1), .inl (cR, 24, .inr (.inr (.inr (.inr f))))) ∧ ∀ i, i < 24 → f i = some (ad (kn + 2 + 2 * i))) ∧ (∃ f : Nat → Option Nat, ws[kn + 50]? = some (ad (kn + 50), .inl (cR, 12, .inr (.inr (.inr (.inr f))))) ∧ ∀ i, i < 12 → f i = some (ad (kn + 51 + 2 * i))) ∧ (∀ i, i < 24 → RowAt cI ad ws (kn + 2 + 2 * i) (J i)) ∧ ∀ i, i < 12 → RowAt cI ad ws (kn + 51 + 2 * i) (B i)
/-- of the cells from kn on, nothing changed but k, k + 1 -/
def x_on (kn k : Nat) (ws ws1 : va_W) : Prop := ∀ j, kn ≤ j → j ≠ k → j ≠ k + 1 → ws1[j]? = ws[j]?
theorem x_two.on {kn k : Nat} {a b : va_W} (h : x_two k a b) : x_on kn k a b := fun j _ h1 h2 => h j h1 h2
theorem x_nt.on {kg kn k : Nat} {a b : va_W} (h : x_nt kg k a b) (hk : kg + 9 ≤ kn) : x_on kn k a b := fun j h0 h1 h2 => h j (by omega) h1 h2
theorem RowAt.keepO {cI : ClassId} {ad : Nat → Nat} {ws ws1 : va_W} {kn k k2 : Nat} {L : List Nat} (h : RowAt cI ad ws k2 L) (hf : x_on kn k ws ws1) (h1 : kn ≤ k2) (h2 : k2 + 2 ≤ k ∨ k + 2 ≤ k2) : RowAt cI ad ws1 k2 L := by
  obtain ⟨f, mk, h0, h1, r⟩ := h
  exact ⟨f, mk, (hf _ (by omega) (by omega) (by omega)).trans h0, (hf _ (by omega) (by omega) (by omega)).trans h1, r⟩
theorem RunnerAt.row {cI cR : ClassId} {ad : Nat → Nat} {ws ws1 : va_W} {kn n i : Nat} {J B : Nat → List Nat} {L : List Nat} (h : RunnerAt cI cR ad ws kn n J B) (hi : i < 24) (hf : x_on kn (kn + 2 + 2 * i) ws ws1) (hL : RowAt cI ad ws1 (kn + 2 + 2 * i) L) : RunnerAt cI cR ad ws1 kn n (updJ J i L) B := by
  obtain ⟨h0, ⟨f, h1, h2⟩, ⟨f9, h3, h4⟩, h5, h6⟩ := h
  refine ⟨(hf _ (by omega) (by omega) (by omega)).trans h0, ⟨f, (hf _ (by omega) (by omega) (by omega)).trans h1, h2⟩, ⟨f9, (hf _ (by omega) (by omega) (by omega)).trans h3, h4⟩, fun j hj => ?_, fun j hj => (h6 j hj).keepO hf (by omega) (by omega)⟩
  unfold updJ
  by_cases e : j = i
  · rw [if_pos e, e]; exact hL
  · rw [if_neg e]; exact (h5 j hj).keepO hf (by omega) (by omega)
theorem RunnerAt.bnd {cI cR : ClassId} {ad : Nat → Nat} {ws ws1 : va_W} {kn n i : Nat} {J B : Nat → List Nat} {L : List Nat} (h : RunnerAt cI cR ad ws kn n J B) (hi : i < 12) (hf : x_on kn (kn + 51 + 2 * i) ws ws1) (hL : RowAt cI ad ws1 (kn + 51 + 2 * i) L) : RunnerAt cI cR ad ws1 kn n J (updJ B i L) := by
  obtain ⟨h0, ⟨f, h1, h2⟩, ⟨f9, h3, h4⟩, h5, h6⟩ := h
  refine ⟨(hf _ (by omega) (by omega) (by omega)).trans h0, ⟨f, (hf _ (by omega) (by omega) (by omega)).trans h1, h2⟩, ⟨f9, (hf _ (by omega) (by omega) (by omega)).trans h3, h4⟩, fun j hj => (h5 j hj).keepO hf (by omega) (by omega), fun j hj => ?_⟩
  unfold updJ
  by_cases e : j = i
  · rw [if_pos e, e]; exact hL
  · rw [if_neg e]; exact (h6 j hj).keepO hf (by omega) (by omega)
theorem RunnerAt.top {cI cR : ClassId} {ad : Nat → Nat} {ws ws1 : va_W} {kn n n1 : Nat} {J B : Nat → List Nat} {v : Int32} (h : RunnerAt cI cR ad ws kn n J B) (u : x_upd ws kn (ad kn, .inr (3, [.ref (ad (kn + 1)), .ref (ad (kn + 50)), .int v])) ws1) (ev : v = nI n1) : RunnerAt cI cR ad ws1 kn n1 J B := by
  obtain ⟨h0, ⟨f, h1, h2⟩, ⟨f9, h3, h4⟩, h5, h6⟩ := h
  subst ev
  have hf := u.fr (a := kn) (b := kn + 1) (by omega) (by omega)
  exact ⟨u.1, ⟨f, (hf _ (by omega)).trans h1, h2⟩, ⟨f9, (hf _ (by omega)).trans h3, h4⟩, fun j hj => (h5 j hj).keepF hf (by omega), fun j hj => (h6 j hj).keepF hf (by omega)⟩

set_option maxHeartbeats 4000000 in
set_option maxRecDepth 100000 in
/-- Runner.result() -/
theorem cN_result (l : Launch) (D : va_G) (tys : List (ClassId × FieldType)) (A : Nat → Prop) (ws : va_W) (cI : ClassId) (hI : tys[0]? = some (cI, .int)) (cR : ClassId) (hCR : tys[2]? = some (cR, .object "GraphQuery$Row")) (ad : Nat → Nat) (kn n : Nat) (J B : Nat → List Nat) (hn1 : 1 ≤ n) (hn2 : n ≤ 24) (hr0 : RunnerAt cI cR ad ws kn n J B) : x_Mr l yN_result wN_result (xR 2) D xCl tys A [.ref (ad kn)] ws (fun a ws1 => a = ad (kn + 2 + 2 * (n - 1)) ∧ ws = ws1) := by
  obtain ⟨h0, ⟨fS, h1, h2⟩, ⟨fB, h3, h4⟩, h5, h6⟩ := id hr0
  refine x_enter (by decide) rfl (Nat.le_of_ble_eq_true rfl) (fun p e s m args below meth c ls hx hb hr hlk hml hown hnm hts hK hP hD hS hA hN hl => ?_)
  have hl : lv_has ls 1 [(0, .ref (ad kn))] := hl
  refine lv_aload_n hx hb dN_result_0 rfl (lv_at hl 0 rfl) ?_
  refine va_get (D := D) (cl := xCl) (ci := 3) (v := .ref (ad (kn + 1))) (C := rnN) (T := tbN) (N := 3) hx hb hts inN hown hK hP kn h0 rfl 0 (by decide) (hts _ tw_136) (fun _ h9 => h9) rfl dN_result_1 ?_
  refine lv_aload_n hx hb dN_result_4 rfl (lv_at hl 0 rfl) ?_
  refine va_get (D := D) (cl := xCl) (ci := 3) (v := .int (nI n)) (C := rnN) (T := tbN) (N := 3) hx hb hts inN hown hK hP kn h0 rfl 2 (by decide) (hts _ tw_138) (fun _ h9 => h9) rfl dN_result_5 ?_
  refine lv_iconst (v := 1) hx hb dN_result_8 (by decide) ?_
  refine lv_isub hx hb dN_result_9 ?_
  refine lv_topi (fun v_1 ev_1 => ?_)
  obtain rfl : v_1 = nI (n - 1) := by rw [ev_1, show (1 : Int32) = nI 1 from rfl, pk_sub hn1]
  refine x_callr (x_runS (n := 2) (As := [.ref (ad (kn + 1)), .int (nI (n - 1))]) (rest := []) ⟨hx, hb, hml, hown, hts⟩ (cN_rowAt l D tys A ws cR hCR ad (kn + 1) 24 (by decide) (by decide) fS (fun i hi => ⟨_, h2 i hi⟩) ((nI (n - 1))) h1) tw_417 tw_418 tw_6 tw_419 (by decide +kernel) rfl rfl ⟨by decide, by decide⟩ ⟨Nat.zero_le _, Nat.zero_le _⟩ hK hP hD hS hA hN rfl hl.1 rfl (lv_room (Nat.le_of_ble_eq_true rfl)) dN_result_10) hS (fun rra ws_2 H locs hra hP hD hS => ?_)
  obtain ⟨hra, rfl⟩ := hra
  obtain rfl : rra = ad (kn + 2 + 2 * (n - 1)) := by rw [clampI_nI (show n - 1 < 24 by omega) (by omega), h2 _ (show n - 1 < 24 by omega)] at hra; exact (Option.some.inj hra).symm
  exact x_aret hx hb hr (Or.inl ⟨_, rfl⟩) hlk hK hP hD hS dN_result_13 ⟨rfl, rfl⟩

set_option maxHeartbeats 4000000 in
set_option maxRecDepth 100000 in
/-- Runner.pop() -/
theorem cN_pop (l : Launch) (D : va_G) (tys : List (ClassId × FieldType)) (A : Nat → Prop) (ws : va_W) (cI : ClassId) (hI : tys[0]? = some (cI, .int)) (cR : ClassId) (hCR : tys[2]? = some (cR, .object "GraphQuery$Row")) (ad : Nat → Nat) (kn n : Nat) (J B : Nat → List Nat) (hn1 : 1 ≤ n) (hn2 : n ≤ 24) (hr0 : RunnerAt cI cR ad ws kn n J B) : x_Mr l yN_pop wN_pop (xR 2) D xCl tys A [.ref (ad kn)] ws (fun a ws1 => a = ad (kn + 2 + 2 * (n - 1)) ∧ x_fr kn (kn + 1) ws ws1 ∧ RunnerAt cI cR ad ws1 kn (n - 1) J B) := by
  obtain ⟨h0, ⟨fS, h1, h2⟩, ⟨fB, h3, h4⟩, h5, h6⟩ := id hr0
  refine x_enter (by decide) rfl (Nat.le_of_ble_eq_true rfl) (fun p e s m args below meth c ls hx hb hr hlk hml hown hnm hts hK hP hD hS hA hN hl => ?_)
  have hl : lv_has ls 1 [(0, .ref (ad kn))] := hl
  refine lv_aload_n hx hb dN_pop_0 rfl (lv_at hl 0 rfl) ?_
  refine lv_dup hx hb dN_pop_1 rfl ?_
  refine va_get (D := D) (cl := xCl) (ci := 3) (v := .int (nI n)) (C := rnN) (T := tbN) (N := 3) hx hb hts inN hown hK hP kn h0 rfl 2 (by decide) (hts _ tw_138) (fun _ h9 => h9) rfl dN_pop_2 ?_
  refine lv_iconst (v := 1) hx hb dN_pop_5 (by decide) ?_
  refine lv_isub hx hb dN_pop_6 ?_
  refine lv_topi (fun v_1 ev_1 => ?_)
  obtain rfl : v_1 = nI (n - 1) := by rw [ev_1, show (1 : Int32) = nI 1 from rfl, pk_sub hn1]
  refine va_put (D := D) (cl := xCl) (ci := 3) (v := .int (nI (n - 1))) (ty := .int) (C := rnN) (T := tbN) (N := 3) hx hb hts inN tyN toN nmN hown hK hP hD hS kn h0 rfl 2 (by decide) (hts _ tw_138) (fun _ h9 => h9) rfl (by decide +kernel) rfl rfl (Nat.le_of_ble_eq_true rfl) dN_pop_7 (fun H locs hP hD hS => ?_)
  obtain ⟨ws_3, hu_2, hP, hD⟩ := x_gen h0 hP hD
  have h_4 : ws_3[kn]? = some (ad kn, .inr (3, [.ref (ad (kn + 1)), .ref (ad (kn + 50)), .int (nI (n - 1))])) := hu_2.1
  have h_5 := (hu_2.2 (kn + 1) (by omega)).trans h1
  have h_6 := (hu_2.2 (kn + 50) (by omega)).trans h3
  refine lv_aload_n hx hb dN_pop_10 rfl (lv_at hl 0 rfl) ?_
  refine va_get (D := D) (cl := xCl) (ci := 3) (v := .ref (ad (kn + 1))) (C := rnN) (T := tbN) (N := 3) hx hb hts inN hown hK hP kn h_4 rfl 0 (by decide) (hts _ tw_136) (fun _ h9 => h9) rfl dN_pop_11 ?_
  refine lv_aload_n hx hb dN_pop_14 rfl (lv_at hl 0 rfl) ?_
  refine va_get (D := D) (cl := xCl) (ci := 3) (v := .int (nI (n - 1))) (C := rnN) (T := tbN) (N := 3) hx hb hts inN hown hK hP kn h_4 rfl 2 (by decide) (hts _ tw_138) (fun _ h9 => h9) rfl dN_pop_15 ?_
  refine x_callr (x_runS (n := 2) (As := [.ref (ad (kn + 1)), .int (nI (n - 1))]) (rest := []) ⟨hx, hb, hml, hown, hts⟩ (cN_rowAt l D tys A ws_3 cR hCR ad (kn + 1) 24 (by decide) (by decide) fS (fun i hi => ⟨_, h2 i hi⟩) ((nI (n - 1))) h_5) tw_417 tw_418 tw_6 tw_419 (by decide +kernel) rfl rfl ⟨by decide, by decide⟩ ⟨Nat.zero_le _, Nat.zero_le _⟩ hK hP hD hS hA hN rfl hl.1 rfl (lv_room (Nat.le_of_ble_eq_true rfl)) dN_pop_18) hS (fun rra ws_7 H locs hra hP hD hS => ?_)
  obtain ⟨hra, rfl⟩ := hra
  obtain rfl : rra = ad (kn + 2 + 2 * (n - 1)) := by rw [clampI_nI (show n - 1 < 24 by omega) (by omega), h2 _ (show n - 1 < 24 by omega)] at hra; exact (Option.some.inj hra).symm
  exact x_aret hx hb hr (Or.inl ⟨_, rfl⟩) hlk hK hP hD hS dN_pop_21 ⟨rfl, hu_2.fr (by omega) (by omega), hr0.top hu_2 rfl⟩

set_option maxHeartbeats 4000000 in
set_option maxRecDepth 100000 in
/-- Runner.push() -/
theorem cN_push (l : Launch) (D : va_G) (tys : List (ClassId × FieldType)) (A : Nat → Prop) (ws : va_W) (cI : ClassId) (hI : tys[0]? = some (cI, .int)) (cR : ClassId) (hCR : tys[2]? = some (cR, .object "GraphQuery$Row")) (ad : Nat → Nat) (kn n : Nat) (J B : Nat → List Nat) (hn2 : n < 24) (hr0 : RunnerAt cI cR ad ws kn n J B) : x_Mr l yN_push wN_push (xR 2) D xCl tys A [.ref (ad kn)] ws (fun a ws1 => a = ad (kn + 2 + 2 * n) ∧ (∀ j, j ≠ kn → j ≠ kn + 2 + 2 * n → j ≠ kn + 2 + 2 * n + 1 → ws1[j]? = ws[j]?) ∧ RunnerAt cI cR ad ws1 kn (n + 1) (updJ J n []) B) := by
  obtain ⟨h0, ⟨fS, h1, h2⟩, ⟨fB, h3, h4⟩, h5, h6⟩ := id hr0
  refine x_enter (by decide) rfl (Nat.le_of_ble_eq_true rfl) (fun p e s m args below meth c ls hx hb hr hlk hml hown hnm hts hK hP hD hS hA hN hl => ?_)
  have hl : lv_has ls 2 [(0, .ref (ad kn))] := hl
  refine lv_aload_n hx hb dN_push_0 rfl (lv_at hl 0 rfl) ?_
  refine va_get (D := D) (cl := xCl) (ci := 3) (v := .ref (ad (kn + 1))) (C := rnN) (T := tbN) (N := 3) hx hb hts inN hown hK hP kn h0 rfl 0 (by decide) (hts _ tw_136) (fun _ h9 => h9) rfl dN_push_1 ?_
  refine lv_aload_n hx hb dN_push_4 rfl (lv_at hl 0 rfl) ?_
  refine va_get (D := D) (cl := xCl) (ci := 3) (v := .int (nI n)) (C := rnN) (T := tbN) (N := 3) hx hb hts inN hown hK hP kn h0 rfl 2 (by decide) (hts _ tw_138) (fun _ h9 => h9) rfl dN_push_5 ?_
  refine x_callr (x_runS (n := 2) (As := [.ref (ad (kn + 1)), .int (nI n)]) (rest := []) ⟨hx, hb, hml, hown, hts⟩ (cN_rowAt l D tys A ws cR hCR ad (kn + 1) 24 (by decide) (by decide) fS (fun i hi => ⟨_, h2 i hi⟩) ((nI n)) h1) tw_417 tw_418 tw_6 tw_419 (by decide +kernel) rfl rfl ⟨by decide, by decide⟩ ⟨Nat.zero_le _, Nat.zero_le _⟩ hK hP hD hS hA hN rfl hl.1 rfl (lv_room (Nat.le_of_ble_eq_true rfl)) dN_push_8) hS (fun rra ws_1 H locs hra hP hD hS => ?_)
  obtain ⟨hra, rfl⟩ := hra
  obtain rfl : rra = ad (kn + 2 + 2 * n) := by rw [clampI_nI hn2 (by omega), h2 _ hn2] at hra; exact (Option.some.inj hra).symm
  refine lv_astore_n (lv' := [(1, .ref (ad (kn + 2 + 2 * n))), (0, .ref (ad kn))]) hx hb dN_push_11 rfl hl (by decide) rfl (fun ls hl => ?_)
  refine lv_aload_n hx hb dN_push_12 rfl (lv_at hl 1 rfl) ?_
  refine lv_dup hx hb dN_push_13 rfl ?_
  refine va_get (D := D) (cl := xCl) (ci := 3) (v := .int (nI n)) (C := rnN) (T := tbN) (N := 3) hx hb hts inN hown hK hP kn h0 rfl 2 (by decide) (hts _ tw_138) (fun _ h9 => h9) rfl dN_push_14 ?_
  refine lv_iconst (v := 1) hx hb dN_push_17 (by decide) ?_
  refine lv_iadd hx hb dN_push_18 ?_
  refine lv_topi (fun v_2 ev_2 => ?_)
  obtain rfl : v_2 = nI (n + 1) := by rw [ev_2, nI_1]
  refine va_put (D := D) (cl := xCl) (ci := 3) (v := .int (nI (n + 1))) (ty := .int) (C := rnN) (T := tbN) (N := 3) hx hb hts inN tyN toN nmN hown hK hP hD hS kn h0 rfl 2 (by decide) (hts _ tw_138) (fun _ h9 => h9) rfl (by decide +kernel) rfl rfl (Nat.le_of_ble_eq_true rfl) dN_push_19 (fun H locs hP hD hS => ?_)
  obtain ⟨ws_4, hu_3, hP, hD⟩ := x_gen h0 hP hD
  have h_5 : ws_4[kn]? = some (ad kn, .inr (3, [.ref (ad (kn + 1)), .ref (ad (kn + 50)), .int (nI (n + 1))])) := hu_3.1
  have h_6 := (hu_3.2 (kn + 1) (by omega)).trans h1
  have h_7 := (hu_3.2 (kn + 50) (by omega)).trans h3
  refine lv_aload_n hx hb dN_push_22 rfl (lv_at hl 0 rfl) ?_
  have hr1 := hr0.top (n1 := n + 1) hu_3 rfl
  obtain ⟨f9, hR9⟩ := hr1.2.2.2.1 n hn2
  obtain ⟨fs9, ho9⟩ := RowAt.obj ⟨f9, hR9⟩
  refine x_callv (x_runV (n := 0) (As := []) (rest := []) ⟨hx, hb, hml, hown, hts⟩ (cR_clear l D tys A ws_4 cI hI ad (kn + 2 + 2 * n) (J n) f9 hR9) tw_502 tw_435 tw_436 tw_7 tw_437 (by decide +kernel) rfl rfl ⟨by decide, by decide⟩ ⟨Nat.zero_le _, Nat.zero_le _⟩ (va_recv hK hP (ci := 2) (q0 := kn + 2 + 2 * n) rfl ho9) hK hP hD hS hA hN rfl hl.1 rfl (lv_room (Nat.le_of_ble_eq_true rfl)) dN_push_23) hS (fun ws_8 H locs hcl hP hD hS => ?_)
  refine lv_aload_n hx hb dN_push_26 rfl (lv_at hl 0 rfl) ?_
  exact x_aret hx hb hr (Or.inl ⟨_, rfl⟩) hlk hK hP hD hS dN_push_27 ⟨rfl, (fun j hj1 hj2 hj3 => (hcl.1 j hj2 hj3).trans (hu_3.2 j hj1)), hr1.row hn2 hcl.1.on ⟨_, hcl.2⟩⟩
