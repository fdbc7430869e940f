-- ===== the way doesn't rest on what cameBy held beyond 30 =====
def ag (a b : Nat → Int32) : Prop := ∀ x, x < 30 → a x = b x
theorem ag_note {t u : Nat} {x y : List Nat × (Nat → Int32)} (h : x.1 = y.1 ∧ ag x.2 y.2) : (note1 t x u).1 = (note1 t y u).1 ∧ ag (note1 t x u).2 (note1 t y u).2 := by
  unfold note1
  rw [h.1]
  split
  · exact h
  · refine ⟨rfl, fun z hz => ?_⟩
    show upd x.2 u _ z = upd y.2 u _ z
    unfold upd
    split
    · rfl
    · exact h.2 z hz
theorem ag_noteL {t : Nat} : ∀ (R : List Nat) {x y : List Nat × (Nat → Int32)}, (x.1 = y.1 ∧ ag x.2 y.2) → (noteL t x R).1 = (noteL t y R).1 ∧ ag (noteL t x R).2 (noteL t y R).2 := by
  intro R
  induction R with
  | nil => intro x y h; exact h
  | cons a R ih => intro x y h; exact ih (ag_note h)
theorem ag_wayQ {g : Gr} {G : List Nat} : ∀ (n i : Nat) {x y : List Nat × (Nat → Int32)}, (x.1 = y.1 ∧ ag x.2 y.2) → (wayQ g G n i x).1 = (wayQ g G n i y).1 ∧ ag (wayQ g G n i x).2 (wayQ g G n i y).2 := by
  intro n
  induction n with
  | zero => intro i x y h; exact ⟨rfl, h.2⟩
  | succ n ih =>
    intro i x y h
    unfold wayQ
    rw [h.1]
    split
    · split
      · exact ⟨rfl, h.2⟩
      · exact ih (i + 1) (ag_noteL _ h)
    · exact ⟨rfl, h.2⟩
theorem ag_chain {a b : Nat → Int32} (h : ag a b) : ∀ (n : Nat) (t : Int32) (M : List Nat), chain a n t M = chain b n t M := by
  intro n
  induction n with
  | zero => intro t M; rfl
  | succ n ih =>
    intro t M
    unfold chain
    split
    · next hb =>
      unfold blw at hb
      rw [Bool.and_eq_true, decide_eq_true_eq, decide_eq_true_eq, i32_30] at hb
      rw [h _ (by omega)]; exact ih _ _
    · rfl
/-- way -/
def wayF (g : Gr) (L G : List Nat) : List Nat := wayS g L G (fun _ => -1)
theorem wayS_F {g : Gr} {L G : List Nat} {cb0 : Nat → Int32} (h : ∀ x, x < 30 → cb0 x = -1) : wayS g L G cb0 = wayF g L G := by
  have q := ag_wayQ (g := g) (G := G) 30 0 (x := (L, cb0)) (y := (L, fun _ => -1)) ⟨rfl, h⟩
  unfold wayF wayS
  rw [q.1, ag_chain q.2]
theorem updJ_2 (J : Nat → List Nat) (i : Nat) (L M : List Nat) : updJ (updJ J i L) i M = updJ J i M := by
  funext j
  unfold updJ
  by_cases e : j = i
  · rw [if_pos e, if_pos e]
  · rw [if_neg e, if_neg e, if_neg e]
theorem updJ_s (J : Nat → List Nat) (i : Nat) (L : List Nat) : updJ J i L i = L := if_pos rfl
/-- nothing changed but cameBy and the Runner's cells -/
def x_rn (kg kn : Nat) (ws ws1 : va_W) : Prop := ∀ j, j ≠ kg + 8 → (j < kn ∨ kn + 75 ≤ j) → ws1[j]? = ws[j]?
theorem x_rn.rf {kg kn : Nat} {ws : va_W} : x_rn kg kn ws ws := fun _ _ _ => rfl
theorem x_rn.tr {kg kn : Nat} {a b c : va_W} (h1 : x_rn kg kn a b) (h2 : x_rn kg kn b c) : x_rn kg kn a c := fun j h h' => (h2 j h h').trans (h1 j h h')
theorem x_two.rn {kg kn k : Nat} {a b : va_W} (h : x_two k a b) (h1 : kn ≤ k) (h2 : k + 2 ≤ kn + 75) : x_rn kg kn a b := fun j _ hj => h j (by omega) (by omega)
theorem x_nt.rn {kg kn k : Nat} {a b : va_W} (h : x_nt kg k a b) (h1 : kn ≤ k) (h2 : k + 2 ≤ kn + 75) : x_rn kg kn a b := fun j h0 hj => h j h0 (by omega) (by omega)
theorem x_fr.rn {kg kn p q : Nat} {a b : va_W} (h : x_fr p q a b) (h1 : kn ≤ p) (h2 : q ≤ kn + 75) : x_rn kg kn a b := fun j _ hj => h j (by omega)
theorem addL_range (n : Nat) : addL [] (List.range n) = List.range n := addL_nil List.nodup_range
theorem fm_not {w r : Int32} {L R : List Nat} (hr : ∀ i, i < 32 → bt r i = decide (i ∈ R)) (ew : w = r ^^^ (-1)) (hL : ∀ t ∈ L, t < 30) : fm w L = L.filter (fun t => !decide (t ∈ R)) := by
  unfold fm
  apply List.filter_congr
  intro t ht
  have := hL t ht
  rw [ew, b_not r (by omega), hr t (by omega)]
theorem fm_and {r : Int32} {L R : List Nat} (hr : ∀ i, i < 32 → bt r i = decide (i ∈ R)) (hL : ∀ t ∈ L, t < 30) : fm r L = L.filter (fun t => decide (t ∈ R)) := by
  unfold fm
  apply List.filter_congr
  intro t ht
  have := hL t ht
  rw [hr t (by omega)]

set_option maxHeartbeats 4000000 in
set_option maxRecDepth 100000 in
theorem cN_make_2 (l : Launch) (D : va_G) (tys : List (ClassId × FieldType)) (A : Nat → Prop) (ws : va_W) (cI : ClassId) (hI : tys[0]? = some (cI, .int)) (cR : ClassId) (hCR : tys[2]? = some (cR, .object "GraphQuery$Row")) (ad : Nat → Nat) (kn n : Nat) (J B : Nat → List Nat) (kg : Nat) (hkg : kg + 9 ≤ kn) (g : Gr) (v : Int32) (hn2 : n < 24) (hG : GraphAt cI ad ws kg g) (hr0 : RunnerAt cI cR ad ws kn n J B) : x_Mv l yN_make wN_make (xR 5) D xCl tys A [.ref (ad kn), .int 2, .int v, .ref (ad kg)] ws (fun ws1 => x_rn kg kn ws ws1 ∧ GraphAt cI ad ws1 kg g ∧ RunnerAt cI cR ad ws1 kn (n + 1) (updJ J n (addI [] (gNoI g v))) B) := by
  obtain ⟨fsG, hgo⟩ := hG.obj
  obtain ⟨h0, ⟨fS, h1, h2⟩, ⟨fB, h3, h4⟩, h5, h6⟩ := id hr0
  refine x_enter (by decide) rfl (Nat.le_of_ble_eq_true rfl) (fun p e s m args below meth c ls hx hb hr hlk hml hown hnm hts hK hP hD hS hA hN hl => ?_)
  have hl : lv_has ls 4 [(0, .ref (ad kn)), (1, .int 2), (2, .int v), (3, .ref (ad kg))] := hl
  refine lv_iload_n hx hb dN_make_0 rfl (lv_at hl 1 rfl) ?_
  refine lv_tableIn (tgt := 56) hx hb dN_make_1 (by decide) (by decide) rfl (by decide) ?_
  refine lv_aload_n hx hb dN_make_56 rfl (lv_at hl 0 rfl) ?_
  refine x_callr (x_runV (n := 0) (As := []) (rest := []) ⟨hx, hb, hml, hown, hts⟩ (cN_push l D tys A ws cI hI cR hCR ad kn n J B hn2 hr0) tw_498 tw_500 ts_N_push tw_6 tw_501 (by decide +kernel) rfl rfl ⟨by decide, by decide⟩ ⟨Nat.zero_le _, Nat.zero_le _⟩ (va_recv hK hP (ci := 3) (q0 := kn) rfl h0) hK hP hD hS hA hN rfl hl.1 rfl (lv_room (Nat.le_of_ble_eq_true rfl)) dN_make_57) hS (fun rpu ws_1 H locs hpu hP hD hS => ?_)
  obtain ⟨rfl, hF1, hr1⟩ := hpu
  have hT1 : x_rn kg kn ws ws_1 := fun j _ hj => hF1 j (by omega) (by omega) (by omega)
  have hG1 : GraphAt cI ad ws_1 kg g := hG.keep (a := kn) (b := kn + 75) (fun j hj => hF1 j (by omega) (by omega) (by omega)) (by omega)
  have hrw := hr1.2.2.2.1 n hn2
  rw [updJ_s] at hrw
  obtain ⟨fr1, hro1⟩ := hrw.obj
  obtain ⟨f1, hR1⟩ := id hrw
  obtain ⟨fg1, hgo1⟩ := hG1.obj
  obtain ⟨h01, ⟨fS1, h11, h21⟩, ⟨fB1, h31, h41⟩, h51, h61⟩ := id hr1
  refine lv_aload_n hx hb dN_make_60 rfl (lv_at hl 3 rfl) ?_
  refine lv_iload_n hx hb dN_make_61 rfl (lv_at hl 2 rfl) ?_
  refine x_calli (x_runV (n := 1) (As := [.int v]) (rest := [.ref (ad (kn + 2 + 2 * n))]) ⟨hx, hb, hml, hown, hts⟩ (cG_numberOf l D tys A ws_1 cI hI ad kg g v hG1) tw_503 tw_406 tw_407 tw_2 tw_408 (by decide +kernel) rfl rfl ⟨by decide, by decide⟩ ⟨Nat.zero_le _, Nat.zero_le _⟩ (va_recv hK hP (ci := 0) (q0 := kg) rfl hgo1) hK hP hD hS hA hN rfl hl.1 rfl (lv_room (Nat.le_of_ble_eq_true rfl)) dN_make_62) hS (fun rnu ws_2 H locs hnu hP hD hS => ?_)
  obtain ⟨hnu, rfl⟩ := hnu
  refine x_callv (x_runV (n := 1) (As := [.int rnu]) (rest := []) ⟨hx, hb, hml, hown, hts⟩ (cR_add l D tys A ws_1 cI hI ad (kn + 2 + 2 * n) [] rnu f1 hR1) tw_504 tw_451 tw_452 tw_7 tw_453 (by decide +kernel) rfl rfl ⟨by decide, by decide⟩ ⟨Nat.zero_le _, Nat.zero_le _⟩ (va_recv hK hP (ci := 2) (q0 := kn + 2 + 2 * n) rfl hro1) hK hP hD hS hA hN rfl hl.1 rfl (lv_room (Nat.le_of_ble_eq_true rfl)) dN_make_65) hS (fun ws_3 H locs had hP hD hS => ?_)
  refine lv_goto (tgt := 158) hx hb dN_make_68 (by decide) ?_
  exact x_vret hx hb hr hlk hK hP hD hS dN_make_158 ⟨hT1.tr (had.1.rn (by omega) (by omega)), hG1.keep had.1.fr (by omega), by have q := hr1.row hn2 had.1.on (had.2.elim (fun f9 h9 => ⟨f9, h9.1⟩)); rw [updJ_2, hnu] at q; exact q⟩

set_option maxHeartbeats 4000000 in
set_option maxRecDepth 100000 in
theorem cN_make_3 (l : Launch) (D : va_G) (tys : List (ClassId × FieldType)) (A : Nat → Prop) (ws : va_W) (cI : ClassId) (hI : tys[0]? = some (cI, .int)) (cR : ClassId) (hCR : tys[2]? = some (cR, .object "GraphQuery$Row")) (ad : Nat → Nat) (kn n : Nat) (J B : Nat → List Nat) (kg : Nat) (hkg : kg + 9 ≤ kn) (g : Gr) (b : Nat) (hb12 : b < 12) (hn2 : n < 24) (hG : GraphAt cI ad ws kg g) (hr0 : RunnerAt cI cR ad ws kn n J B) : x_Mv l yN_make wN_make (xR 5) D xCl tys A [.ref (ad kn), .int 3, .int (nI b), .ref (ad kg)] ws (fun ws1 => x_rn kg kn ws ws1 ∧ GraphAt cI ad ws1 kg g ∧ RunnerAt cI cR ad ws1 kn (n + 1) (updJ J n (B b)) B) := by
  obtain ⟨fsG, hgo⟩ := hG.obj
  obtain ⟨h0, ⟨fS, h1, h2⟩, ⟨fB, h3, h4⟩, h5, h6⟩ := id hr0
  refine x_enter (by decide) rfl (Nat.le_of_ble_eq_true rfl) (fun p e s m args below meth c ls hx hb hr hlk hml hown hnm hts hK hP hD hS hA hN hl => ?_)
  have hl : lv_has ls 4 [(0, .ref (ad kn)), (1, .int 3), (2, .int (nI b)), (3, .ref (ad kg))] := hl
  refine lv_iload_n hx hb dN_make_0 rfl (lv_at hl 1 rfl) ?_
  refine lv_tableIn (tgt := 71) hx hb dN_make_1 (by decide) (by decide) rfl (by decide) ?_
  refine lv_aload_n hx hb dN_make_71 rfl (lv_at hl 0 rfl) ?_
  refine x_callr (x_runV (n := 0) (As := []) (rest := []) ⟨hx, hb, hml, hown, hts⟩ (cN_push l D tys A ws cI hI cR hCR ad kn n J B hn2 hr0) tw_498 tw_500 ts_N_push tw_6 tw_501 (by decide +kernel) rfl rfl ⟨by decide, by decide⟩ ⟨Nat.zero_le _, Nat.zero_le _⟩ (va_recv hK hP (ci := 3) (q0 := kn) rfl h0) hK hP hD hS hA hN rfl hl.1 rfl (lv_room (Nat.le_of_ble_eq_true rfl)) dN_make_72) hS (fun rpu ws_1 H locs hpu hP hD hS => ?_)
  obtain ⟨rfl, hF1, hr1⟩ := hpu
  have hT1 : x_rn kg kn ws ws_1 := fun j _ hj => hF1 j (by omega) (by omega) (by omega)
  have hG1 : GraphAt cI ad ws_1 kg g := hG.keep (a := kn) (b := kn + 75) (fun j hj => hF1 j (by omega) (by omega) (by omega)) (by omega)
  have hrw := hr1.2.2.2.1 n hn2
  rw [updJ_s] at hrw
  obtain ⟨fr1, hro1⟩ := hrw.obj
  obtain ⟨f1, hR1⟩ := id hrw
  obtain ⟨fg1, hgo1⟩ := hG1.obj
  obtain ⟨h01, ⟨fS1, h11, h21⟩, ⟨fB1, h31, h41⟩, h51, h61⟩ := id hr1
  refine lv_aload_n hx hb dN_make_75 rfl (lv_at hl 0 rfl) ?_
  refine va_get (D := D) (cl := xCl) (ci := 3) (v := .ref (ad (kn + 50))) (C := rnN) (T := tbN) (N := 3) hx hb hts inN hown hK hP kn h01 rfl 1 (by decide) (hts _ tw_137) (fun _ h9 => h9) rfl dN_make_76 ?_
  refine lv_iload_n hx hb dN_make_79 rfl (lv_at hl 2 rfl) ?_
  refine x_callr (x_runS (n := 2) (As := [.ref (ad (kn + 50)), .int (nI b)]) (rest := [.ref (ad (kn + 2 + 2 * n))]) ⟨hx, hb, hml, hown, hts⟩ (cN_rowAt l D tys A ws_1 cR hCR ad (kn + 50) 12 (by decide) (by decide) fB1 (fun i hi => ⟨_, h41 i hi⟩) (nI b) h31) tw_417 tw_418 tw_6 tw_419 (by decide +kernel) rfl rfl ⟨by decide, by decide⟩ ⟨Nat.zero_le _, Nat.zero_le _⟩ hK hP hD hS hA hN rfl hl.1 rfl (lv_room (Nat.le_of_ble_eq_true rfl)) dN_make_80) hS (fun rra ws_2 H locs hra hP hD hS => ?_)
  obtain ⟨hra, rfl⟩ := hra
  obtain rfl : rra = ad (kn + 51 + 2 * b) := by rw [clampI_nI hb12 (by omega), h41 _ hb12] at hra; exact (Option.some.inj hra).symm
  refine x_callv (x_runV (n := 1) (As := [.ref (ad (kn + 51 + 2 * b))]) (rest := []) ⟨hx, hb, hml, hown, hts⟩ (cR_copy l D tys A ws_1 cI hI ad (kn + 2 + 2 * n) (kn + 51 + 2 * b) [] (B b) (by omega) (by omega) (by omega) hrw (h61 b hb12)) tw_430 tw_431 tw_432 tw_7 tw_433 (by decide +kernel) rfl rfl ⟨by decide, by decide⟩ ⟨Nat.zero_le _, Nat.zero_le _⟩ (va_recv hK hP (ci := 2) (q0 := kn + 2 + 2 * n) rfl hro1) hK hP hD hS hA hN rfl hl.1 rfl (lv_room (Nat.le_of_ble_eq_true rfl)) dN_make_83) hS (fun ws_3 H locs hcp hP hD hS => ?_)
  refine lv_goto (tgt := 158) hx hb dN_make_86 (by decide) ?_
  exact x_vret hx hb hr hlk hK hP hD hS dN_make_158 ⟨hT1.tr (hcp.1.rn (by omega) (by omega)), hG1.keep hcp.1.fr (by omega), by have q := hr1.row hn2 hcp.1.on hcp.2; rw [updJ_2] at q; exact q⟩

set_option maxHeartbeats 4000000 in
set_option maxRecDepth 100000 in
theorem cN_make_5 (l : Launch) (D : va_G) (tys : List (ClassId × FieldType)) (A : Nat → Prop) (ws : va_W) (cI : ClassId) (hI : tys[0]? = some (cI, .int)) (cR : ClassId) (hCR : tys[2]? = some (cR, .object "GraphQuery$Row")) (ad : Nat → Nat) (kn n : Nat) (J B : Nat → List Nat) (kg : Nat) (hkg : kg + 9 ≤ kn) (g : Gr) (v : Int32) (hn2 : n < 24) (hG : GraphAt cI ad ws kg g) (hr0 : RunnerAt cI cR ad ws kn n J B) : x_Mv l yN_make wN_make (xR 5) D xCl tys A [.ref (ad kn), .int 5, .int v, .ref (ad kg)] ws (fun ws1 => x_rn kg kn ws ws1 ∧ GraphAt cI ad ws1 kg g ∧ RunnerAt cI cR ad ws1 kn (n + 1) (updJ J n (List.range g.length)) B) := by
  obtain ⟨fsG, hgo⟩ := hG.obj
  obtain ⟨h0, ⟨fS, h1, h2⟩, ⟨fB, h3, h4⟩, h5, h6⟩ := id hr0
  refine x_enter (by decide) rfl (Nat.le_of_ble_eq_true rfl) (fun p e s m args below meth c ls hx hb hr hlk hml hown hnm hts hK hP hD hS hA hN hl => ?_)
  have hl : lv_has ls 4 [(0, .ref (ad kn)), (1, .int 5), (2, .int v), (3, .ref (ad kg))] := hl
  refine lv_iload_n hx hb dN_make_0 rfl (lv_at hl 1 rfl) ?_
  refine lv_tableIn (tgt := 89) hx hb dN_make_1 (by decide) (by decide) rfl (by decide) ?_
  refine lv_aload_n hx hb dN_make_89 rfl (lv_at hl 3 rfl) ?_
  refine lv_aload_n hx hb dN_make_90 rfl (lv_at hl 0 rfl) ?_
  refine x_callr (x_runV (n := 0) (As := []) (rest := [.ref (ad kg)]) ⟨hx, hb, hml, hown, hts⟩ (cN_push l D tys A ws cI hI cR hCR ad kn n J B hn2 hr0) tw_498 tw_500 ts_N_push tw_6 tw_501 (by decide +kernel) rfl rfl ⟨by decide, by decide⟩ ⟨Nat.zero_le _, Nat.zero_le _⟩ (va_recv hK hP (ci := 3) (q0 := kn) rfl h0) hK hP hD hS hA hN rfl hl.1 rfl (lv_room (Nat.le_of_ble_eq_true rfl)) dN_make_91) hS (fun rpu ws_1 H locs hpu hP hD hS => ?_)
  obtain ⟨rfl, hF1, hr1⟩ := hpu
  have hT1 : x_rn kg kn ws ws_1 := fun j _ hj => hF1 j (by omega) (by omega) (by omega)
  have hG1 : GraphAt cI ad ws_1 kg g := hG.keep (a := kn) (b := kn + 75) (fun j hj => hF1 j (by omega) (by omega) (by omega)) (by omega)
  have hrw := hr1.2.2.2.1 n hn2
  rw [updJ_s] at hrw
  obtain ⟨fr1, hro1⟩ := hrw.obj
  obtain ⟨f1, hR1⟩ := id hrw
  obtain ⟨fg1, hgo1⟩ := hG1.obj
  obtain ⟨h01, ⟨fS1, h11, h21⟩, ⟨fB1, h31, h41⟩, h51, h61⟩ := id hr1
  refine x_callv (x_runV (n := 1) (As := [.ref (ad (kn + 2 + 2 * n))]) (rest := []) ⟨hx, hb, hml, hown, hts⟩ (cG_listAll l D tys A ws_1 cI hI ad kg (kn + 2 + 2 * n) (by omega) g [] hG1 hrw) tw_505 tw_506 tw_507 tw_2 tw_508 (by decide +kernel) rfl rfl ⟨by decide, by decide⟩ ⟨Nat.zero_le _, Nat.zero_le _⟩ (va_recv hK hP (ci := 0) (q0 := kg) rfl hgo1) hK hP hD hS hA hN rfl hl.1 rfl (lv_room (Nat.le_of_ble_eq_true rfl)) dN_make_94) hS (fun ws_2 H locs hla hP hD hS => ?_)
  refine lv_goto (tgt := 158) hx hb dN_make_97 (by decide) ?_
  exact x_vret hx hb hr hlk hK hP hD hS dN_make_158 ⟨hT1.tr (hla.1.rn (by omega) (by omega)), hG1.keep hla.1.fr (by omega), by have q := hr1.row hn2 hla.1.on (by have q := hla.2; rw [addL_range] at q; exact q); rw [updJ_2] at q; exact q⟩

set_option maxHeartbeats 4000000 in
set_option maxRecDepth 100000 in
theorem cN_make_6 (l : Launch) (D : va_G) (tys : List (ClassId × FieldType)) (A : Nat → Prop) (ws : va_W) (cI : ClassId) (hI : tys[0]? = some (cI, .int)) (cR : ClassId) (hCR : tys[2]? = some (cR, .object "GraphQuery$Row")) (ad : Nat → Nat) (kn n : Nat) (J B : Nat → List Nat) (kg : Nat) (hkg : kg + 9 ≤ kn) (g : Gr) (R : Nat) (hRR : R < 1000) (hn1 : 1 ≤ n) (hn2 : n ≤ 24) (hG : GraphAt cI ad ws kg g) (hr0 : RunnerAt cI cR ad ws kn n J B) : x_Mv l yN_make wN_make (xR 5) D xCl tys A [.ref (ad kn), .int 6, .int (nI R), .ref (ad kg)] ws (fun ws1 => x_rn kg kn ws ws1 ∧ GraphAt cI ad ws1 kg g ∧ RunnerAt cI cR ad ws1 kn n (updJ J (n - 1) (growR (gD g) R (J (n - 1)) 0)) B) := by
  obtain ⟨fsG, hgo⟩ := hG.obj
  obtain ⟨h0, ⟨fS, h1, h2⟩, ⟨fB, h3, h4⟩, h5, h6⟩ := id hr0
  refine x_enter (by decide) rfl (Nat.le_of_ble_eq_true rfl) (fun p e s m args below meth c ls hx hb hr hlk hml hown hnm hts hK hP hD hS hA hN hl => ?_)
  have hl : lv_has ls 4 [(0, .ref (ad kn)), (1, .int 6), (2, .int (nI R)), (3, .ref (ad kg))] := hl
  refine lv_iload_n hx hb dN_make_0 rfl (lv_at hl 1 rfl) ?_
  refine lv_tableIn (tgt := 100) hx hb dN_make_1 (by decide) (by decide) rfl (by decide) ?_
  refine lv_aload_n hx hb dN_make_100 rfl (lv_at hl 3 rfl) ?_
  refine lv_aload_n hx hb dN_make_101 rfl (lv_at hl 0 rfl) ?_
  refine x_callr (x_runV (n := 0) (As := []) (rest := [.ref (ad kg)]) ⟨hx, hb, hml, hown, hts⟩ (cN_result l D tys A ws cI hI cR hCR ad kn n J B hn1 hn2 hr0) tw_460 tw_461 tw_462 tw_6 tw_463 (by decide +kernel) rfl rfl ⟨by decide, by decide⟩ ⟨Nat.zero_le _, Nat.zero_le _⟩ (va_recv hK hP (ci := 3) (q0 := kn) rfl h0) hK hP hD hS hA hN rfl hl.1 rfl (lv_room (Nat.le_of_ble_eq_true rfl)) dN_make_102) hS (fun rre ws_1 H locs hre hP hD hS => ?_)
  obtain ⟨rfl, rfl⟩ := hre
  have hrw := hr0.2.2.2.1 (n - 1) (by omega)
  obtain ⟨fr1, hro1⟩ := hrw.obj
  refine lv_iload_n hx hb dN_make_105 rfl (lv_at hl 2 rfl) ?_
  refine x_callv (x_runV (n := 2) (As := [.ref (ad (kn + 2 + 2 * (n - 1))), .int (nI R)]) (rest := []) ⟨hx, hb, hml, hown, hts⟩ (cG_growByNeeds l D tys A ws cI hI ad kg (kn + 2 + 2 * (n - 1)) (by omega) g (J (n - 1)) R hRR hG hrw) tw_509 tw_510 tw_511 tw_2 tw_512 (by decide +kernel) rfl rfl ⟨by decide, by decide⟩ ⟨Nat.zero_le _, Nat.zero_le _⟩ (va_recv hK hP (ci := 0) (q0 := kg) rfl hgo) hK hP hD hS hA hN rfl hl.1 rfl (lv_room (Nat.le_of_ble_eq_true rfl)) dN_make_106) hS (fun ws_2 H locs hgr hP hD hS => ?_)
  refine lv_goto (tgt := 158) hx hb dN_make_109 (by decide) ?_
  exact x_vret hx hb hr hlk hK hP hD hS dN_make_158 ⟨hgr.1.rn (by omega) (by omega), hG.keep hgr.1.fr (by omega), hr0.row (by omega) hgr.1.on hgr.2⟩

set_option maxHeartbeats 4000000 in
set_option maxRecDepth 100000 in
theorem cN_make_7 (l : Launch) (D : va_G) (tys : List (ClassId × FieldType)) (A : Nat → Prop) (ws : va_W) (cI : ClassId) (hI : tys[0]? = some (cI, .int)) (cR : ClassId) (hCR : tys[2]? = some (cR, .object "GraphQuery$Row")) (ad : Nat → Nat) (kn n : Nat) (J B : Nat → List Nat) (kg : Nat) (hkg : kg + 9 ≤ kn) (g : Gr) (R : Nat) (hRR : R < 1000) (hn1 : 1 ≤ n) (hn2 : n ≤ 24) (hG : GraphAt cI ad ws kg g) (hr0 : RunnerAt cI cR ad ws kn n J B) : x_Mv l yN_make wN_make (xR 5) D xCl tys A [.ref (ad kn), .int 7, .int (nI R), .ref (ad kg)] ws (fun ws1 => x_rn kg kn ws ws1 ∧ GraphAt cI ad ws1 kg g ∧ RunnerAt cI cR ad ws1 kn n (updJ J (n - 1) (growR (gU g) R (J (n - 1)) 0)) B) := by
  obtain ⟨fsG, hgo⟩ := hG.obj
  obtain ⟨h0, ⟨fS, h1, h2⟩, ⟨fB, h3, h4⟩, h5, h6⟩ := id hr0
  refine x_enter (by decide) rfl (Nat.le_of_ble_eq_true rfl) (fun p e s m args below meth c ls hx hb hr hlk hml hown hnm hts hK hP hD hS hA hN hl => ?_)
  have hl : lv_has ls 4 [(0, .ref (ad kn)), (1, .int 7), (2, .int (nI R)), (3, .ref (ad kg))] := hl
  refine lv_iload_n hx hb dN_make_0 rfl (lv_at hl 1 rfl) ?_
  refine lv_tableIn (tgt := 112) hx hb dN_make_1 (by decide) (by decide) rfl (by decide) ?_
  refine lv_aload_n hx hb dN_make_112 rfl (lv_at hl 3 rfl) ?_
  refine lv_aload_n hx hb dN_make_113 rfl (lv_at hl 0 rfl) ?_
  refine x_callr (x_runV (n := 0) (As := []) (rest := [.ref (ad kg)]) ⟨hx, hb, hml, hown, hts⟩ (cN_result l D tys A ws cI hI cR hCR ad kn n J B hn1 hn2 hr0) tw_460 tw_461 tw_462 tw_6 tw_463 (by decide +kernel) rfl rfl ⟨by decide, by decide⟩ ⟨Nat.zero_le _, Nat.zero_le _⟩ (va_recv hK hP (ci := 3) (q0 := kn) rfl h0) hK hP hD hS hA hN rfl hl.1 rfl (lv_room (Nat.le_of_ble_eq_true rfl)) dN_make_114) hS (fun rre ws_1 H locs hre hP hD hS => ?_)
  obtain ⟨rfl, rfl⟩ := hre
  have hrw := hr0.2.2.2.1 (n - 1) (by omega)
  obtain ⟨fr1, hro1⟩ := hrw.obj
  refine lv_iload_n hx hb dN_make_117 rfl (lv_at hl 2 rfl) ?_
  refine x_callv (x_runV (n := 2) (As := [.ref (ad (kn + 2 + 2 * (n - 1))), .int (nI R)]) (rest := []) ⟨hx, hb, hml, hown, hts⟩ (cG_growByUsers l D tys A ws cI hI ad kg (kn + 2 + 2 * (n - 1)) (by omega) g (J (n - 1)) R hRR hG hrw) tw_517 tw_518 tw_519 tw_2 tw_520 (by decide +kernel) rfl rfl ⟨by decide, by decide⟩ ⟨Nat.zero_le _, Nat.zero_le _⟩ (va_recv hK hP (ci := 0) (q0 := kg) rfl hgo) hK hP hD hS hA hN rfl hl.1 rfl (lv_room (Nat.le_of_ble_eq_true rfl)) dN_make_118) hS (fun ws_2 H locs hgr hP hD hS => ?_)
  refine lv_goto (tgt := 158) hx hb dN_make_121 (by decide) ?_
  exact x_vret hx hb hr hlk hK hP hD hS dN_make_158 ⟨hgr.1.rn (by omega) (by omega), hG.keep hgr.1.fr (by omega), hr0.row (by omega) hgr.1.on hgr.2⟩

set_option maxHeartbeats 4000000 in
set_option maxRecDepth 100000 in
theorem cN_make_9 (l : Launch) (D : va_G) (tys : List (ClassId × FieldType)) (A : Nat → Prop) (ws : va_W) (cI : ClassId) (hI : tys[0]? = some (cI, .int)) (cR : ClassId) (hCR : tys[2]? = some (cR, .object "GraphQuery$Row")) (ad : Nat → Nat) (kn n : Nat) (J B : Nat → List Nat) (kg : Nat) (hkg : kg + 9 ≤ kn) (g : Gr) (v : Int32) (hn1 : 1 ≤ n) (hn2 : n ≤ 24) (hG : GraphAt cI ad ws kg g) (hr0 : RunnerAt cI cR ad ws kn n J B) : x_Mv l yN_make wN_make (xR 5) D xCl tys A [.ref (ad kn), .int 9, .int v, .ref (ad kg)] ws (fun ws1 => x_rn kg kn ws ws1 ∧ GraphAt cI ad ws1 kg g ∧ RunnerAt cI cR ad ws1 kn n (updJ J (n - 1) ((J (n - 1)).filter (fun t => decide (t < g.length ∧ nI (gK g t) = v)))) B) := by
  obtain ⟨fsG, hgo⟩ := hG.obj
  obtain ⟨h0, ⟨fS, h1, h2⟩, ⟨fB, h3, h4⟩, h5, h6⟩ := id hr0
  refine x_enter (by decide) rfl (Nat.le_of_ble_eq_true rfl) (fun p e s m args below meth c ls hx hb hr hlk hml hown hnm hts hK hP hD hS hA hN hl => ?_)
  have hl : lv_has ls 4 [(0, .ref (ad kn)), (1, .int 9), (2, .int v), (3, .ref (ad kg))] := hl
  refine lv_iload_n hx hb dN_make_0 rfl (lv_at hl 1 rfl) ?_
  refine lv_tableIn (tgt := 124) hx hb dN_make_1 (by decide) (by decide) rfl (by decide) ?_
  refine lv_aload_n hx hb dN_make_124 rfl (lv_at hl 3 rfl) ?_
  refine lv_aload_n hx hb dN_make_125 rfl (lv_at hl 0 rfl) ?_
  refine x_callr (x_runV (n := 0) (As := []) (rest := [.ref (ad kg)]) ⟨hx, hb, hml, hown, hts⟩ (cN_result l D tys A ws cI hI cR hCR ad kn n J B hn1 hn2 hr0) tw_460 tw_461 tw_462 tw_6 tw_463 (by decide +kernel) rfl rfl ⟨by decide, by decide⟩ ⟨Nat.zero_le _, Nat.zero_le _⟩ (va_recv hK hP (ci := 3) (q0 := kn) rfl h0) hK hP hD hS hA hN rfl hl.1 rfl (lv_room (Nat.le_of_ble_eq_true rfl)) dN_make_126) hS (fun rre ws_1 H locs hre hP hD hS => ?_)
  obtain ⟨rfl, rfl⟩ := hre
  have hrw := hr0.2.2.2.1 (n - 1) (by omega)
  obtain ⟨fr1, hro1⟩ := hrw.obj
  refine lv_iload_n hx hb dN_make_129 rfl (lv_at hl 2 rfl) ?_
  refine x_callv (x_runV (n := 2) (As := [.ref (ad (kn + 2 + 2 * (n - 1))), .int v]) (rest := []) ⟨hx, hb, hml, hown, hts⟩ (cG_keepKind l D tys A ws cI hI ad kg (kn + 2 + 2 * (n - 1)) (by omega) g (J (n - 1)) v hG hrw) tw_529 tw_530 tw_531 tw_2 tw_532 (by decide +kernel) rfl rfl ⟨by decide, by decide⟩ ⟨Nat.zero_le _, Nat.zero_le _⟩ (va_recv hK hP (ci := 0) (q0 := kg) rfl hgo) hK hP hD hS hA hN rfl hl.1 rfl (lv_room (Nat.le_of_ble_eq_true rfl)) dN_make_130) hS (fun ws_2 H locs hgr hP hD hS => ?_)
  refine lv_goto (tgt := 158) hx hb dN_make_133 (by decide) ?_
  exact x_vret hx hb hr hlk hK hP hD hS dN_make_158 ⟨hgr.1.rn (by omega) (by omega), hG.keep hgr.1.fr (by omega), hr0.row (by omega) hgr.1.on hgr.2⟩

set_option maxHeartbeats 4000000 in
set_option maxRecDepth 100000 in
theorem cN_make_10 (l : Launch) (D : va_G) (tys : List (ClassId × FieldType)) (A : Nat → Prop) (ws : va_W) (cI : ClassId) (hI : tys[0]? = some (cI, .int)) (cR : ClassId) (hCR : tys[2]? = some (cR, .object "GraphQuery$Row")) (ad : Nat → Nat) (kn n : Nat) (J B : Nat → List Nat) (kg : Nat) (hkg : kg + 9 ≤ kn) (g : Gr) (v : Int32) (hn1 : 1 ≤ n) (hn2 : n ≤ 24) (hG : GraphAt cI ad ws kg g) (hr0 : RunnerAt cI cR ad ws kn n J B) : x_Mv l yN_make wN_make (xR 5) D xCl tys A [.ref (ad kn), .int 10, .int v, .ref (ad kg)] ws (fun ws1 => x_rn kg kn ws ws1 ∧ GraphAt cI ad ws1 kg g ∧ RunnerAt cI cR ad ws1 kn n (updJ J (n - 1) (testS g (J (n - 1)))) B) := by
  obtain ⟨fsG, hgo⟩ := hG.obj
  obtain ⟨h0, ⟨fS, h1, h2⟩, ⟨fB, h3, h4⟩, h5, h6⟩ := id hr0
  refine x_enter (by decide) rfl (Nat.le_of_ble_eq_true rfl) (fun p e s m args below meth c ls hx hb hr hlk hml hown hnm hts hK hP hD hS hA hN hl => ?_)
  have hl : lv_has ls 4 [(0, .ref (ad kn)), (1, .int 10), (2, .int v), (3, .ref (ad kg))] := hl
  refine lv_iload_n hx hb dN_make_0 rfl (lv_at hl 1 rfl) ?_
  refine lv_tableIn (tgt := 136) hx hb dN_make_1 (by decide) (by decide) rfl (by decide) ?_
  refine lv_aload_n hx hb dN_make_136 rfl (lv_at hl 3 rfl) ?_
  refine lv_aload_n hx hb dN_make_137 rfl (lv_at hl 0 rfl) ?_
  refine x_callr (x_runV (n := 0) (As := []) (rest := [.ref (ad kg)]) ⟨hx, hb, hml, hown, hts⟩ (cN_result l D tys A ws cI hI cR hCR ad kn n J B hn1 hn2 hr0) tw_460 tw_461 tw_462 tw_6 tw_463 (by decide +kernel) rfl rfl ⟨by decide, by decide⟩ ⟨Nat.zero_le _, Nat.zero_le _⟩ (va_recv hK hP (ci := 3) (q0 := kn) rfl h0) hK hP hD hS hA hN rfl hl.1 rfl (lv_room (Nat.le_of_ble_eq_true rfl)) dN_make_138) hS (fun rre ws_1 H locs hre hP hD hS => ?_)
  obtain ⟨rfl, rfl⟩ := hre
  have hrw := hr0.2.2.2.1 (n - 1) (by omega)
  obtain ⟨fr1, hro1⟩ := hrw.obj
  refine x_callv (x_runV (n := 1) (As := [.ref (ad (kn + 2 + 2 * (n - 1)))]) (rest := []) ⟨hx, hb, hml, hown, hts⟩ (cG_findTests l D tys A ws cI hI ad kg (kn + 2 + 2 * (n - 1)) (by omega) g (J (n - 1)) hG hrw) tw_538 tw_539 tw_540 tw_2 tw_541 (by decide +kernel) rfl rfl ⟨by decide, by decide⟩ ⟨Nat.zero_le _, Nat.zero_le _⟩ (va_recv hK hP (ci := 0) (q0 := kg) rfl hgo) hK hP hD hS hA hN rfl hl.1 rfl (lv_room (Nat.le_of_ble_eq_true rfl)) dN_make_141) hS (fun ws_2 H locs hgr hP hD hS => ?_)
  refine lv_goto (tgt := 158) hx hb dN_make_144 (by decide) ?_
  exact x_vret hx hb hr hlk hK hP hD hS dN_make_158 ⟨hgr.1.rn (by omega) (by omega), hG.keep hgr.1.fr (by omega), hr0.row (by omega) hgr.1.on hgr.2⟩

set_option maxHeartbeats 4000000 in
set_option maxRecDepth 100000 in
theorem cN_make_11 (l : Launch) (D : va_G) (tys : List (ClassId × FieldType)) (A : Nat → Prop) (ws : va_W) (cI : ClassId) (hI : tys[0]? = some (cI, .int)) (cR : ClassId) (hCR : tys[2]? = some (cR, .object "GraphQuery$Row")) (ad : Nat → Nat) (kn n : Nat) (J B : Nat → List Nat) (kg : Nat) (hkg : kg + 9 ≤ kn) (g : Gr) (v : Int32) (hn1 : 1 ≤ n) (hn2 : n ≤ 24) (hG : GraphAt cI ad ws kg g) (hr0 : RunnerAt cI cR ad ws kn n J B) : x_Mv l yN_make wN_make (xR 5) D xCl tys A [.ref (ad kn), .int 11, .int v, .ref (ad kg)] ws (fun ws1 => x_rn kg kn ws ws1 ∧ GraphAt cI ad ws1 kg g ∧ RunnerAt cI cR ad ws1 kn n (updJ J (n - 1) (sameS g (J (n - 1)))) B) := by
  obtain ⟨fsG, hgo⟩ := hG.obj
  obtain ⟨h0, ⟨fS, h1, h2⟩, ⟨fB, h3, h4⟩, h5, h6⟩ := id hr0
  refine x_enter (by decide) rfl (Nat.le_of_ble_eq_true rfl) (fun p e s m args below meth c ls hx hb hr hlk hml hown hnm hts hK hP hD hS hA hN hl => ?_)
  have hl : lv_has ls 4 [(0, .ref (ad kn)), (1, .int 11), (2, .int v), (3, .ref (ad kg))] := hl
  refine lv_iload_n hx hb dN_make_0 rfl (lv_at hl 1 rfl) ?_
  refine lv_tableIn (tgt := 147) hx hb dN_make_1 (by decide) (by decide) rfl (by decide) ?_
  refine lv_aload_n hx hb dN_make_147 rfl (lv_at hl 3 rfl) ?_
  refine lv_aload_n hx hb dN_make_148 rfl (lv_at hl 0 rfl) ?_
  refine x_callr (x_runV (n := 0) (As := []) (rest := [.ref (ad kg)]) ⟨hx, hb, hml, hown, hts⟩ (cN_result l D tys A ws cI hI cR hCR ad kn n J B hn1 hn2 hr0) tw_460 tw_461 tw_462 tw_6 tw_463 (by decide +kernel) rfl rfl ⟨by decide, by decide⟩ ⟨Nat.zero_le _, Nat.zero_le _⟩ (va_recv hK hP (ci := 3) (q0 := kn) rfl h0) hK hP hD hS hA hN rfl hl.1 rfl (lv_room (Nat.le_of_ble_eq_true rfl)) dN_make_149) hS (fun rre ws_1 H locs hre hP hD hS => ?_)
  obtain ⟨rfl, rfl⟩ := hre
  have hrw := hr0.2.2.2.1 (n - 1) (by omega)
  obtain ⟨fr1, hro1⟩ := hrw.obj
  refine x_callv (x_runV (n := 1) (As := [.ref (ad (kn + 2 + 2 * (n - 1)))]) (rest := []) ⟨hx, hb, hml, hown, hts⟩ (cG_findSame l D tys A ws cI hI ad kg (kn + 2 + 2 * (n - 1)) (by omega) g (J (n - 1)) hG hrw) tw_547 tw_548 tw_549 tw_2 tw_550 (by decide +kernel) rfl rfl ⟨by decide, by decide⟩ ⟨Nat.zero_le _, Nat.zero_le _⟩ (va_recv hK hP (ci := 0) (q0 := kg) rfl hgo) hK hP hD hS hA hN rfl hl.1 rfl (lv_room (Nat.le_of_ble_eq_true rfl)) dN_make_152) hS (fun ws_2 H locs hgr hP hD hS => ?_)
  refine lv_goto (tgt := 158) hx hb dN_make_155 (by decide) ?_
  exact x_vret hx hb hr hlk hK hP hD hS dN_make_158 ⟨hgr.1.rn (by omega) (by omega), hG.keep hgr.1.fr (by omega), hr0.row (by omega) hgr.1.on hgr.2⟩

set_option maxHeartbeats 4000000 in
set_option maxRecDepth 100000 in
theorem cN_two_43 (l : Launch) (D : va_G) (tys : List (ClassId × FieldType)) (A : Nat → Prop) (ws : va_W) (cI : ClassId) (hI : tys[0]? = some (cI, .int)) (cR : ClassId) (hCR : tys[2]? = some (cR, .object "GraphQuery$Row")) (ad : Nat → Nat) (kn n : Nat) (J B : Nat → List Nat) (kg : Nat) (hkg : kg + 9 ≤ kn) (g : Gr) (hn1 : 2 ≤ n) (hn2 : n ≤ 24) (hG : GraphAt cI ad ws kg g) (hr0 : RunnerAt cI cR ad ws kn n J B) : x_Mv l yN_makeOfTwo wN_makeOfTwo (xR 4) D xCl tys A [.ref (ad kn), .int 43, .ref (ad kg)] ws (fun ws1 => x_rn kg kn ws ws1 ∧ GraphAt cI ad ws1 kg g ∧ RunnerAt cI cR ad ws1 kn (n - 1) (updJ J (n - 1 - 1) (addL (J (n - 1 - 1)) (J (n - 1)))) B) := by
  obtain ⟨fsG, hgo⟩ := hG.obj
  obtain ⟨h0, ⟨fS, h1, h2⟩, ⟨fB, h3, h4⟩, h5, h6⟩ := id hr0
  refine x_enter (by decide) rfl (Nat.le_of_ble_eq_true rfl) (fun p e s m args below meth c ls hx hb hr hlk hml hown hnm hts hK hP hD hS hA hN hl => ?_)
  have hl : lv_has ls 5 [(0, .ref (ad kn)), (1, .int 43), (2, .ref (ad kg))] := hl
  refine lv_aload_n hx hb dN_makeOfTwo_0 rfl (lv_at hl 0 rfl) ?_
  refine x_callr (x_runV (n := 0) (As := []) (rest := []) ⟨hx, hb, hml, hown, hts⟩ (cN_pop l D tys A ws cI hI cR hCR ad kn n J B (by omega) hn2 hr0) tw_426 tw_428 ts_N_pop tw_6 tw_429 (by decide +kernel) rfl rfl ⟨by decide, by decide⟩ ⟨Nat.zero_le _, Nat.zero_le _⟩ (va_recv hK hP (ci := 3) (q0 := kn) rfl h0) hK hP hD hS hA hN rfl hl.1 rfl (lv_room (Nat.le_of_ble_eq_true rfl)) dN_makeOfTwo_1) hS (fun rpo ws_1 H locs hpo hP hD hS => ?_)
  obtain ⟨rfl, hF1, hr1⟩ := hpo
  have hT1 : x_rn kg kn ws ws_1 := hF1.rn (by omega) (by omega)
  have hG1 := hG.keep hF1 (by omega)
  obtain ⟨fg1, hgo1⟩ := hG1.obj
  obtain ⟨h01, -⟩ := id hr1
  have hrR := hr1.2.2.2.1 (n - 1) (by omega)
  have hrL := hr1.2.2.2.1 (n - 1 - 1) (by omega)
  obtain ⟨fR1, hoR⟩ := hrR.obj
  obtain ⟨fL1, hoL⟩ := hrL.obj
  refine lv_astore_n (lv' := [(3, .ref (ad (kn + 2 + 2 * (n - 1)))), (0, .ref (ad kn)), (1, .int 43), (2, .ref (ad kg))]) hx hb dN_makeOfTwo_4 rfl hl (by decide) rfl (fun ls hl => ?_)
  refine lv_aload_n hx hb dN_makeOfTwo_5 rfl (lv_at hl 1 rfl) ?_
  refine x_callr (x_runV (n := 0) (As := []) (rest := []) ⟨hx, hb, hml, hown, hts⟩ (cN_result l D tys A ws_1 cI hI cR hCR ad kn (n - 1) J B (by omega) (by omega) hr1) tw_460 tw_461 tw_462 tw_6 tw_463 (by decide +kernel) rfl rfl ⟨by decide, by decide⟩ ⟨Nat.zero_le _, Nat.zero_le _⟩ (va_recv hK hP (ci := 3) (q0 := kn) rfl h01) hK hP hD hS hA hN rfl hl.1 rfl (lv_room (Nat.le_of_ble_eq_true rfl)) dN_makeOfTwo_6) hS (fun rre ws_2 H locs hre hP hD hS => ?_)
  obtain ⟨rfl, rfl⟩ := hre
  refine lv_astore (lv' := [(4, .ref (ad (kn + 2 + 2 * (n - 1 - 1)))), (3, .ref (ad (kn + 2 + 2 * (n - 1)))), (0, .ref (ad kn)), (1, .int 43), (2, .ref (ad kg))]) hx hb dN_makeOfTwo_9 hl (by decide) rfl (fun ls hl => ?_)
  refine lv_iload_n hx hb dN_makeOfTwo_11 rfl (lv_at hl 3 rfl) ?_
  refine lv_lookup (off := 44) (tgt := 56) hx hb dN_makeOfTwo_12 (by decide) (by decide) (by decide) ?_
  refine lv_aload hx hb dN_makeOfTwo_56 (lv_at hl 0 rfl) ?_
  refine lv_aload_n hx hb dN_makeOfTwo_58 rfl (lv_at hl 1 rfl) ?_
  refine x_callv (x_runV (n := 1) (As := [.ref (ad (kn + 2 + 2 * (n - 1)))]) (rest := []) ⟨hx, hb, hml, hown, hts⟩ (cR_addAll l D tys A ws_1 cI hI ad (kn + 2 + 2 * (n - 1 - 1)) (kn + 2 + 2 * (n - 1)) (J (n - 1 - 1)) (J (n - 1)) (by omega) (by omega) (by omega) hrL hrR) tw_464 tw_439 tw_440 tw_7 tw_441 (by decide +kernel) rfl rfl ⟨by decide, by decide⟩ ⟨Nat.zero_le _, Nat.zero_le _⟩ (va_recv hK hP (ci := 2) (q0 := kn + 2 + 2 * (n - 1 - 1)) rfl hoL) hK hP hD hS hA hN rfl hl.1 rfl (lv_room (Nat.le_of_ble_eq_true rfl)) dN_makeOfTwo_59) hS (fun ws_3 H locs hop hP hD hS => ?_)
  refine lv_goto (tgt := 101) hx hb dN_makeOfTwo_62 (by decide) ?_
  exact x_vret hx hb hr hlk hK hP hD hS dN_makeOfTwo_101 ⟨hT1.tr (hop.1.rn (by omega) (by omega)), hG1.keep hop.1.fr (by omega), hr1.row (by omega) hop.1.on hop.2⟩

set_option maxHeartbeats 4000000 in
set_option maxRecDepth 100000 in
theorem cN_two_45 (l : Launch) (D : va_G) (tys : List (ClassId × FieldType)) (A : Nat → Prop) (ws : va_W) (cI : ClassId) (hI : tys[0]? = some (cI, .int)) (cR : ClassId) (hCR : tys[2]? = some (cR, .object "GraphQuery$Row")) (ad : Nat → Nat) (kn n : Nat) (J B : Nat → List Nat) (kg : Nat) (hkg : kg + 9 ≤ kn) (g : Gr) (hn1 : 2 ≤ n) (hn2 : n ≤ 24) (hG : GraphAt cI ad ws kg g) (hr0 : RunnerAt cI cR ad ws kn n J B) : x_Mv l yN_makeOfTwo wN_makeOfTwo (xR 4) D xCl tys A [.ref (ad kn), .int 45, .ref (ad kg)] ws (fun ws1 => x_rn kg kn ws ws1 ∧ GraphAt cI ad ws1 kg g ∧ RunnerAt cI cR ad ws1 kn (n - 1) (updJ J (n - 1 - 1) ((J (n - 1 - 1)).filter (fun t => !decide (t ∈ J (n - 1))))) B) := by
  obtain ⟨fsG, hgo⟩ := hG.obj
  obtain ⟨h0, ⟨fS, h1, h2⟩, ⟨fB, h3, h4⟩, h5, h6⟩ := id hr0
  refine x_enter (by decide) rfl (Nat.le_of_ble_eq_true rfl) (fun p e s m args below meth c ls hx hb hr hlk hml hown hnm hts hK hP hD hS hA hN hl => ?_)
  have hl : lv_has ls 5 [(0, .ref (ad kn)), (1, .int 45), (2, .ref (ad kg))] := hl
  refine lv_aload_n hx hb dN_makeOfTwo_0 rfl (lv_at hl 0 rfl) ?_
  refine x_callr (x_runV (n := 0) (As := []) (rest := []) ⟨hx, hb, hml, hown, hts⟩ (cN_pop l D tys A ws cI hI cR hCR ad kn n J B (by omega) hn2 hr0) tw_426 tw_428 ts_N_pop tw_6 tw_429 (by decide +kernel) rfl rfl ⟨by decide, by decide⟩ ⟨Nat.zero_le _, Nat.zero_le _⟩ (va_recv hK hP (ci := 3) (q0 := kn) rfl h0) hK hP hD hS hA hN rfl hl.1 rfl (lv_room (Nat.le_of_ble_eq_true rfl)) dN_makeOfTwo_1) hS (fun rpo ws_1 H locs hpo hP hD hS => ?_)
  obtain ⟨rfl, hF1, hr1⟩ := hpo
  have hT1 : x_rn kg kn ws ws_1 := hF1.rn (by omega) (by omega)
  have hG1 := hG.keep hF1 (by omega)
  obtain ⟨fg1, hgo1⟩ := hG1.obj
  obtain ⟨h01, -⟩ := id hr1
  have hrR := hr1.2.2.2.1 (n - 1) (by omega)
  have hrL := hr1.2.2.2.1 (n - 1 - 1) (by omega)
  obtain ⟨fR1, hoR⟩ := hrR.obj
  obtain ⟨fL1, hoL⟩ := hrL.obj
  refine lv_astore_n (lv' := [(3, .ref (ad (kn + 2 + 2 * (n - 1)))), (0, .ref (ad kn)), (1, .int 45), (2, .ref (ad kg))]) hx hb dN_makeOfTwo_4 rfl hl (by decide) rfl (fun ls hl => ?_)
  refine lv_aload_n hx hb dN_makeOfTwo_5 rfl (lv_at hl 1 rfl) ?_
  refine x_callr (x_runV (n := 0) (As := []) (rest := []) ⟨hx, hb, hml, hown, hts⟩ (cN_result l D tys A ws_1 cI hI cR hCR ad kn (n - 1) J B (by omega) (by omega) hr1) tw_460 tw_461 tw_462 tw_6 tw_463 (by decide +kernel) rfl rfl ⟨by decide, by decide⟩ ⟨Nat.zero_le _, Nat.zero_le _⟩ (va_recv hK hP (ci := 3) (q0 := kn) rfl h01) hK hP hD hS hA hN rfl hl.1 rfl (lv_room (Nat.le_of_ble_eq_true rfl)) dN_makeOfTwo_6) hS (fun rre ws_2 H locs hre hP hD hS => ?_)
  obtain ⟨rfl, rfl⟩ := hre
  refine lv_astore (lv' := [(4, .ref (ad (kn + 2 + 2 * (n - 1 - 1)))), (3, .ref (ad (kn + 2 + 2 * (n - 1)))), (0, .ref (ad kn)), (1, .int 45), (2, .ref (ad kg))]) hx hb dN_makeOfTwo_9 hl (by decide) rfl (fun ls hl => ?_)
  refine lv_iload_n hx hb dN_makeOfTwo_11 rfl (lv_at hl 3 rfl) ?_
  refine lv_lookup (off := 53) (tgt := 65) hx hb dN_makeOfTwo_12 (by decide) (by decide) (by decide) ?_
  refine lv_aload hx hb dN_makeOfTwo_65 (lv_at hl 0 rfl) ?_
  refine lv_aload_n hx hb dN_makeOfTwo_67 rfl (lv_at hl 1 rfl) ?_
  refine x_calli (x_runV (n := 0) (As := []) (rest := [.ref (ad (kn + 2 + 2 * (n - 1 - 1)))]) ⟨hx, hb, hml, hown, hts⟩ (cR_mask l D tys A ws_1 cI hI ad (kn + 2 + 2 * (n - 1)) (J (n - 1)) hrR) tw_465 tw_466 tw_467 tw_7 tw_468 (by decide +kernel) rfl rfl ⟨by decide, by decide⟩ ⟨Nat.zero_le _, Nat.zero_le _⟩ (va_recv hK hP (ci := 2) (q0 := kn + 2 + 2 * (n - 1)) rfl hoR) hK hP hD hS hA hN rfl hl.1 rfl (lv_room (Nat.le_of_ble_eq_true rfl)) dN_makeOfTwo_68) hS (fun rmk ws_3 H locs hmk hP hD hS => ?_)
  obtain ⟨hmk, rfl⟩ := hmk
  refine lv_iconst (v := (-1)) hx hb dN_makeOfTwo_71 (by decide) ?_
  refine lv_ixor hx hb dN_makeOfTwo_72 ?_
  refine lv_topi (fun v_4 ev_4 => ?_)
  refine x_callv (x_runV (n := 1) (As := [.int v_4]) (rest := []) ⟨hx, hb, hml, hown, hts⟩ (cR_keep l D tys A ws_1 cI hI ad (kn + 2 + 2 * (n - 1 - 1)) (J (n - 1 - 1)) v_4 hrL) tw_469 tw_470 tw_471 tw_7 tw_472 (by decide +kernel) rfl rfl ⟨by decide, by decide⟩ ⟨Nat.zero_le _, Nat.zero_le _⟩ (va_recv hK hP (ci := 2) (q0 := kn + 2 + 2 * (n - 1 - 1)) rfl hoL) hK hP hD hS hA hN rfl hl.1 rfl (lv_room (Nat.le_of_ble_eq_true rfl)) dN_makeOfTwo_73) hS (fun ws_5 H locs hop hP hD hS => ?_)
  refine lv_goto (tgt := 101) hx hb dN_makeOfTwo_76 (by decide) ?_
  exact x_vret hx hb hr hlk hK hP hD hS dN_makeOfTwo_101 ⟨hT1.tr (hop.1.rn (by omega) (by omega)), hG1.keep hop.1.fr (by omega), hr1.row (by omega) hop.1.on (by have q := hop.2; rw [fm_not hmk ev_4 hrL.lt] at q; exact q)⟩

set_option maxHeartbeats 4000000 in
set_option maxRecDepth 100000 in
theorem cN_two_38 (l : Launch) (D : va_G) (tys : List (ClassId × FieldType)) (A : Nat → Prop) (ws : va_W) (cI : ClassId) (hI : tys[0]? = some (cI, .int)) (cR : ClassId) (hCR : tys[2]? = some (cR, .object "GraphQuery$Row")) (ad : Nat → Nat) (kn n : Nat) (J B : Nat → List Nat) (kg : Nat) (hkg : kg + 9 ≤ kn) (g : Gr) (hn1 : 2 ≤ n) (hn2 : n ≤ 24) (hG : GraphAt cI ad ws kg g) (hr0 : RunnerAt cI cR ad ws kn n J B) : x_Mv l yN_makeOfTwo wN_makeOfTwo (xR 4) D xCl tys A [.ref (ad kn), .int 38, .ref (ad kg)] ws (fun ws1 => x_rn kg kn ws ws1 ∧ GraphAt cI ad ws1 kg g ∧ RunnerAt cI cR ad ws1 kn (n - 1) (updJ J (n - 1 - 1) ((J (n - 1 - 1)).filter (fun t => decide (t ∈ J (n - 1))))) B) := by
  obtain ⟨fsG, hgo⟩ := hG.obj
  obtain ⟨h0, ⟨fS, h1, h2⟩, ⟨fB, h3, h4⟩, h5, h6⟩ := id hr0
  refine x_enter (by decide) rfl (Nat.le_of_ble_eq_true rfl) (fun p e s m args below meth c ls hx hb hr hlk hml hown hnm hts hK hP hD hS hA hN hl => ?_)
  have hl : lv_has ls 5 [(0, .ref (ad kn)), (1, .int 38), (2, .ref (ad kg))] := hl
  refine lv_aload_n hx hb dN_makeOfTwo_0 rfl (lv_at hl 0 rfl) ?_
  refine x_callr (x_runV (n := 0) (As := []) (rest := []) ⟨hx, hb, hml, hown, hts⟩ (cN_pop l D tys A ws cI hI cR hCR ad kn n J B (by omega) hn2 hr0) tw_426 tw_428 ts_N_pop tw_6 tw_429 (by decide +kernel) rfl rfl ⟨by decide, by decide⟩ ⟨Nat.zero_le _, Nat.zero_le _⟩ (va_recv hK hP (ci := 3) (q0 := kn) rfl h0) hK hP hD hS hA hN rfl hl.1 rfl (lv_room (Nat.le_of_ble_eq_true rfl)) dN_makeOfTwo_1) hS (fun rpo ws_1 H locs hpo hP hD hS => ?_)
  obtain ⟨rfl, hF1, hr1⟩ := hpo
  have hT1 : x_rn kg kn ws ws_1 := hF1.rn (by omega) (by omega)
  have hG1 := hG.keep hF1 (by omega)
  obtain ⟨fg1, hgo1⟩ := hG1.obj
  obtain ⟨h01, -⟩ := id hr1
  have hrR := hr1.2.2.2.1 (n - 1) (by omega)
  have hrL := hr1.2.2.2.1 (n - 1 - 1) (by omega)
  obtain ⟨fR1, hoR⟩ := hrR.obj
  obtain ⟨fL1, hoL⟩ := hrL.obj
  refine lv_astore_n (lv' := [(3, .ref (ad (kn + 2 + 2 * (n - 1)))), (0, .ref (ad kn)), (1, .int 38), (2, .ref (ad kg))]) hx hb dN_makeOfTwo_4 rfl hl (by decide) rfl (fun ls hl => ?_)
  refine lv_aload_n hx hb dN_makeOfTwo_5 rfl (lv_at hl 1 rfl) ?_
  refine x_callr (x_runV (n := 0) (As := []) (rest := []) ⟨hx, hb, hml, hown, hts⟩ (cN_result l D tys A ws_1 cI hI cR hCR ad kn (n - 1) J B (by omega) (by omega) hr1) tw_460 tw_461 tw_462 tw_6 tw_463 (by decide +kernel) rfl rfl ⟨by decide, by decide⟩ ⟨Nat.zero_le _, Nat.zero_le _⟩ (va_recv hK hP (ci := 3) (q0 := kn) rfl h01) hK hP hD hS hA hN rfl hl.1 rfl (lv_room (Nat.le_of_ble_eq_true rfl)) dN_makeOfTwo_6) hS (fun rre ws_2 H locs hre hP hD hS => ?_)
  obtain ⟨rfl, rfl⟩ := hre
  refine lv_astore (lv' := [(4, .ref (ad (kn + 2 + 2 * (n - 1 - 1)))), (3, .ref (ad (kn + 2 + 2 * (n - 1)))), (0, .ref (ad kn)), (1, .int 38), (2, .ref (ad kg))]) hx hb dN_makeOfTwo_9 hl (by decide) rfl (fun ls hl => ?_)
  refine lv_iload_n hx hb dN_makeOfTwo_11 rfl (lv_at hl 3 rfl) ?_
  refine lv_lookup (off := 67) (tgt := 79) hx hb dN_makeOfTwo_12 (by decide) (by decide) (by decide) ?_
  refine lv_aload hx hb dN_makeOfTwo_79 (lv_at hl 0 rfl) ?_
  refine lv_aload_n hx hb dN_makeOfTwo_81 rfl (lv_at hl 1 rfl) ?_
  refine x_calli (x_runV (n := 0) (As := []) (rest := [.ref (ad (kn + 2 + 2 * (n - 1 - 1)))]) ⟨hx, hb, hml, hown, hts⟩ (cR_mask l D tys A ws_1 cI hI ad (kn + 2 + 2 * (n - 1)) (J (n - 1)) hrR) tw_465 tw_466 tw_467 tw_7 tw_468 (by decide +kernel) rfl rfl ⟨by decide, by decide⟩ ⟨Nat.zero_le _, Nat.zero_le _⟩ (va_recv hK hP (ci := 2) (q0 := kn + 2 + 2 * (n - 1)) rfl hoR) hK hP hD hS hA hN rfl hl.1 rfl (lv_room (Nat.le_of_ble_eq_true rfl)) dN_makeOfTwo_82) hS (fun rmk ws_3 H locs hmk hP hD hS => ?_)
  obtain ⟨hmk, rfl⟩ := hmk
  refine x_callv (x_runV (n := 1) (As := [.int rmk]) (rest := []) ⟨hx, hb, hml, hown, hts⟩ (cR_keep l D tys A ws_1 cI hI ad (kn + 2 + 2 * (n - 1 - 1)) (J (n - 1 - 1)) rmk hrL) tw_469 tw_470 tw_471 tw_7 tw_472 (by decide +kernel) rfl rfl ⟨by decide, by decide⟩ ⟨Nat.zero_le _, Nat.zero_le _⟩ (va_recv hK hP (ci := 2) (q0 := kn + 2 + 2 * (n - 1 - 1)) rfl hoL) hK hP hD hS hA hN rfl hl.1 rfl (lv_room (Nat.le_of_ble_eq_true rfl)) dN_makeOfTwo_85) hS (fun ws_4 H locs hop hP hD hS => ?_)
  refine lv_goto (tgt := 101) hx hb dN_makeOfTwo_88 (by decide) ?_
  exact x_vret hx hb hr hlk hK hP hD hS dN_makeOfTwo_101 ⟨hT1.tr (hop.1.rn (by omega) (by omega)), hG1.keep hop.1.fr (by omega), hr1.row (by omega) hop.1.on (by have q := hop.2; rw [fm_and hmk hrL.lt] at q; exact q)⟩

set_option maxHeartbeats 4000000 in
set_option maxRecDepth 100000 in
theorem cN_two_8 (l : Launch) (D : va_G) (tys : List (ClassId × FieldType)) (A : Nat → Prop) (ws : va_W) (cI : ClassId) (hI : tys[0]? = some (cI, .int)) (cR : ClassId) (hCR : tys[2]? = some (cR, .object "GraphQuery$Row")) (ad : Nat → Nat) (kn n : Nat) (J B : Nat → List Nat) (kg : Nat) (hkg : kg + 9 ≤ kn) (g : Gr) (hn1 : 2 ≤ n) (hn2 : n ≤ 24) (hG : GraphAt cI ad ws kg g) (hr0 : RunnerAt cI cR ad ws kn n J B) : x_Mv l yN_makeOfTwo wN_makeOfTwo (xR 4) D xCl tys A [.ref (ad kn), .int 8, .ref (ad kg)] ws (fun ws1 => x_rn kg kn ws ws1 ∧ GraphAt cI ad ws1 kg g ∧ RunnerAt cI cR ad ws1 kn (n - 1) (updJ J (n - 1 - 1) (wayF g (J (n - 1 - 1)) (J (n - 1)))) B) := by
  obtain ⟨fsG, hgo⟩ := hG.obj
  obtain ⟨h0, ⟨fS, h1, h2⟩, ⟨fB, h3, h4⟩, h5, h6⟩ := id hr0
  refine x_enter (by decide) rfl (Nat.le_of_ble_eq_true rfl) (fun p e s m args below meth c ls hx hb hr hlk hml hown hnm hts hK hP hD hS hA hN hl => ?_)
  have hl : lv_has ls 5 [(0, .ref (ad kn)), (1, .int 8), (2, .ref (ad kg))] := hl
  refine lv_aload_n hx hb dN_makeOfTwo_0 rfl (lv_at hl 0 rfl) ?_
  refine x_callr (x_runV (n := 0) (As := []) (rest := []) ⟨hx, hb, hml, hown, hts⟩ (cN_pop l D tys A ws cI hI cR hCR ad kn n J B (by omega) hn2 hr0) tw_426 tw_428 ts_N_pop tw_6 tw_429 (by decide +kernel) rfl rfl ⟨by decide, by decide⟩ ⟨Nat.zero_le _, Nat.zero_le _⟩ (va_recv hK hP (ci := 3) (q0 := kn) rfl h0) hK hP hD hS hA hN rfl hl.1 rfl (lv_room (Nat.le_of_ble_eq_true rfl)) dN_makeOfTwo_1) hS (fun rpo ws_1 H locs hpo hP hD hS => ?_)
  obtain ⟨rfl, hF1, hr1⟩ := hpo
  have hT1 : x_rn kg kn ws ws_1 := hF1.rn (by omega) (by omega)
  have hG1 := hG.keep hF1 (by omega)
  obtain ⟨fg1, hgo1⟩ := hG1.obj
  obtain ⟨h01, -⟩ := id hr1
  have hrR := hr1.2.2.2.1 (n - 1) (by omega)
  have hrL := hr1.2.2.2.1 (n - 1 - 1) (by omega)
  obtain ⟨fR1, hoR⟩ := hrR.obj
  obtain ⟨fL1, hoL⟩ := hrL.obj
  refine lv_astore_n (lv' := [(3, .ref (ad (kn + 2 + 2 * (n - 1)))), (0, .ref (ad kn)), (1, .int 8), (2, .ref (ad kg))]) hx hb dN_makeOfTwo_4 rfl hl (by decide) rfl (fun ls hl => ?_)
  refine lv_aload_n hx hb dN_makeOfTwo_5 rfl (lv_at hl 1 rfl) ?_
  refine x_callr (x_runV (n := 0) (As := []) (rest := []) ⟨hx, hb, hml, hown, hts⟩ (cN_result l D tys A ws_1 cI hI cR hCR ad kn (n - 1) J B (by omega) (by omega) hr1) tw_460 tw_461 tw_462 tw_6 tw_463 (by decide +kernel) rfl rfl ⟨by decide, by decide⟩ ⟨Nat.zero_le _, Nat.zero_le _⟩ (va_recv hK hP (ci := 3) (q0 := kn) rfl h01) hK hP hD hS hA hN rfl hl.1 rfl (lv_room (Nat.le_of_ble_eq_true rfl)) dN_makeOfTwo_6) hS (fun rre ws_2 H locs hre hP hD hS => ?_)
  obtain ⟨rfl, rfl⟩ := hre
  refine lv_astore (lv' := [(4, .ref (ad (kn + 2 + 2 * (n - 1 - 1)))), (3, .ref (ad (kn + 2 + 2 * (n - 1)))), (0, .ref (ad kn)), (1, .int 8), (2, .ref (ad kg))]) hx hb dN_makeOfTwo_9 hl (by decide) rfl (fun ls hl => ?_)
  refine lv_iload_n hx hb dN_makeOfTwo_11 rfl (lv_at hl 3 rfl) ?_
  refine lv_lookup (off := 79) (tgt := 91) hx hb dN_makeOfTwo_12 (by decide) (by decide) (by decide) ?_
  refine lv_aload_n hx hb dN_makeOfTwo_91 rfl (lv_at hl 4 rfl) ?_
  refine lv_aload hx hb dN_makeOfTwo_92 (lv_at hl 0 rfl) ?_
  refine lv_aload_n hx hb dN_makeOfTwo_94 rfl (lv_at hl 1 rfl) ?_
  refine x_callv (x_runV (n := 2) (As := [.ref (ad (kn + 2 + 2 * (n - 1 - 1))), .ref (ad (kn + 2 + 2 * (n - 1)))]) (rest := []) ⟨hx, hb, hml, hown, hts⟩ (cG_findWay l D tys A ws_1 cI hI ad kg (kn + 2 + 2 * (n - 1 - 1)) (kn + 2 + 2 * (n - 1)) (by omega) (by omega) (by omega) g (J (n - 1 - 1)) (J (n - 1)) hG1 hrL hrR) tw_473 tw_474 tw_475 tw_2 tw_476 (by decide +kernel) rfl rfl ⟨by decide, by decide⟩ ⟨Nat.zero_le _, Nat.zero_le _⟩ (va_recv hK hP (ci := 0) (q0 := kg) rfl hgo1) hK hP hD hS hA hN rfl hl.1 rfl (lv_room (Nat.le_of_ble_eq_true rfl)) dN_makeOfTwo_95) hS (fun ws_3 H locs hwy hP hD hS => ?_)
  refine lv_goto (tgt := 101) hx hb dN_makeOfTwo_98 (by decide) ?_
  exact x_vret hx hb hr hlk hK hP hD hS dN_makeOfTwo_101 ⟨hT1.tr (hwy.1.rn (by omega) (by omega)), hwy.2.1, hwy.2.2.elim (fun cb0 h9 => hr1.row (by omega) (hwy.1.on (by omega)) (by have q := h9.2; rw [wayS_F h9.1] at q; exact q))⟩
