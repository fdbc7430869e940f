-- ===== a program's run =====
/-- how many lists stand, the stack's rows, the bound rows, how many targets were looked at -/
abbrev RS : Type := Nat × (Nat → List Nat) × (Nat → List Nat) × Nat
def oneX (g : Gr) (B : Nat → List Nat) (K v : Int32) (L : List Nat) : List Nat :=
  if K = 2 then addI [] (gNoI g v) else if K = 3 then B v.toInt.toNat else if K = 5 then List.range g.length else if K = 6 then growR (gD g) v.toInt.toNat L 0 else if K = 7 then growR (gU g) v.toInt.toNat L 0 else if K = 9 then L.filter (fun t => decide (t < g.length ∧ nI (gK g t) = v)) else if K = 10 then testS g L else sameS g L
def twoX (g : Gr) (K : Int32) (L R : List Nat) : List Nat :=
  if K = 43 then addL L R else if K = 45 then L.filter (fun t => !decide (t ∈ R)) else if K = 38 then L.filter (fun t => decide (t ∈ R)) else wayF g L R
def rstep (g : Gr) (q : RS) (t : Tok) : RS :=
  if t.1 = 12 then (q.1 - 1, q.2.1, updJ q.2.2.1 t.2.1.toInt.toNat (q.2.1 (q.1 - 1)), q.2.2.2)
  else if t.1 = 43 ∨ t.1 = 45 ∨ t.1 = 38 ∨ t.1 = 8 then (q.1 - 1, updJ q.2.1 (q.1 - 1 - 1) (twoX g t.1 (q.2.1 (q.1 - 1 - 1)) (q.2.1 (q.1 - 1))), q.2.2.1, q.2.2.2 + (twoX g t.1 (q.2.1 (q.1 - 1 - 1)) (q.2.1 (q.1 - 1))).length)
  else if t.1 = 2 ∨ t.1 = 3 ∨ t.1 = 5 then (q.1 + 1, updJ q.2.1 q.1 (oneX g q.2.2.1 t.1 t.2.1 []), q.2.2.1, q.2.2.2 + (oneX g q.2.2.1 t.1 t.2.1 []).length)
  else (q.1, updJ q.2.1 (q.1 - 1) (oneX g q.2.2.1 t.1 t.2.1 (q.2.1 (q.1 - 1))), q.2.2.1, q.2.2.2 + (oneX g q.2.2.1 t.1 t.2.1 (q.2.1 (q.1 - 1))).length)
/-- a step that may be made with n lists on the stack -/
def rok2 (n : Nat) (t : Tok) : Prop := (t.1 = 43 ∨ t.1 = 45 ∨ t.1 = 38 ∨ t.1 = 8) ∧ 2 ≤ n ∧ n ≤ 24
def rok1 (n : Nat) (t : Tok) : Prop := (t.1 = 2 ∧ n < 24) ∨ (t.1 = 3 ∧ n < 24 ∧ ∃ b : Nat, b < 12 ∧ t.2.1 = nI b) ∨ (t.1 = 5 ∧ n < 24) ∨ ((t.1 = 6 ∨ t.1 = 7) ∧ 1 ≤ n ∧ n ≤ 24 ∧ ∃ R : Nat, R < 1000 ∧ t.2.1 = nI R) ∨ ((t.1 = 9 ∨ t.1 = 10 ∨ t.1 = 11) ∧ 1 ≤ n ∧ n ≤ 24)
def rok (n : Nat) (t : Tok) : Prop := (t.1 = 12 ∧ 1 ≤ n ∧ n ≤ 24 ∧ ∃ b : Nat, b < 12 ∧ t.2.1 = nI b) ∨ rok2 n t ∨ rok1 n t
theorem rs_two {g : Gr} {q : RS} {t : Tok} (h : t.1 = 43 ∨ t.1 = 45 ∨ t.1 = 38 ∨ t.1 = 8) : rstep g q t = (q.1 - 1, updJ q.2.1 (q.1 - 1 - 1) (twoX g t.1 (q.2.1 (q.1 - 1 - 1)) (q.2.1 (q.1 - 1))), q.2.2.1, q.2.2.2 + (twoX g t.1 (q.2.1 (q.1 - 1 - 1)) (q.2.1 (q.1 - 1))).length) := by
  unfold rstep
  rw [if_neg (by rcases h with h | h | h | h <;> rw [h] <;> decide), if_pos h]
theorem rs_push {g : Gr} {q : RS} {t : Tok} (h : t.1 = 2 ∨ t.1 = 3 ∨ t.1 = 5) : rstep g q t = (q.1 + 1, updJ q.2.1 q.1 (oneX g q.2.2.1 t.1 t.2.1 []), q.2.2.1, q.2.2.2 + (oneX g q.2.2.1 t.1 t.2.1 []).length) := by
  unfold rstep
  rw [if_neg (by rcases h with h | h | h <;> rw [h] <;> decide), if_neg (by rcases h with h | h | h <;> rw [h] <;> decide), if_pos h]
theorem rs_top {g : Gr} {q : RS} {t : Tok} (h : t.1 = 6 ∨ t.1 = 7 ∨ t.1 = 9 ∨ t.1 = 10 ∨ t.1 = 11) : rstep g q t = (q.1, updJ q.2.1 (q.1 - 1) (oneX g q.2.2.1 t.1 t.2.1 (q.2.1 (q.1 - 1))), q.2.2.1, q.2.2.2 + (oneX g q.2.2.1 t.1 t.2.1 (q.2.1 (q.1 - 1))).length) := by
  unfold rstep
  rw [if_neg (by rcases h with h | h | h | h | h <;> rw [h] <;> decide), if_neg (by rcases h with h | h | h | h | h <;> rw [h] <;> decide), if_neg (by rcases h with h | h | h | h | h <;> rw [h] <;> decide)]
theorem rs_let {g : Gr} {q : RS} {t : Tok} (h : t.1 = 12) : rstep g q t = (q.1 - 1, q.2.1, updJ q.2.2.1 t.2.1.toInt.toNat (q.2.1 (q.1 - 1)), q.2.2.2) := if_pos h
/-- behind a step that isn't a let: the top list is what came, and was counted -/
theorem rs_lk {g : Gr} {q : RS} {t : Tok} (h : rok2 q.1 t ∨ rok1 q.1 t) : 1 ≤ (rstep g q t).1 ∧ (rstep g q t).1 ≤ 24 ∧ (rstep g q t).2.2.2 = q.2.2.2 + ((rstep g q t).2.1 ((rstep g q t).1 - 1)).length := by
  rcases h with ⟨h, h1, h2⟩ | h
  · rw [rs_two h]
    refine ⟨by show 1 ≤ q.1 - 1; omega, by show q.1 - 1 ≤ 24; omega, ?_⟩
    show _ + _ = _ + (updJ q.2.1 (q.1 - 1 - 1) _ (q.1 - 1 - 1)).length
    rw [updJ_s]
  · have hp : ∀ (_ : t.1 = 2 ∨ t.1 = 3 ∨ t.1 = 5) (_ : q.1 < 24), 1 ≤ (rstep g q t).1 ∧ (rstep g q t).1 ≤ 24 ∧ (rstep g q t).2.2.2 = q.2.2.2 + ((rstep g q t).2.1 ((rstep g q t).1 - 1)).length := by
      intro h h1
      rw [rs_push h]
      refine ⟨by show 1 ≤ q.1 + 1; omega, by show q.1 + 1 ≤ 24; omega, ?_⟩
      show _ + _ = _ + (updJ q.2.1 q.1 _ (q.1 + 1 - 1)).length
      rw [show q.1 + 1 - 1 = q.1 by omega, updJ_s]
    have ht : ∀ (_ : t.1 = 6 ∨ t.1 = 7 ∨ t.1 = 9 ∨ t.1 = 10 ∨ t.1 = 11) (_ : 1 ≤ q.1) (_ : q.1 ≤ 24), 1 ≤ (rstep g q t).1 ∧ (rstep g q t).1 ≤ 24 ∧ (rstep g q t).2.2.2 = q.2.2.2 + ((rstep g q t).2.1 ((rstep g q t).1 - 1)).length := by
      intro h h1 h2
      rw [rs_top h]
      refine ⟨h1, h2, ?_⟩
      show _ + _ = _ + (updJ q.2.1 (q.1 - 1) _ (q.1 - 1)).length
      rw [updJ_s]
    rcases h with ⟨h, h1⟩ | ⟨h, h1, -⟩ | ⟨h, h1⟩ | ⟨h, h1, h2, -⟩ | ⟨h, h1, h2⟩
    · exact hp (Or.inl h) h1
    · exact hp (Or.inr (Or.inl h)) h1
    · exact hp (Or.inr (Or.inr h)) h1
    · exact ht (h.elim Or.inl (fun h => Or.inr (Or.inl h))) h1 h2
    · exact ht (Or.inr (Or.inr h)) h1 h2

/-- Runner.makeOfTwo(kind, graph) -/
theorem cN_makeOfTwo (l : Launch) (D : va_G) (tys : List (ClassId × FieldType)) (A : Nat → Prop) (ws : va_W) (cI : ClassId) (hI : tys[0]? = some (cI, .int)) (cR : ClassId) (hCR : tys[2]? = some (cR, .object "GraphQuery$Row")) (ad : Nat → Nat) (kn n : Nat) (J B : Nat → List Nat) (kg : Nat) (hkg : kg + 9 ≤ kn) (g : Gr) (lk : Nat) (t : Tok) (hk : rok2 n t) (hG : GraphAt cI ad ws kg g) (hr0 : RunnerAt cI cR ad ws kn n J B) : x_Mv l yN_makeOfTwo wN_makeOfTwo (xR 4) D xCl tys A [.ref (ad kn), .int t.1, .ref (ad kg)] ws (fun ws1 => x_rn kg kn ws ws1 ∧ GraphAt cI ad ws1 kg g ∧ RunnerAt cI cR ad ws1 kn (rstep g (n, J, B, lk) t).1 (rstep g (n, J, B, lk) t).2.1 (rstep g (n, J, B, lk) t).2.2.1) := by
  obtain ⟨h, h1, h2⟩ := hk
  rw [rs_two h]
  obtain ⟨K, v, pl⟩ := t
  rcases h with rfl | rfl | rfl | rfl
  · exact cN_two_43 l D tys A ws cI hI cR hCR ad kn n J B kg hkg g h1 h2 hG hr0
  · exact cN_two_45 l D tys A ws cI hI cR hCR ad kn n J B kg hkg g h1 h2 hG hr0
  · exact cN_two_38 l D tys A ws cI hI cR hCR ad kn n J B kg hkg g h1 h2 hG hr0
  · exact cN_two_8 l D tys A ws cI hI cR hCR ad kn n J B kg hkg g h1 h2 hG hr0

/-- Runner.make(kind, value, graph) -/
theorem cN_make (l : Launch) (D : va_G) (tys : List (ClassId × FieldType)) (A : Nat → Prop) (ws : va_W) (cI : ClassId) (hI : tys[0]? = some (cI, .int)) (cR : ClassId) (hCR : tys[2]? = some (cR, .object "GraphQuery$Row")) (ad : Nat → Nat) (kn n : Nat) (J B : Nat → List Nat) (kg : Nat) (hkg : kg + 9 ≤ kn) (g : Gr) (lk : Nat) (t : Tok) (hk : rok1 n t) (hG : GraphAt cI ad ws kg g) (hr0 : RunnerAt cI cR ad ws kn n J B) : x_Mv l yN_make wN_make (xR 5) D xCl tys A [.ref (ad kn), .int t.1, .int t.2.1, .ref (ad kg)] ws (fun ws1 => x_rn kg kn ws ws1 ∧ GraphAt cI ad ws1 kg g ∧ RunnerAt cI cR ad ws1 kn (rstep g (n, J, B, lk) t).1 (rstep g (n, J, B, lk) t).2.1 (rstep g (n, J, B, lk) t).2.2.1) := by
  obtain ⟨K, v, pl⟩ := t
  rcases hk with ⟨rfl, h1⟩ | ⟨rfl, h1, b, hb, rfl⟩ | ⟨rfl, h1⟩ | ⟨h, h1, h2, R, hR, rfl⟩ | ⟨h, h1, h2⟩
  · rw [rs_push (Or.inl rfl)]; exact cN_make_2 l D tys A ws cI hI cR hCR ad kn n J B kg hkg g v h1 hG hr0
  · rw [rs_push (Or.inr (Or.inl rfl))]
    have e : oneX g B 3 (nI b) [] = B b := by
      show B (nI b).toInt.toNat = _
      rw [nI_toInt (by omega)]; rfl
    have q := cN_make_3 l D tys A ws cI hI cR hCR ad kn n J B kg hkg g b hb h1 hG hr0
    rw [← e] at q
    exact q
  · rw [rs_push (Or.inr (Or.inr rfl))]; exact cN_make_5 l D tys A ws cI hI cR hCR ad kn n J B kg hkg g v h1 hG hr0
  · rcases h with rfl | rfl
    · rw [rs_top (Or.inl rfl)]
      have e : oneX g B 6 (nI R) (J (n - 1)) = growR (gD g) R (J (n - 1)) 0 := by
        show growR (gD g) (nI R).toInt.toNat _ 0 = _
        rw [nI_toInt (by omega)]; rfl
      have q := cN_make_6 l D tys A ws cI hI cR hCR ad kn n J B kg hkg g R hR h1 h2 hG hr0
      rw [← e] at q
      exact q
    · rw [rs_top (Or.inr (Or.inl rfl))]
      have e : oneX g B 7 (nI R) (J (n - 1)) = growR (gU g) R (J (n - 1)) 0 := by
        show growR (gU g) (nI R).toInt.toNat _ 0 = _
        rw [nI_toInt (by omega)]; rfl
      have q := cN_make_7 l D tys A ws cI hI cR hCR ad kn n J B kg hkg g R hR h1 h2 hG hr0
      rw [← e] at q
      exact q
  · rcases h with rfl | rfl | rfl
    · rw [rs_top (Or.inr (Or.inr (Or.inl rfl)))]; exact cN_make_9 l D tys A ws cI hI cR hCR ad kn n J B kg hkg g v h1 h2 hG hr0
    · rw [rs_top (Or.inr (Or.inr (Or.inr (Or.inl rfl))))]; exact cN_make_10 l D tys A ws cI hI cR hCR ad kn n J B kg hkg g v h1 h2 hG hr0
    · rw [rs_top (Or.inr (Or.inr (Or.inr (Or.inr rfl))))]; exact cN_make_11 l D tys A ws cI hI cR hCR ad kn n J B kg hkg g v h1 h2 hG hr0

theorem TapeAt.keepR {cI : ClassId} {ad : Nat → Nat} {ws ws1 : va_W} {k kg kn : Nat} {P : List Tok} (h : TapeAt cI ad ws k P) (hf : x_rn kg kn ws ws1) (h1 : kg + 9 ≤ k) (h2 : k + 4 ≤ kn) : TapeAt cI ad ws1 k P := by
  obtain ⟨f, g, h, h0, h1, h2, h3, r⟩ := h
  exact ⟨f, g, h, (hf _ (by omega) (by omega)).trans h0, (hf _ (by omega) (by omega)).trans h1, (hf _ (by omega) (by omega)).trans h2, (hf _ (by omega) (by omega)).trans h3, r⟩

set_option maxHeartbeats 4000000 in
set_option maxRecDepth 100000 in
/-- Runner.run(program, graph) -/
theorem cN_run (l : Launch) (D : va_G) (tys : List (ClassId × FieldType)) (A : Nat → Prop) (ws : va_W) (cI : ClassId) (hI : tys[0]? = some (cI, .int)) (cR : ClassId) (hCR : tys[2]? = some (cR, .object "GraphQuery$Row")) (ad : Nat → Nat) (kn n : Nat) (J B : Nat → List Nat) (kg : Nat) (hkg : kg + 9 ≤ kn) (g : Gr) (kq : Nat) (hq1 : kg + 9 ≤ kq) (hq2 : kq + 4 ≤ kn) (P : List Tok) (hok : ∀ (i : Nat) (h : i < P.length), rok ((P.take i).foldl (rstep g) (0, J, B, 0)).1 P[i]) (hG : GraphAt cI ad ws kg g) (hr0 : RunnerAt cI cR ad ws kn n J B) (hT : TapeAt cI ad ws kq P) : x_Mi l yN_run wN_run (xR 6) D xCl tys A [.ref (ad kn), .ref (ad kq), .ref (ad kg)] ws (fun r ws1 => r = nI (P.foldl (rstep g) (0, J, B, 0)).2.2.2 ∧ x_rn kg kn ws ws1 ∧ GraphAt cI ad ws1 kg g ∧ RunnerAt cI cR ad ws1 kn (P.foldl (rstep g) (0, J, B, 0)).1 (P.foldl (rstep g) (0, J, B, 0)).2.1 (P.foldl (rstep g) (0, J, B, 0)).2.2.1) := by
  obtain ⟨h0, ⟨fS, h1, h2⟩, ⟨fB, h3, h4⟩, h5, h6⟩ := id hr0
  refine x_enter (by decide) rfl (Nat.le_of_ble_eq_true rfl) (fun p e s m args below meth c ls hx hb hr hlk hml hown hnm hts hK hP hD hS hA hN hl => ?_)
  have hl : lv_has ls 7 [(0, .ref (ad kn)), (1, .ref (ad kq)), (2, .ref (ad kg))] := hl
  have loop_10 : ∀ (n : Nat) (i : Nat) (lk9 : Int32) (q : RS) (hi : i ≤ P.length) (ws1 : va_W) (H : Heap) (locs : List Loc) (ls : Array Slot), q = ((P.take i).foldl (rstep g) (0, J, B, 0)) → lk9 = nI q.2.2.2 → x_rn kg kn ws ws1 → GraphAt cI ad ws1 kg g → RunnerAt cI cR ad ws1 kn q.1 q.2.1 q.2.2.1 → TapeAt cI ad ws1 kq P → P.length - i < n → va_P D xCl ws1 H → va_D A ws1 → va_S A s.heap H locs → lv_has ls 7 [(0, .ref (ad kn)), (1, .ref (ad kq)), (2, .ref (ad kg)), (3, .int lk9), (4, .int (nI i))] → W p l e (xR 6) s m args below meth c H locs 0 0 (MQ below (va_Qi (fun r ws1 => r = nI (P.foldl (rstep g) (0, J, B, 0)).2.2.2 ∧ x_rn kg kn ws ws1 ∧ GraphAt cI ad ws1 kg g ∧ RunnerAt cI cR ad ws1 kn (P.foldl (rstep g) (0, J, B, 0)).1 (P.foldl (rstep g) (0, J, B, 0)).2.1 (P.foldl (rstep g) (0, J, B, 0)).2.2.1) (x_B D xCl tys A) A) args s 0 0 A) (F0 m 10 ls []) := by
    intro n
    induction n with
    | zero => intro i lk9 q hi ws1 H locs ls hqe hlq hFr hG1 hr1 hT1 hme; exact absurd hme (Nat.not_lt_zero _)
    | succ n ih =>
      intro i lk9 q hi ws1 H locs ls hqe hlq hFr hG1 hr1 hT1 hme hP hD hS hl
      have hle9 := hT1.le
      obtain ⟨fsT, hto⟩ := hT1.obj
      obtain ⟨fsG, hgo⟩ := hG1.obj
      obtain ⟨h01, ⟨fS1, h11, h21⟩, ⟨fB1, h31, h41⟩, h51, h61⟩ := id hr1
      refine lv_iload hx hb dN_run_10 (lv_at hl 4 rfl) ?_
      refine lv_aload_n hx hb dN_run_12 rfl (lv_at hl 1 rfl) ?_
      refine x_calli (x_runV (n := 0) (As := []) (rest := [.int (nI i)]) ⟨hx, hb, hml, hown, hts⟩ (cT_size l D tys A ws1 cI hI ad kq P hT1) tw_414 tw_400 tw_401 tw_5 tw_402 (by decide +kernel) rfl rfl ⟨by decide, by decide⟩ ⟨Nat.zero_le _, Nat.zero_le _⟩ (va_recv hK hP (ci := 4) (q0 := kq) rfl hto) hK hP hD hS hA hN rfl hl.1 rfl (lv_room (Nat.le_of_ble_eq_true rfl)) dN_run_13) hS (fun r_2 ws_1 H locs hz hP hD hS => ?_)
      obtain ⟨hz, rfl⟩ := hz
      refine lv_icmp_ge (tgt := 111) hx hb dN_run_16 (by decide) (fun c16 => ?_) (fun c16 => ?_)
      · refine lv_iload_n hx hb dN_run_111 rfl (lv_at hl 3 rfl) ?_
        exact x_iret hx hb hr hlk hK hP hD hS dN_run_112 ⟨by rw [hlq, hqe, show P.take i = P from List.take_of_length_le (by rw [hz, nI_leI (by omega) (by omega)] at c16; omega)], hFr, hG1, by rw [hqe, show P.take i = P from List.take_of_length_le (by rw [hz, nI_leI (by omega) (by omega)] at c16; omega)] at hr1; exact hr1⟩
      · have hi2 : i < P.length := by rw [hz, nI_leI (by omega) (by omega)] at c16; omega
        have hok9 := hok i hi2
        rw [← hqe] at hok9
        have hfo : (P.take (i + 1)).foldl (rstep g) (0, J, B, 0) = rstep g ((P.take i).foldl (rstep g) (0, J, B, 0)) P[i] := take_foldl (rstep g) (0, J, B, 0) P hi2
        refine lv_aload_n hx hb dN_run_19 rfl (lv_at hl 1 rfl) ?_
        refine lv_iload hx hb dN_run_20 (lv_at hl 4 rfl) ?_
        refine x_calli (x_runV (n := 1) (As := [.int (nI i)]) (rest := []) ⟨hx, hb, hml, hown, hts⟩ (cT_kindAt l D tys A ws1 cI hI ad kq P (nI i) hT1) tw_415 tw_330 tw_331 tw_5 tw_332 (by decide +kernel) rfl rfl ⟨by decide, by decide⟩ ⟨Nat.zero_le _, Nat.zero_le _⟩ (va_recv hK hP (ci := 4) (q0 := kq) rfl hto) hK hP hD hS hA hN rfl hl.1 rfl (lv_room (Nat.le_of_ble_eq_true rfl)) dN_run_22) hS (fun rka ws_3 H locs hka hP hD hS => ?_)
        obtain ⟨hka, rfl⟩ := hka
        rw [tpE_nI hle9 hi2] at hka
        subst hka
        refine lv_istore (lv' := [(5, .int P[i].1), (0, .ref (ad kn)), (1, .ref (ad kq)), (2, .ref (ad kg)), (3, .int lk9), (4, .int (nI i))]) hx hb dN_run_25 hl (by decide) rfl (fun ls hl => ?_)
        refine lv_aload_n hx hb dN_run_27 rfl (lv_at hl 2 rfl) ?_
        refine lv_iload hx hb dN_run_28 (lv_at hl 5 rfl) ?_
        refine x_calli (x_runV (n := 1) (As := [.int (nI i)]) (rest := []) ⟨hx, hb, hml, hown, hts⟩ (cT_valueAt l D tys A ws1 cI hI ad kq P (nI i) hT1) tw_416 tw_334 tw_335 tw_5 tw_336 (by decide +kernel) rfl rfl ⟨by decide, by decide⟩ ⟨Nat.zero_le _, Nat.zero_le _⟩ (va_recv hK hP (ci := 4) (q0 := kq) rfl hto) hK hP hD hS hA hN rfl hl.1 rfl (lv_room (Nat.le_of_ble_eq_true rfl)) dN_run_30) hS (fun rva ws_4 H locs hva hP hD hS => ?_)
        obtain ⟨hva, rfl⟩ := hva
        rw [tpE_nI hle9 hi2] at hva
        subst hva
        refine lv_istore (lv' := [(6, .int P[i].2.1), (5, .int P[i].1), (0, .ref (ad kn)), (1, .ref (ad kq)), (2, .ref (ad kg)), (3, .int lk9), (4, .int (nI i))]) hx hb dN_run_33 hl (by decide) rfl (fun ls hl => ?_)
        refine lv_iload hx hb dN_run_35 (lv_at hl 1 rfl) ?_
        refine lv_bipush (v := 12) hx hb dN_run_37 (by decide) ?_
        refine lv_icmp_ne (tgt := 61) hx hb dN_run_39 (by decide) (fun c39 => ?_) (fun c39 => ?_)
        · refine lv_iload hx hb dN_run_61 (lv_at hl 1 rfl) ?_
          refine x_calli (x_runSN (n := 1) (As := [.int P[i].1]) (rest := []) ⟨hx, hb, hml, hown, hts⟩ (cQ_isJoinI l D tys A ws1 P[i].1) (xN_455 hN) tw_318 tw_1 tw_319 (by decide +kernel) rfl rfl ⟨by decide, by decide⟩ ⟨Nat.zero_le _, Nat.zero_le _⟩ hK hP hD hS hA hN rfl hl.1 rfl (lv_room (Nat.le_of_ble_eq_true rfl)) dN_run_63) hS (fun rj ws_5 H locs hj hP hD hS => ?_)
          obtain ⟨hj, rfl⟩ := hj
          refine lv_if_ne (tgt := 76) hx hb dN_run_66 (by decide) (fun c66 => ?_) (fun c66 => ?_)
          · have hk2 : rok2 q.1 P[i] := by rcases hok9 with h | h | h; exact absurd h.1 c39; exact h; (exfalso; rw [hj, b2i_n0] at c66; unfold isJnI at c66; rw [decide_eq_true_eq] at c66; rcases c66 with c | c | c <;> rcases h with ⟨z, -⟩ | ⟨z, -⟩ | ⟨z, -⟩ | ⟨z | z, -⟩ | ⟨z | z | z, -⟩ <;> rw [c] at z <;> exact absurd z (by decide))
            have hlk9 := rs_lk (g := g) (q := q) (Or.inl hk2)
            refine lv_aload_n hx hb dN_run_76 rfl (lv_at hl 2 rfl) ?_
            refine lv_iload hx hb dN_run_77 (lv_at hl 1 rfl) ?_
            refine lv_aload_n hx hb dN_run_79 rfl (lv_at hl 4 rfl) ?_
            refine x_callv (x_runV (n := 2) (As := [.int P[i].1, .ref (ad kg)]) (rest := []) ⟨hx, hb, hml, hown, hts⟩ (cN_makeOfTwo l D tys A ws1 cI hI cR hCR ad kn q.1 q.2.1 q.2.2.1 kg hkg g q.2.2.2 P[i] hk2 hG1 hr1) tw_456 tw_458 ts_N_makeOfTwo tw_6 tw_459 (by decide +kernel) rfl rfl ⟨by decide, by decide⟩ ⟨Nat.zero_le _, Nat.zero_le _⟩ (va_recv hK hP (ci := 3) (q0 := kn) rfl h01) hK hP hD hS hA hN rfl hl.1 rfl (lv_room (Nat.le_of_ble_eq_true rfl)) dN_run_80) hS (fun ws_6 H locs hst hP hD hS => ?_)
            obtain ⟨hF9, hG9, hr9⟩ := hst
            have hT9 := hT1.keepR hF9 hq1 hq2
            have hFF := hFr.tr hF9
            obtain ⟨hz9, -⟩ := id hr9
            have hrw := hr9.2.2.2.1 ((rstep g q P[i]).1 - 1) (by omega)
            obtain ⟨fr9, hro9⟩ := hrw.obj
            refine lv_goto (tgt := 95) hx hb dN_run_83 (by decide) ?_
            refine lv_iload_n hx hb dN_run_95 rfl (lv_at hl 5 rfl) ?_
            refine lv_aload_n hx hb dN_run_96 rfl (lv_at hl 2 rfl) ?_
            refine x_callr (x_runV (n := 0) (As := []) (rest := [.int lk9]) ⟨hx, hb, hml, hown, hts⟩ (cN_result l D tys A ws_6 cI hI cR hCR ad kn _ _ _ hlk9.1 hlk9.2.1 hr9) tw_460 tw_461 tw_462 tw_6 tw_463 (by decide +kernel) rfl rfl ⟨by decide, by decide⟩ ⟨Nat.zero_le _, Nat.zero_le _⟩ (va_recv hK hP (ci := 3) (q0 := kn) rfl hz9) hK hP hD hS hA hN rfl hl.1 rfl (lv_room (Nat.le_of_ble_eq_true rfl)) dN_run_97) hS (fun rre ws_7 H locs hre hP hD hS => ?_)
            obtain ⟨rfl, rfl⟩ := hre
            refine x_calli (x_runV (n := 0) (As := []) (rest := [.int lk9]) ⟨hx, hb, hml, hown, hts⟩ (cR_size l D tys A ws_6 cI hI ad (kn + 2 + 2 * ((rstep g q P[i]).1 - 1)) _ hrw) tw_555 tw_443 tw_444 tw_7 tw_445 (by decide +kernel) rfl rfl ⟨by decide, by decide⟩ ⟨Nat.zero_le _, Nat.zero_le _⟩ (va_recv hK hP (ci := 2) (q0 := kn + 2 + 2 * ((rstep g q P[i]).1 - 1)) rfl hro9) hK hP hD hS hA hN rfl hl.1 rfl (lv_room (Nat.le_of_ble_eq_true rfl)) dN_run_100) hS (fun r_9 ws_8 H locs hsz hP hD hS => ?_)
            obtain ⟨hsz, rfl⟩ := hsz
            refine lv_iadd hx hb dN_run_103 ?_
            refine lv_topi (fun v_10 ev_10 => ?_)
            refine lv_istore_n (lv' := [(3, .int v_10), (6, .int P[i].2.1), (5, .int P[i].1), (0, .ref (ad kn)), (1, .ref (ad kq)), (2, .ref (ad kg)), (4, .int (nI i))]) hx hb dN_run_104 rfl hl (by decide) rfl (fun ls hl => ?_)
            refine lv_iinc (v := (nI (i + 1))) (lv' := [(4, .int (nI (i + 1))), (3, .int v_10), (6, .int P[i].2.1), (5, .int P[i].1), (0, .ref (ad kn)), (1, .ref (ad kq)), (2, .ref (ad kg))]) hx hb dN_run_105 hl (k := 6) rfl (nI_1 _) (by decide) rfl (fun ls hl => ?_)
            refine lv_goto (tgt := 10) hx hb dN_run_108 (by decide) ?_
            exact ih (i + 1) v_10 (rstep g q P[i]) (by omega) ws_6 _ _ _ (by rw [hfo, ← hqe]) (by rw [ev_10, hlq, hsz, nI_add, hlk9.2.2]) hFF hG9 hr9 hT9 (by omega) hP hD hS (lv_sub hl [4, 5, 6, 1, 0] rfl)
          · refine lv_iload hx hb dN_run_69 (lv_at hl 1 rfl) ?_
            refine lv_bipush (v := 8) hx hb dN_run_71 (by decide) ?_
            refine lv_icmp_ne (tgt := 86) hx hb dN_run_73 (by decide) (fun c73 => ?_) (fun c73 => ?_)
            · have hk1 : rok1 q.1 P[i] := by rcases hok9 with h | h | h; exact absurd h.1 c39; (exfalso; rw [hj, b2i_0] at c66; unfold isJnI at c66; rw [decide_eq_false_iff_not] at c66; rcases h.1 with z | z | z | z; exact c66 (Or.inl z); exact c66 (Or.inr (Or.inl z)); exact c66 (Or.inr (Or.inr z)); exact c73 z); exact h
              have hlk9 := rs_lk (g := g) (q := q) (Or.inr hk1)
              refine lv_aload_n hx hb dN_run_86 rfl (lv_at hl 2 rfl) ?_
              refine lv_iload hx hb dN_run_87 (lv_at hl 1 rfl) ?_
              refine lv_iload hx hb dN_run_89 (lv_at hl 0 rfl) ?_
              refine lv_aload_n hx hb dN_run_91 rfl (lv_at hl 4 rfl) ?_
              refine x_callv (x_runV (n := 3) (As := [.int P[i].1, .int P[i].2.1, .ref (ad kg)]) (rest := []) ⟨hx, hb, hml, hown, hts⟩ (cN_make l D tys A ws1 cI hI cR hCR ad kn q.1 q.2.1 q.2.2.1 kg hkg g q.2.2.2 P[i] hk1 hG1 hr1) tw_494 tw_496 ts_N_make tw_6 tw_497 (by decide +kernel) rfl rfl ⟨by decide, by decide⟩ ⟨Nat.zero_le _, Nat.zero_le _⟩ (va_recv hK hP (ci := 3) (q0 := kn) rfl h01) hK hP hD hS hA hN rfl hl.1 rfl (lv_room (Nat.le_of_ble_eq_true rfl)) dN_run_92) hS (fun ws_11 H locs hst hP hD hS => ?_)
              obtain ⟨hF9, hG9, hr9⟩ := hst
              have hT9 := hT1.keepR hF9 hq1 hq2
              have hFF := hFr.tr hF9
              obtain ⟨hz9, -⟩ := id hr9
              have hrw := hr9.2.2.2.1 ((rstep g q P[i]).1 - 1) (by omega)
              obtain ⟨fr9, hro9⟩ := hrw.obj
              refine lv_iload_n hx hb dN_run_95 rfl (lv_at hl 5 rfl) ?_
              refine lv_aload_n hx hb dN_run_96 rfl (lv_at hl 2 rfl) ?_
              refine x_callr (x_runV (n := 0) (As := []) (rest := [.int lk9]) ⟨hx, hb, hml, hown, hts⟩ (cN_result l D tys A ws_11 cI hI cR hCR ad kn _ _ _ hlk9.1 hlk9.2.1 hr9) tw_460 tw_461 tw_462 tw_6 tw_463 (by decide +kernel) rfl rfl ⟨by decide, by decide⟩ ⟨Nat.zero_le _, Nat.zero_le _⟩ (va_recv hK hP (ci := 3) (q0 := kn) rfl hz9) hK hP hD hS hA hN rfl hl.1 rfl (lv_room (Nat.le_of_ble_eq_true rfl)) dN_run_97) hS (fun rre ws_12 H locs hre hP hD hS => ?_)
              obtain ⟨rfl, rfl⟩ := hre
              refine x_calli (x_runV (n := 0) (As := []) (rest := [.int lk9]) ⟨hx, hb, hml, hown, hts⟩ (cR_size l D tys A ws_11 cI hI ad (kn + 2 + 2 * ((rstep g q P[i]).1 - 1)) _ hrw) tw_555 tw_443 tw_444 tw_7 tw_445 (by decide +kernel) rfl rfl ⟨by decide, by decide⟩ ⟨Nat.zero_le _, Nat.zero_le _⟩ (va_recv hK hP (ci := 2) (q0 := kn + 2 + 2 * ((rstep g q P[i]).1 - 1)) rfl hro9) hK hP hD hS hA hN rfl hl.1 rfl (lv_room (Nat.le_of_ble_eq_true rfl)) dN_run_100) hS (fun r_14 ws_13 H locs hsz hP hD hS => ?_)
              obtain ⟨hsz, rfl⟩ := hsz
              refine lv_iadd hx hb dN_run_103 ?_
              refine lv_topi (fun v_15 ev_15 => ?_)
              refine lv_istore_n (lv' := [(3, .int v_15), (6, .int P[i].2.1), (5, .int P[i].1), (0, .ref (ad kn)), (1, .ref (ad kq)), (2, .ref (ad kg)), (4, .int (nI i))]) hx hb dN_run_104 rfl hl (by decide) rfl (fun ls hl => ?_)
              refine lv_iinc (v := (nI (i + 1))) (lv' := [(4, .int (nI (i + 1))), (3, .int v_15), (6, .int P[i].2.1), (5, .int P[i].1), (0, .ref (ad kn)), (1, .ref (ad kq)), (2, .ref (ad kg))]) hx hb dN_run_105 hl (k := 6) rfl (nI_1 _) (by decide) rfl (fun ls hl => ?_)
              refine lv_goto (tgt := 10) hx hb dN_run_108 (by decide) ?_
              exact ih (i + 1) v_15 (rstep g q P[i]) (by omega) ws_11 _ _ _ (by rw [hfo, ← hqe]) (by rw [ev_15, hlq, hsz, nI_add, hlk9.2.2]) hFF hG9 hr9 hT9 (by omega) hP hD hS (lv_sub hl [4, 5, 6, 1, 0] rfl)
            · have hk2 : rok2 q.1 P[i] := by rcases hok9 with h | h | h; exact absurd h.1 c39; exact h; (exfalso; rcases h with ⟨z, -⟩ | ⟨z, -⟩ | ⟨z, -⟩ | ⟨z | z, -⟩ | ⟨z | z | z, -⟩ <;> rw [c73] at z <;> exact absurd z (by decide))
              have hlk9 := rs_lk (g := g) (q := q) (Or.inl hk2)
              refine lv_aload_n hx hb dN_run_76 rfl (lv_at hl 2 rfl) ?_
              refine lv_iload hx hb dN_run_77 (lv_at hl 1 rfl) ?_
              refine lv_aload_n hx hb dN_run_79 rfl (lv_at hl 4 rfl) ?_
              refine x_callv (x_runV (n := 2) (As := [.int P[i].1, .ref (ad kg)]) (rest := []) ⟨hx, hb, hml, hown, hts⟩ (cN_makeOfTwo l D tys A ws1 cI hI cR hCR ad kn q.1 q.2.1 q.2.2.1 kg hkg g q.2.2.2 P[i] hk2 hG1 hr1) tw_456 tw_458 ts_N_makeOfTwo tw_6 tw_459 (by decide +kernel) rfl rfl ⟨by decide, by decide⟩ ⟨Nat.zero_le _, Nat.zero_le _⟩ (va_recv hK hP (ci := 3) (q0 := kn) rfl h01) hK hP hD hS hA hN rfl hl.1 rfl (lv_room (Nat.le_of_ble_eq_true rfl)) dN_run_80) hS (fun ws_16 H locs hst hP hD hS => ?_)
              obtain ⟨hF9, hG9, hr9⟩ := hst
              have hT9 := hT1.keepR hF9 hq1 hq2
              have hFF := hFr.tr hF9
              obtain ⟨hz9, -⟩ := id hr9
              have hrw := hr9.2.2.2.1 ((rstep g q P[i]).1 - 1) (by omega)
              obtain ⟨fr9, hro9⟩ := hrw.obj
              refine lv_goto (tgt := 95) hx hb dN_run_83 (by decide) ?_
              refine lv_iload_n hx hb dN_run_95 rfl (lv_at hl 5 rfl) ?_
              refine lv_aload_n hx hb dN_run_96 rfl (lv_at hl 2 rfl) ?_
              refine x_callr (x_runV (n := 0) (As := []) (rest := [.int lk9]) ⟨hx, hb, hml, hown, hts⟩ (cN_result l D tys A ws_16 cI hI cR hCR ad kn _ _ _ hlk9.1 hlk9.2.1 hr9) tw_460 tw_461 tw_462 tw_6 tw_463 (by decide +kernel) rfl rfl ⟨by decide, by decide⟩ ⟨Nat.zero_le _, Nat.zero_le _⟩ (va_recv hK hP (ci := 3) (q0 := kn) rfl hz9) hK hP hD hS hA hN rfl hl.1 rfl (lv_room (Nat.le_of_ble_eq_true rfl)) dN_run_97) hS (fun rre ws_17 H locs hre hP hD hS => ?_)
              obtain ⟨rfl, rfl⟩ := hre
              refine x_calli (x_runV (n := 0) (As := []) (rest := [.int lk9]) ⟨hx, hb, hml, hown, hts⟩ (cR_size l D tys A ws_16 cI hI ad (kn + 2 + 2 * ((rstep g q P[i]).1 - 1)) _ hrw) tw_555 tw_443 tw_444 tw_7 tw_445 (by decide +kernel) rfl rfl ⟨by decide, by decide⟩ ⟨Nat.zero_le _, Nat.zero_le _⟩ (va_recv hK hP (ci := 2) (q0 := kn + 2 + 2 * ((rstep g q P[i]).1 - 1)) rfl hro9) hK hP hD hS hA hN rfl hl.1 rfl (lv_room (Nat.le_of_ble_eq_true rfl)) dN_run_100) hS (fun r_19 ws_18 H locs hsz hP hD hS => ?_)
              obtain ⟨hsz, rfl⟩ := hsz
              refine lv_iadd hx hb dN_run_103 ?_
              refine lv_topi (fun v_20 ev_20 => ?_)
              refine lv_istore_n (lv' := [(3, .int v_20), (6, .int P[i].2.1), (5, .int P[i].1), (0, .ref (ad kn)), (1, .ref (ad kq)), (2, .ref (ad kg)), (4, .int (nI i))]) hx hb dN_run_104 rfl hl (by decide) rfl (fun ls hl => ?_)
              refine lv_iinc (v := (nI (i + 1))) (lv' := [(4, .int (nI (i + 1))), (3, .int v_20), (6, .int P[i].2.1), (5, .int P[i].1), (0, .ref (ad kn)), (1, .ref (ad kq)), (2, .ref (ad kg))]) hx hb dN_run_105 hl (k := 6) rfl (nI_1 _) (by decide) rfl (fun ls hl => ?_)
              refine lv_goto (tgt := 10) hx hb dN_run_108 (by decide) ?_
              exact ih (i + 1) v_20 (rstep g q P[i]) (by omega) ws_16 _ _ _ (by rw [hfo, ← hqe]) (by rw [ev_20, hlq, hsz, nI_add, hlk9.2.2]) hFF hG9 hr9 hT9 (by omega) hP hD hS (lv_sub hl [4, 5, 6, 1, 0] rfl)
        · obtain ⟨hn1, hn2, b, hb12, ebv⟩ : 1 ≤ q.1 ∧ q.1 ≤ 24 ∧ ∃ b : Nat, b < 12 ∧ P[i].2.1 = nI b := by rcases hok9 with h | h | h; exact h.2; (rcases h.1 with z | z | z | z <;> rw [c39] at z <;> exact absurd z (by decide)); (rcases h with ⟨z, -⟩ | ⟨z, -⟩ | ⟨z, -⟩ | ⟨z | z, -⟩ | ⟨z | z | z, -⟩ <;> rw [c39] at z <;> exact absurd z (by decide))
          refine lv_aload_n hx hb dN_run_42 rfl (lv_at hl 2 rfl) ?_
          refine va_get (D := D) (cl := xCl) (ci := 3) (v := .ref (ad (kn + 50))) (C := rnN) (T := tbN) (N := 3) hx hb hts inN hown hK hP kn h01 rfl 1 (by decide) (hts _ tw_137) (fun _ h9 => h9) rfl dN_run_43 ?_
          refine lv_iload hx hb dN_run_46 (lv_at hl 0 rfl) ?_
          refine x_callr (x_runS (n := 2) (As := [.ref (ad (kn + 50)), .int P[i].2.1]) (rest := []) ⟨hx, hb, hml, hown, hts⟩ (cN_rowAt l D tys A ws1 cR hCR ad (kn + 50) 12 (by decide) (by decide) fB1 (fun i hi => ⟨_, h41 i hi⟩) P[i].2.1 h31) tw_417 tw_418 tw_6 tw_419 (by decide +kernel) rfl rfl ⟨by decide, by decide⟩ ⟨Nat.zero_le _, Nat.zero_le _⟩ hK hP hD hS hA hN rfl hl.1 rfl (lv_room (Nat.le_of_ble_eq_true rfl)) dN_run_48) hS (fun rra ws_21 H locs hra hP hD hS => ?_)
          obtain ⟨hra, rfl⟩ := hra
          obtain rfl : rra = ad (kn + 51 + 2 * b) := by rw [ebv, clampI_nI hb12 (by omega), h41 _ hb12] at hra; exact (Option.some.inj hra).symm
          refine lv_aload_n hx hb dN_run_51 rfl (lv_at hl 2 rfl) ?_
          refine x_callr (x_runV (n := 0) (As := []) (rest := [.ref (ad (kn + 51 + 2 * b))]) ⟨hx, hb, hml, hown, hts⟩ (cN_pop l D tys A ws1 cI hI cR hCR ad kn q.1 q.2.1 q.2.2.1 hn1 hn2 hr1) tw_426 tw_428 ts_N_pop tw_6 tw_429 (by decide +kernel) rfl rfl ⟨by decide, by decide⟩ ⟨Nat.zero_le _, Nat.zero_le _⟩ (va_recv hK hP (ci := 3) (q0 := kn) rfl h01) hK hP hD hS hA hN rfl hl.1 rfl (lv_room (Nat.le_of_ble_eq_true rfl)) dN_run_52) hS (fun rpo ws_22 H locs hpo hP hD hS => ?_)
          obtain ⟨rfl, hF1, hr2⟩ := hpo
          have hbr := hr2.2.2.2.2 b hb12
          have htr := hr2.2.2.2.1 (q.1 - 1) (by omega)
          obtain ⟨fb9, hbo⟩ := hbr.obj
          refine x_callv (x_runV (n := 1) (As := [.ref (ad (kn + 2 + 2 * (q.1 - 1)))]) (rest := []) ⟨hx, hb, hml, hown, hts⟩ (cR_copy l D tys A ws_22 cI hI ad (kn + 51 + 2 * b) (kn + 2 + 2 * (q.1 - 1)) (q.2.2.1 b) (q.2.1 (q.1 - 1)) (by omega) (by omega) (by omega) hbr htr) tw_430 tw_431 tw_432 tw_7 tw_433 (by decide +kernel) rfl rfl ⟨by decide, by decide⟩ ⟨Nat.zero_le _, Nat.zero_le _⟩ (va_recv hK hP (ci := 2) (q0 := kn + 51 + 2 * b) rfl hbo) hK hP hD hS hA hN rfl hl.1 rfl (lv_room (Nat.le_of_ble_eq_true rfl)) dN_run_55) hS (fun ws_23 H locs hcp hP hD hS => ?_)
          refine lv_goto (tgt := 105) hx hb dN_run_58 (by decide) ?_
          refine lv_iinc (v := (nI (i + 1))) (lv' := [(4, .int (nI (i + 1))), (6, .int P[i].2.1), (5, .int P[i].1), (0, .ref (ad kn)), (1, .ref (ad kq)), (2, .ref (ad kg)), (3, .int lk9)]) hx hb dN_run_105 hl (k := 6) rfl (nI_1 _) (by decide) rfl (fun ls hl => ?_)
          refine lv_goto (tgt := 10) hx hb dN_run_108 (by decide) ?_
          exact ih (i + 1) lk9 (rstep g q P[i]) (by omega) ws_23 _ _ _ (by rw [hfo, ← hqe]) (by rw [hlq, rs_let c39]) (hFr.tr ((hF1.rn (by omega) (by omega)).tr (hcp.1.rn (by omega) (by omega)))) ((hG1.keep hF1 (by omega)).keep hcp.1.fr (by omega)) (by rw [rs_let c39]; have e : P[i].2.1.toInt.toNat = b := (by rw [ebv, nI_toInt (by omega)]; simp); rw [e]; exact hr2.bnd hb12 hcp.1.on hcp.2) ((hT1.keepR (hF1.rn (kg := kg) (kn := kn) (by omega) (by omega)) hq1 hq2).keepR (hcp.1.rn (kg := kg) (kn := kn) (by omega) (by omega)) hq1 hq2) (by omega) hP hD hS (lv_sub hl [3, 4, 5, 6, 0] rfl)
  refine lv_aload_n hx hb dN_run_0 rfl (lv_at hl 0 rfl) ?_
  refine lv_iconst (v := 0) hx hb dN_run_1 (by decide) ?_
  refine va_put (D := D) (cl := xCl) (ci := 3) (v := .int 0) (ty := .int) (C := rnN) (T := tbN) (N := 3) hx hb hts inN tyN toN nmN hown hK hP hD hS kn h0 rfl 2 (by decide) (hts _ tw_138) (fun _ h9 => h9) rfl (by decide +kernel) rfl rfl (Nat.le_of_ble_eq_true rfl) dN_run_2 (fun H locs hP hD hS => ?_)
  obtain ⟨ws_25, hu_24, hP, hD⟩ := x_gen h0 hP hD
  have h_26 : ws_25[kn]? = some (ad kn, .inr (3, [.ref (ad (kn + 1)), .ref (ad (kn + 50)), .int 0])) := hu_24.1
  refine lv_iconst (v := 0) hx hb dN_run_5 (by decide) ?_
  refine lv_istore_n (lv' := [(3, .int 0), (0, .ref (ad kn)), (1, .ref (ad kq)), (2, .ref (ad kg))]) hx hb dN_run_6 rfl hl (by decide) rfl (fun ls hl => ?_)
  refine lv_iconst (v := 0) hx hb dN_run_7 (by decide) ?_
  refine lv_istore (lv' := [(4, .int 0), (3, .int 0), (0, .ref (ad kn)), (1, .ref (ad kq)), (2, .ref (ad kg))]) hx hb dN_run_8 hl (by decide) rfl (fun ls hl => ?_)
  exact loop_10 _ 0 0 (0, J, B, 0) (Nat.zero_le _) ws_25 _ _ _ rfl rfl ((hu_24.fr (a := kn) (b := kn + 1) (by omega) (by omega)).rn (by omega) (by omega)) (hG.keep (hu_24.fr (a := kn) (b := kn + 1) (by omega) (by omega)) (by omega)) (hr0.top (n1 := 0) hu_24 rfl) (hT.keep (hu_24.fr (a := kn) (b := kn + 1) (by omega) (by omega)) (by omega)) (Nat.lt_succ_self _) hP hD hS (lv_sub hl [2, 3, 4, 1, 0] rfl)
