theorem tokA_pl (cs : List Nat) (e : Nat) : (tokA cs e).1.2.2 = nI (spE isBl cs e) := by
  unfold tokA tokF
  split
  · split <;> rfl
  · rfl
def tkP (q : Tok) : Prop := ∃ a, a < 1000 ∧ q.2.2 = nI a
theorem tkP_F {cs : List Nat} (hl : cs.length ≤ 80) {a : Nat} (ha : a < cs.length) : tkP (tokF cs a).1 := by
  unfold tokF
  rw [if_pos ha]
  split
  · exact ⟨a, by omega, rfl⟩
  · exact ⟨a, by omega, rfl⟩
theorem tkP_T {cs : List Nat} (hl : cs.length ≤ 80) : ∀ (n a : Nat), cs.length - a ≤ n → ∀ q ∈ spT cs a, tkP q := by
  intro n
  induction n with
  | zero =>
    intro a h q hq
    rw [spT_e (by omega), List.mem_singleton] at hq
    rw [hq]; exact ⟨cs.length, by omega, rfl⟩
  | succ n ih =>
    intro a h q hq
    by_cases c : a < cs.length
    · by_cases b : isBl (chN cs a) = true
      · rw [spT_b c b] at hq; exact ih _ (by omega) q hq
      · have := tokF_lt c
        rw [spT_t c b] at hq
        rcases List.mem_cons.mp hq with z | z
        · rw [z]; exact tkP_F hl c
        · exact ih _ (by omega) q z
    · rw [spT_e c, List.mem_singleton] at hq
      rw [hq]; exact ⟨cs.length, by omega, rfl⟩
theorem pl_n {cs : List Nat} (hl : cs.length ≤ 80) (i : Nat) : ¬ (tk (spT cs 0) i).2.2 = -1 := by
  have : tkP (tk (spT cs 0) i) := by
    rcases Nat.lt_or_ge i (spT cs 0).length with z | z
    · unfold tk
      rw [List.getD_eq_getElem?_getD, List.getElem?_eq_getElem z]
      exact tkP_T hl _ 0 (Nat.le_refl _) _ (List.getElem_mem z)
    · unfold tk
      rw [List.getD_eq_getElem?_getD, List.getElem?_eq_none z]
      exact ⟨0, by omega, rfl⟩
  obtain ⟨a, ha, e⟩ := this
  rw [e]
  intro z
  have := congrArg Int32.toInt z
  rw [nI_toInt (by omega)] at this
  have : (-1 : Int32).toInt = -1 := by decide
  omega
/-- take: the token, the place of the first that can't stand -/
def tkI (T : List Tok) (K : Int32) (i : Nat) : Nat := if (tk T i).1 = K then i + 1 else i
def tkL (T : List Tok) (K : Int32) (i : Nat) (ill : Int32) : Int32 := if (tk T i).1 = K then ill else if ill = -1 then (tk T i).2.2 else ill
theorem tkI_t {T : List Tok} {K : Int32} {i : Nat} (h : (tk T i).1 = K) : tkI T K i = i + 1 := if_pos h
theorem tkI_f {T : List Tok} {K : Int32} {i : Nat} (h : ¬ (tk T i).1 = K) : tkI T K i = i := if_neg h
theorem tkL_t {T : List Tok} {K : Int32} {i : Nat} {x : Int32} (h : (tk T i).1 = K) : tkL T K i x = x := if_pos h
theorem tkL_f {T : List Tok} {K : Int32} {i : Nat} (h : ¬ (tk T i).1 = K) : tkL T K i (-1) = (tk T i).2.2 := by unfold tkL; rw [if_neg h, if_pos rfl]
theorem tkL_k {T : List Tok} {K : Int32} {i : Nat} {x : Int32} (h : ¬ x = -1) : tkL T K i x = x := by
  unfold tkL
  by_cases c : (tk T i).1 = K
  · rw [if_pos c]
  · rw [if_neg c, if_neg h]
/-- the model's others() -/
def oT (T : List Tok) (d : Int32) (i : Nat) (S : List Mu) (O : List Tok) (op : Nat → Int32) : Sum Int32 MS :=
  if (tk T i).1 = 9 then (if (tk T (i + 1)).1 = 40 then (if (tk T (i + 2)).1 = 4 then (if (tk T (i + 3)).1 = 44 then .inr (i + 4, (1, d + 1, 0) :: (4, 0, 41) :: (6, (tk T (i + 2)).2.1, 9) :: S, O, op) else .inl (tk T (i + 3)).2.2) else .inl (tk T (i + 2)).2.2) else .inl (tk T (i + 1)).2.2)
  else if (tk T i).1 = 12 then (if (tk T (i + 1)).1 = 3 then (if (tk T (i + 2)).1 = 61 then .inr (i + 3, (1, d + 1, 0) :: (7, 0, (tk T (i + 1)).2.1) :: (1, d + 1, 0) :: (8, 0, (tk T (i + 1)).2.1) :: S, O, op) else .inl (tk T (i + 2)).2.2) else .inl (tk T (i + 1)).2.2)
  else .inl (tk T i).2.2
theorem mTerm_o {T : List Tok} {d : Int32} {i : Nat} {S : List Mu} {O : List Tok} {op : Nat → Int32} (h0 : ¬ (d = 12 ∨ ((tk T i).1 = 3 ∧ op (tk T i).2.1.toNatClampNeg = 0))) (h : ¬ (tk T i).1 = 2 ∧ ¬ (tk T i).1 = 3 ∧ ¬ (tk T i).1 = 5 ∧ ¬ (tk T i).1 = 6 ∧ ¬ (tk T i).1 = 7 ∧ ¬ (tk T i).1 = 8 ∧ ¬ (tk T i).1 = 10 ∧ ¬ (tk T i).1 = 11 ∧ ¬ (tk T i).1 = 40) : mTerm T d i S O op = oT T d i S O op := by
  obtain ⟨a1, a2, a3, a4, a5, a6, a7, a8, a9⟩ := h
  unfold mTerm oT
  rw [if_neg h0, if_neg (fun z => z.elim a1 (fun y => y.elim a2 a3)), if_neg a9, if_neg (fun z => z.elim a4 a5), if_neg (fun z => z.elim a7 a8), if_neg a6]

-- ===== the model's reader: one picture =====
def CuV (cs : List Nat) (v : Nat → Int32) (i : Nat) : Prop := ∃ e0, Cu cs i e0 (tokA cs e0).2 ∧ NxV cs v e0
theorem CuV.k {cs : List Nat} {v : Nat → Int32} {i : Nat} (hc : ∀ j, 32 ≤ chN cs j ∧ chN cs j ≤ 126) (h : CuV cs v i) : v 9 = (tk (spT cs 0) i).1 ∧ v 10 = (tk (spT cs 0) i).2.2 ∧ (((tk (spT cs 0) i).1 = 2 ∨ (tk (spT cs 0) i).1 = 3 ∨ (tk (spT cs 0) i).1 = 4) → v 12 = (tk (spT cs 0) i).2.1) ∧ i < (spT cs 0).length := by
  obtain ⟨e0, h1, h2, h3, -, h4⟩ := h
  obtain ⟨t1, t2⟩ := h1.tok hc
  have t3 : tk (spT cs 0) i = (tokA cs e0).1 := t1
  rw [t3]
  exact ⟨h2, h3, h4, t2⟩
def MuS (v : Nat → Int32) (F : Nat → Nat → Int32) (S : List Mu) : Prop := v 18 = nI S.length ∧ S.length ≤ 300 ∧ ∀ (j : Nat) (h : j < S.length), F 7 (S.length - 1 - j) = S[j].1 ∧ F 8 (S.length - 1 - j) = S[j].2.1 ∧ F 9 (S.length - 1 - j) = S[j].2.2
def OrS (v : Nat → Int32) (F : Nat → Nat → Int32) (O : List Tok) : Prop := v 22 = nI O.length ∧ O.length ≤ 150 ∧ ∀ (j : Nat) (h : j < O.length), F 11 j = O[j].1 ∧ (¬ O[j].1 = 5 → F 12 j = O[j].2.1) ∧ F 13 j = O[j].2.2
/-- text, token, what must come, orders, open letters, the place of the first that can't stand -/
def MP (cs : List Nat) (i : Nat) (S : List Mu) (O : List Tok) (op : Nat → Int32) (il : Int32) (v : Nat → Int32) (F : Nat → Nat → Int32) : Prop := MTx cs v F ∧ CuV cs v i ∧ MuS v F S ∧ OrS v F O ∧ (∀ c, c < 26 → F 10 c = op c) ∧ v 13 = il
/-- what the reader leaves as it is -/
def kpR (v : Nat → Int32) (F : Nat → Nat → Int32) (v1 : Nat → Int32) (F1 : Nat → Nat → Int32) : Prop := vk [9, 10, 11, 12, 13, 18, 22] v v1 ∧ fk [7, 8, 9, 10, 11, 12, 13] F F1
theorem kpR.rf {v : Nat → Int32} {F : Nat → Nat → Int32} : kpR v F v F := ⟨vk.rf, fk.rf⟩
theorem kpR.tr {v v1 v2 : Nat → Int32} {F F1 F2 : Nat → Nat → Int32} (h : kpR v F v1 F1) (h2 : kpR v1 F1 v2 F2) : kpR v F v2 F2 := ⟨h.1.tr h2.1, h.2.tr h2.2⟩
theorem MP.k {cs : List Nat} {i : Nat} {S : List Mu} {O : List Tok} {op : Nat → Int32} {il : Int32} {v : Nat → Int32} {F : Nat → Nat → Int32} (h : MP cs i S O op il v F) : v 9 = (tk (spT cs 0) i).1 ∧ v 10 = (tk (spT cs 0) i).2.2 ∧ (((tk (spT cs 0) i).1 = 2 ∨ (tk (spT cs 0) i).1 = 3 ∨ (tk (spT cs 0) i).1 = 4) → v 12 = (tk (spT cs 0) i).2.1) ∧ i < (spT cs 0).length := h.2.1.k h.1.2.2.2
theorem upd_s9 (f : Nat → Int32) (i : Nat) (x : Int32) : upd f i x i = x := if_pos rfl
theorem setF_s (F : Nat → Nat → Int32) (i : Nat) (f : Nat → Int32) : setF F i f i = f := if_pos rfl
theorem MP.want {cI : ClassId} {ad : Nat → Nat} {ws : va_W} {km : Nat} {cs : List Nat} {i : Nat} {S : List Mu} {O : List Tok} {op : Nat → Int32} {il : Int32} {v v0 : Nat → Int32} {F F0 : Nat → Nat → Int32} {a1 a2 a3 : Int32} (h : MP cs i S O op il v F) (hk : kpR v0 F0 v F) (hl : S.length < 300)
    (hM : ModF cI ad ws km (setV v 18 (nI (S.length + 1))) (setF (setF (setF F 7 (upd (F 7) S.length a1)) 8 (upd (F 8) S.length a2)) 9 (upd (F 9) S.length a3))) : ∃ v1 F1, ModF cI ad ws km v1 F1 ∧ MP cs i ((a1, a2, a3) :: S) O op il v1 F1 ∧ kpR v0 F0 v1 F1 := by
  obtain ⟨h1, h2, ⟨m1, m2, m3⟩, h4, h5, h6⟩ := h
  refine ⟨_, _, hM, ⟨h1, h2, ⟨rfl, by rw [List.length_cons]; omega, fun j hj => ?_⟩, h4, h5, h6⟩, hk.tr ⟨vk_s (by simp), fun j hj => ?_⟩⟩
  · show upd (F 7) S.length a1 _ = _ ∧ upd (F 8) S.length a2 _ = _ ∧ upd (F 9) S.length a3 _ = _
    cases j with
    | zero =>
      rw [show (((a1, a2, a3) :: S : List Mu).length - 1 - 0) = S.length by rw [List.length_cons]; omega, upd_s9, upd_s9, upd_s9]
      exact ⟨rfl, rfl, rfl⟩
    | succ j =>
      have hj2 : j < S.length := by rw [List.length_cons] at hj; omega
      have e : ((a1, a2, a3) :: S : List Mu).length - 1 - (j + 1) = S.length - 1 - j := by rw [List.length_cons]; omega
      have ne : ¬ S.length - 1 - j = S.length := by omega
      rw [e, upd_o ne, upd_o ne, upd_o ne]
      exact m3 j hj2
  · have a7 : ¬ j = 7 := fun e => hj (by rw [e]; simp)
    have a8 : ¬ j = 8 := fun e => hj (by rw [e]; simp)
    have a9 : ¬ j = 9 := fun e => hj (by rw [e]; simp)
    show (if j = 9 then _ else if j = 8 then _ else if j = 7 then _ else F j) = F j
    rw [if_neg a9, if_neg a8, if_neg a7]
theorem MP.writ {cI : ClassId} {ad : Nat → Nat} {ws : va_W} {km : Nat} {cs : List Nat} {i : Nat} {S : List Mu} {O : List Tok} {op : Nat → Int32} {il : Int32} {v v0 : Nat → Int32} {F F0 : Nat → Nat → Int32} {a1 a2 a3 : Int32} (q : Tok) (e1 : a1 = q.1) (e2 : ¬ q.1 = 5 → a2 = q.2.1) (e3 : a3 = q.2.2) (h : MP cs i S O op il v F) (hk : kpR v0 F0 v F) (hl : O.length < 150)
    (hM : ModF cI ad ws km (setV v 22 (nI (O.length + 1))) (setF (setF (setF F 11 (upd (F 11) O.length a1)) 12 (upd (F 12) O.length a2)) 13 (upd (F 13) O.length a3))) : ∃ v1 F1, ModF cI ad ws km v1 F1 ∧ MP cs i S (O ++ [q]) op il v1 F1 ∧ kpR v0 F0 v1 F1 := by
  obtain ⟨h1, h2, h3, ⟨m1, m2, m3⟩, h5, h6⟩ := h
  refine ⟨_, _, hM, ⟨h1, h2, h3, ⟨?_, by rw [List.length_append, List.length_singleton]; omega, fun j hj => ?_⟩, h5, h6⟩, hk.tr ⟨vk_s (by simp), fun j hj => ?_⟩⟩
  · rw [List.length_append, List.length_singleton]; rfl
  · show upd (F 11) O.length a1 j = _ ∧ (_ → upd (F 12) O.length a2 j = _) ∧ upd (F 13) O.length a3 j = _
    rw [List.length_append, List.length_singleton] at hj
    rcases Nat.lt_or_ge j O.length with z | z
    · have ne : ¬ j = O.length := by omega
      rw [List.getElem_append_left z, upd_o ne, upd_o ne, upd_o ne]
      exact m3 j z
    · have ej : j = O.length := by omega
      subst ej
      rw [List.getElem_append_right (Nat.le_refl _), upd_s9, upd_s9, upd_s9]
      simp only [Nat.sub_self, List.getElem_singleton]
      exact ⟨e1, e2, e3⟩
  · have a7 : ¬ j = 11 := fun e => hj (by rw [e]; simp)
    have a8 : ¬ j = 12 := fun e => hj (by rw [e]; simp)
    have a9 : ¬ j = 13 := fun e => hj (by rw [e]; simp)
    show (if j = 13 then _ else if j = 12 then _ else if j = 11 then _ else F j) = F j
    rw [if_neg a9, if_neg a8, if_neg a7]
theorem MP.nxt {cs : List Nat} {i : Nat} {S : List Mu} {O : List Tok} {op : Nat → Int32} {il : Int32} {v v0 v9 : Nat → Int32} {F F0 : Nat → Nat → Int32} {e0 : Nat} (h : MP cs i S O op il v F) (hk : kpR v0 F0 v F) (hcu : Cu cs i e0 (tokA cs e0).2) (hz : ¬ (tk (spT cs 0) i).1 = 0) (hv : vk [9, 10, 11, 12] v v9) (hn : NxV cs v9 (tokA cs e0).2) : MP cs (i + 1) S O op il v9 F ∧ kpR v0 F0 v9 F := by
  obtain ⟨h1, h2, h3, h4, h5, h6⟩ := h
  have t3 : tk (spT cs 0) i = (tokA cs e0).1 := (hcu.tok h1.2.2.2).1
  rw [t3] at hz
  refine ⟨⟨⟨by rw [hv 8 (by simp)]; exact h1.1, h1.2⟩, ⟨_, hcu.next hz, hn⟩, ⟨by rw [hv 18 (by simp)]; exact h3.1, h3.2⟩, ⟨by rw [hv 22 (by simp)]; exact h4.1, h4.2⟩, h5, by rw [hv 13 (by simp)]; exact h6⟩, hk.tr ⟨hv.wd (by simp), fk.rf⟩⟩
theorem MP.fail {cs : List Nat} {i : Nat} {S : List Mu} {O : List Tok} {op : Nat → Int32} {il : Int32} {v v0 : Nat → Int32} {F F0 : Nat → Nat → Int32} (h : MP cs i S O op il v F) (hk : kpR v0 F0 v F) : MP cs i S O op (if il = -1 then (tk (spT cs 0) i).2.2 else il) (if v 13 = -1 then setV v 13 (v 10) else v) F ∧ kpR v0 F0 (if v 13 = -1 then setV v 13 (v 10) else v) F := by
  have hk2 := h.k
  obtain ⟨h1, ⟨e0, c1, c2, c3, c4, c5⟩, h3, h4, h5, h6⟩ := h
  by_cases c : v 13 = -1
  · rw [if_pos c, if_pos (by rw [← h6]; exact c)]
    exact ⟨⟨h1, ⟨e0, c1, c2, c3, c4, c5⟩, h3, h4, h5, hk2.2.1⟩, hk.tr ⟨vk_s (by simp), fk.rf⟩⟩
  · rw [if_neg c, if_neg (by rw [← h6]; exact c)]
    exact ⟨⟨h1, ⟨e0, c1, c2, c3, c4, c5⟩, h3, h4, h5, h6⟩, hk⟩
theorem MP.opn {cI : ClassId} {ad : Nat → Nat} {ws : va_W} {km : Nat} {cs : List Nat} {i : Nat} {S : List Mu} {O : List Tok} {op : Nat → Int32} {il : Int32} {v v0 : Nat → Int32} {F F0 : Nat → Nat → Int32} {c : Nat} {x : Int32} (h : MP cs i S O op il v F) (hk : kpR v0 F0 v F) (hM : ModF cI ad ws km v (setF F 10 (upd (F 10) c x))) : ∃ F1, ModF cI ad ws km v F1 ∧ MP cs i S O (upd op c x) il v F1 ∧ kpR v0 F0 v F1 := by
  obtain ⟨h1, h2, h3, h4, h5, h6⟩ := h
  refine ⟨_, hM, ⟨h1, h2, h3, h4, fun d hd => ?_, h6⟩, hk.tr ⟨vk.rf, fun j hj => ?_⟩⟩
  · show upd (F 10) c x d = upd op c x d
    by_cases e : d = c
    · rw [e, upd_s9, upd_s9]
    · rw [upd_o e, upd_o e]; exact h5 d hd
  · exact if_neg (fun e => hj (by rw [e]; simp))
def MPr (cs : List Nat) (R : Sum Int32 MS) (v : Nat → Int32) (F : Nat → Nat → Int32) : Prop := (∀ st, R = .inr st → MP cs st.1 st.2.1 st.2.2.1 st.2.2.2 (-1) v F) ∧ ∀ p, R = .inl p → v 13 = p
theorem MPr.r {cs : List Nat} {R : Sum Int32 MS} {i : Nat} {S : List Mu} {O : List Tok} {op : Nat → Int32} {v : Nat → Int32} {F : Nat → Nat → Int32} (e : R = .inr (i, S, O, op)) (h : MP cs i S O op (-1) v F) : MPr cs R v F :=
  ⟨fun st hs => by rw [e] at hs; injection hs with hs; subst hs; exact h, fun p hp => by rw [e] at hp; cases hp⟩
theorem MPr.l {cs : List Nat} {R : Sum Int32 MS} {i : Nat} {S : List Mu} {O : List Tok} {op : Nat → Int32} {il : Int32} {v : Nat → Int32} {F : Nat → Nat → Int32} (e : R = .inl il) (h : MP cs i S O op il v F) : MPr cs R v F :=
  ⟨fun st hs => (by rw [e] at hs; cases hs), fun p hp => by rw [e] at hp; injection hp with hp; subst hp; exact h.2.2.2.2.2⟩

theorem Cu_ub {cs : List Nat} {v : Nat → Int32} {F : Nat → Nat → Int32} {i e0 : Nat} (hx : MTx cs v F) (h : Cu cs i e0 (tokA cs e0).2) : (tokA cs e0).2 ≤ cs.length := by
  by_cases hz : (tokA cs e0).1.1 = 0
  · rw [(spT_E hx.2.2.2 h.1 hz).2]
    exact Nat.le_refl _
  · exact (spT_A h.1 hz).2.2.2

set_option maxHeartbeats 4000000 in
set_option maxRecDepth 100000 in
/-- take(wanted) -/
theorem cM_take (l : Launch) (D : va_G) (tys : List (ClassId × FieldType)) (A : Nat → Prop) (ws : va_W) (cI : ClassId) (hI : tys[0]? = some (cI, .int)) (ad : Nat → Nat) (km : Nat) (v : Nat → Int32) (F : Nat → Nat → Int32) (cs : List Nat) (i : Nat) (S : List Mu) (O : List Tok) (op : Nat → Int32) (il : Int32) (hQ : MP cs i S O op il v F) (K : Int32) (hK0 : ¬ K = 0) (hM : ModF cI ad ws km v F) : x_Mv l yM_take wM_take (xR 3) D xCl tys A [.ref (ad km), .int K] ws (fun ws1 => x_fr km (km + 24) ws ws1 ∧ ∃ v9, ModF cI ad ws1 km v9 F ∧ MP cs (tkI (spT cs 0) K i) S O op (tkL (spT cs 0) K i il) v9 F ∧ kpR v F v9 F) := by
  have hF : x_fr km (km + 24) ws ws := x_fr.rf
  have hkp : kpR v F v F := kpR.rf
  have hQ0 := hQ
  refine x_enter (by decide) rfl (Nat.le_of_ble_eq_true rfl) (fun p e s m args below meth c ls hx hb hr hlk hml hown hnm hts hK hP hD hS hA hN hl => ?_)
  have hl : lv_has ls 2 [(0, .ref (ad km)), (1, .int K)] := hl
  refine lv_aload_n hx hb dM_take_0 rfl (lv_at hl 0 rfl) ?_
  refine va_get (D := D) (cl := xCl) (ci := 7) (v := .int (v 9)) (C := rnM) (T := tbM) (N := 39) hx hb hts inM hown hK hP km hM.1 rfl 9 (by decide) (hts _ tw_626) (fun _ h9 => h9) rfl dM_take_1 ?_
  refine lv_iload_n hx hb dM_take_4 rfl (lv_at hl 1 rfl) ?_
  refine lv_icmp_ne (tgt := 15) hx hb dM_take_5 (by decide) (fun c5 => ?_) (fun c5 => ?_)
  · refine lv_aload_n hx hb dM_take_15 rfl (lv_at hl 0 rfl) ?_
    refine x_callv (x_runV (n := 0) (As := []) (rest := []) ⟨hx, hb, hml, hown, hts⟩ (cM_fail l D tys A ws cI hI ad km v F hM) tw_809 tw_811 ts_M_fail tw_8 tw_812 (by decide +kernel) rfl rfl ⟨by decide, by decide⟩ ⟨Nat.zero_le _, Nat.zero_le _⟩ (va_recv hK hP (ci := 7) (q0 := km) rfl hM.1) hK hP hD hS hA hN rfl hl.1 rfl (lv_room (Nat.le_of_ble_eq_true rfl)) dM_take_16) hS (fun ws_2 H locs hwn1 hP hD hS => ?_)
    obtain ⟨hF9, hM⟩ := hwn1
    have hF := hF.tr hF9
    obtain ⟨hQ, hkp⟩ := hQ.fail hkp
    exact x_vret hx hb hr hlk hK hP hD hS dM_take_19 (by have c9 : ¬ (tk (spT cs 0) i).1 = K := (by rw [← hQ0.k.1]; exact c5); exact ⟨hF, _, hM, (by rw [tkI_f c9]; unfold tkL; rw [if_neg c9]; exact hQ), hkp⟩)
  · refine lv_aload_n hx hb dM_take_8 rfl (lv_at hl 0 rfl) ?_
    obtain ⟨en3, hcun3, hnxn3⟩ := hQ.2.1
    refine x_callv (x_runV (n := 0) (As := []) (rest := []) ⟨hx, hb, hml, hown, hts⟩ (cM_next l D tys A ws cI hI ad km v F cs hQ.1 (tokA cs en3).2 (Cu_ub hQ.1 hcun3) hnxn3.2.2.1 hM) tw_771 tw_773 ts_M_next tw_8 tw_774 (by decide +kernel) rfl rfl ⟨by decide, by decide⟩ ⟨Nat.zero_le _, Nat.zero_le _⟩ (va_recv hK hP (ci := 7) (q0 := km) rfl hM.1) hK hP hD hS hA hN rfl hl.1 rfl (lv_room (Nat.le_of_ble_eq_true rfl)) dM_take_9) hS (fun ws_4 H locs hwn3 hP hD hS => ?_)
    obtain ⟨hF9, vn3, hM, hvn3, hnn3⟩ := hwn3
    have hF := hF.tr hF9
    obtain ⟨hQ, hkp⟩ := hQ.nxt hkp hcun3 (fun z9 => hK0 (c5.symm.trans (hQ0.k.1.trans z9))) hvn3 hnn3
    refine lv_goto (tgt := 19) hx hb dM_take_12 (by decide) ?_
    exact x_vret hx hb hr hlk hK hP hD hS dM_take_19 (by have c9 : (tk (spT cs 0) i).1 = K := (by rw [← hQ0.k.1]; exact c5); exact ⟨hF, _, hM, (by rw [tkI_t c9, tkL_t c9]; exact hQ), hkp⟩)
