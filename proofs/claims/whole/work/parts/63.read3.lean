-- ===== the tokens of a text are well formed =====
theorem ite_v {p : Prop} [Decidable p] {a b x : Int32} (h : (if p then a else b) = x) (hb : ¬ b = x) : p ∧ a = x := by
  by_cases c : p
  · rw [if_pos c] at h; exact ⟨c, h⟩
  · rw [if_neg c] at h; exact absurd h hb
theorem ite_n9 {p : Prop} [Decidable p] {a b x : Int32} (ha : ¬ a = x) (hb : ¬ b = x) : ¬ (if p then a else b) = x := by
  by_cases c : p
  · rw [if_pos c]; exact ha
  · rw [if_neg c]; exact hb
theorem wk_n {cs : List Nat} {a z : Nat} {x : Int32} (h : x = 2 ∨ x = 3 ∨ x = 4) : ¬ wkF cs a z = x := by
  unfold wkF
  rcases h with rfl | rfl | rfl <;> exact ite_n9 (by decide) (ite_n9 (by decide) (ite_n9 (by decide) (ite_n9 (by decide) (ite_n9 (by decide) (ite_n9 (by decide) (ite_n9 (by decide) (ite_n9 (by decide) (ite_n9 (by decide) (by decide)))))))))
theorem rk_3 {cs : List Nat} {a b : Nat} (h : rkF cs a b = 3) : isCp (chN cs a) = true := by
  unfold rkF at h
  exact (ite_v h (ite_n9 (by decide) (ite_n9 (by decide) (wk_n (by decide))))).1.2
theorem rk_4 {cs : List Nat} {a b : Nat} (h : rkF cs a b = 4) : b - a + 1 ≤ 2 ∧ isDg (chN cs a) = true ∧ isDg (chN cs b) = true := by
  unfold rkF at h
  by_cases c : b - a + 1 = 1 ∧ isCp (chN cs a) = true
  · rw [if_pos c] at h; exact absurd h (by decide)
  · rw [if_neg c] at h
    exact (ite_v h (ite_n9 (by decide) (wk_n (by decide)))).1
theorem rk_2 {cs : List Nat} {a b : Nat} (h : rkF cs a b = 2) : 97 ≤ chN cs a ∧ chN cs a < 103 ∧ isDg (chN cs b) = true := by
  unfold rkF at h
  by_cases c : b - a + 1 = 1 ∧ isCp (chN cs a) = true
  · rw [if_pos c] at h; exact absurd h (by decide)
  · rw [if_neg c] at h
    by_cases c2 : b - a + 1 ≤ 2 ∧ isDg (chN cs a) = true ∧ isDg (chN cs b) = true
    · rw [if_pos c2] at h; exact absurd h (by decide)
    · rw [if_neg c2] at h
      exact (ite_v h (wk_n (by decide))).1.2
theorem dg_of {w : Nat} (h : isDg w = true) : 48 ≤ w ∧ w ≤ 57 := by unfold isDg at h; rw [decide_eq_true_eq] at h; exact h
theorem cp_of {w : Nat} (h : isCp w = true) : 65 ≤ w ∧ w ≤ 90 := by unfold isCp at h; rw [decide_eq_true_eq] at h; exact h
theorem dv_1 {c d : Nat} {k : Nat} (hk : k ≤ c) (hd : 48 ≤ d) : (nI c - nI k) * 10 + nI d - 48 = nI ((c - k) * 10 + (d - 48)) := by
  rw [pk_sub hk, show (10 : Int32) = nI 10 from rfl, pk_mul, nI_add, show (48 : Int32) = nI 48 from rfl, pk_sub (by omega), show (c - k) * 10 + d - 48 = (c - k) * 10 + (d - 48) by omega]
theorem rv_2 {cs : List Nat} {a b : Nat} (h : rkF cs a b = 2) : ∃ v, v < 60 ∧ rvF cs (rkF cs a b) a b = nI v := by
  obtain ⟨h1, h2, h3⟩ := rk_2 h
  have := dg_of h3
  refine ⟨(chN cs a - 97) * 10 + (chN cs b - 48), by omega, ?_⟩
  rw [h]
  unfold rvF
  rw [if_neg (by decide), if_pos rfl, show (97 : Int32) = nI 97 from rfl, dv_1 h1 this.1]
theorem rv_3 {cs : List Nat} {a b : Nat} (h : rkF cs a b = 3) : ∃ c, c < 26 ∧ rvF cs (rkF cs a b) a b = nI c := by
  have := cp_of (rk_3 h)
  refine ⟨chN cs a - 65, by omega, ?_⟩
  rw [h]
  unfold rvF
  rw [if_pos rfl, show (65 : Int32) = nI 65 from rfl, pk_sub this.1]
theorem rv_4 {cs : List Nat} {a b : Nat} (h : rkF cs a b = 4) : ∃ R, R < 100 ∧ rvF cs (rkF cs a b) a b = nI R := by
  obtain ⟨-, h2, h3⟩ := rk_4 h
  have := dg_of h2
  have h4 := dg_of h3
  rw [h]
  unfold rvF
  rw [if_neg (by decide), if_neg (by decide), if_pos rfl]
  by_cases e : a = b
  · exact ⟨chN cs b - 48, by omega, by rw [if_pos e, show (48 : Int32) = nI 48 from rfl, pk_sub h4.1]⟩
  · refine ⟨(chN cs a - 48) * 10 + (chN cs b - 48), by omega, ?_⟩
    rw [if_neg e, ← dv_1 this.1 h4.1]
    rfl
def tkW (q : Tok) : Prop := (q.1 = 2 → ∃ v, v < 60 ∧ q.2.1 = nI v) ∧ (q.1 = 3 → ∃ c, c < 26 ∧ q.2.1 = nI c) ∧ (q.1 = 4 → ∃ R, R < 100 ∧ q.2.1 = nI R)
theorem tkW_0 (x : Int32) : tkW (0, 0, x) := ⟨fun h => absurd h (show ¬ (0 : Int32) = 2 by decide), fun h => absurd h (show ¬ (0 : Int32) = 3 by decide), fun h => absurd h (show ¬ (0 : Int32) = 4 by decide)⟩
theorem tkW_F (cs : List Nat) (a : Nat) : tkW (tokF cs a).1 := by
  unfold tokF
  split
  · split
    · exact ⟨rv_2, rv_3, rv_4⟩
    · have key : ∀ x : Int32, (x = 2 ∨ x = 3 ∨ x = 4) → ¬ (if isSg (chN cs a) = true then nI (chN cs a) else 1) = x := by
        intro x hx
        split
        · rename_i h
          unfold isSg at h
          rw [decide_eq_true_eq] at h
          rcases hx with rfl | rfl | rfl
          · rw [show (2 : Int32) = nI 2 from rfl, nI_eq (by omega) (by omega)]; omega
          · rw [show (3 : Int32) = nI 3 from rfl, nI_eq (by omega) (by omega)]; omega
          · rw [show (4 : Int32) = nI 4 from rfl, nI_eq (by omega) (by omega)]; omega
        · rcases hx with rfl | rfl | rfl <;> decide
      exact ⟨fun h => absurd h (key 2 (by decide)), fun h => absurd h (key 3 (by decide)), fun h => absurd h (key 4 (by decide))⟩
  · exact tkW_0 _
theorem tkW_T (cs : List Nat) : ∀ (n a : Nat), cs.length - a ≤ n → ∀ q ∈ spT cs a, tkW q := by
  intro n
  induction n with
  | zero =>
    intro a h q hq
    rw [spT_e (by omega), List.mem_singleton] at hq
    rw [hq]; exact tkW_0 _
  | succ n ih =>
    intro a h q hq
    by_cases c : a < cs.length
    · by_cases b : isBl (chN cs a) = true
      · rw [spT_b c b] at hq; exact ih _ (by omega) q hq
      · have := tokF_lt c
        rw [spT_t c b] at hq
        rcases List.mem_cons.mp hq with z | z
        · rw [z]; exact tkW_F cs a
        · exact ih _ (by omega) q z
    · rw [spT_e c, List.mem_singleton] at hq
      rw [hq]; exact tkW_0 _
theorem TW_T {cs : List Nat} (h : cs.length ≤ 80) : TW (spT cs 0) := by
  refine ⟨by have := spT_len cs cs.length 0 (by omega); omega, fun i => ?_⟩
  show tkW (tk (spT cs 0) i)
  rcases Nat.lt_or_ge i (spT cs 0).length with z | z
  · unfold tk
    rw [List.getD_eq_getElem?_getD, List.getElem?_eq_getElem z]
    exact tkW_T cs _ 0 (Nat.le_refl _) _ (List.getElem_mem z)
  · unfold tk
    rw [List.getD_eq_getElem?_getD, List.getElem?_eq_none z]
    exact tkW_0 _
-- ===== the model's reader keeps in bounds, and ends =====
def dN (it : Mu) : Nat := it.2.1.toInt.toNat
def hM (it : Mu) : Nat := if it.1 = 1 ∨ it.1 = 3 then 6 * (12 - dN it) + 3 else if it.1 = 2 then 6 * (12 - dN it) + 1 else 1
def wfM (it : Mu) : Prop := ((it.1 = 1 ∨ it.1 = 2 ∨ it.1 = 3) ∧ (∃ e, e ≤ 12 ∧ it.2.1 = nI e) ∧ it.2.2 = 0) ∨ ((it.1 = 4 ∧ ¬ it.2.2 = 0) ∨ it.1 = 5 ∨ it.1 = 6) ∨ ((it.1 = 7 ∨ it.1 = 8) ∧ ∃ c, c < 26 ∧ it.2.2 = nI c)
def Bd : List Mu → Prop
  | [] => True
  | it :: S => (S.length + hM it ≤ 100 ∧ wfM it) ∧ Bd S
def pnd : List Mu → Nat
  | [] => 0
  | it :: S => (if it.1 = 5 ∨ it.1 = 6 ∨ it.1 = 7 ∨ it.1 = 8 then 1 else 0) + pnd S
def wtM : List Mu → Nat
  | [] => 0
  | it :: S => (if it.1 = 1 then 3 else 1) + wtM S
def MI (T : List Tok) (st : MS) : Prop := Bd st.2.1 ∧ st.2.2.1.length + pnd st.2.1 ≤ st.1 ∧ st.1 < T.length
def muM (st : MS) : Nat := 20 * (100 - st.1) + wtM st.2.1
theorem dN_nI {w x : Int32} {e : Nat} (h : e ≤ 12) : dN (w, nI e, x) = e := by show (nI e).toInt.toNat = e; rw [nI_toInt (by omega), Int.toNat_natCast]
theorem hM_1 {e : Nat} (h : e ≤ 12) : hM (1, nI e, 0) = 6 * (12 - e) + 3 := by unfold hM; rw [if_pos (Or.inl rfl), dN_nI h]
theorem hM_3 {e : Nat} (h : e ≤ 12) : hM (3, nI e, 0) = 6 * (12 - e) + 3 := by unfold hM; rw [if_pos (Or.inr rfl), dN_nI h]
theorem hM_2 {e : Nat} (h : e ≤ 12) : hM (2, nI e, 0) = 6 * (12 - e) + 1 := by unfold hM; rw [if_neg (show ¬ ((2 : Int32) = 1 ∨ (2 : Int32) = 3) by decide), if_pos rfl, dN_nI h]
theorem wf_e {w : Int32} {e : Nat} (h : e ≤ 12) (hw : w = 1 ∨ w = 2 ∨ w = 3) : wfM (w, nI e, 0) := Or.inl ⟨hw, ⟨e, h, rfl⟩, rfl⟩
theorem wf_o {w y x : Int32} (hw : w = 5 ∨ w = 6) : wfM (w, y, x) := Or.inr (Or.inl (Or.inr hw))
theorem wf_4 {y x : Int32} (hx : ¬ x = 0) : wfM (4, y, x) := Or.inr (Or.inl (Or.inl ⟨rfl, hx⟩))
theorem wf_c {w y : Int32} {c : Nat} (h : c < 26) (hw : w = 7 ∨ w = 8) : wfM (w, y, nI c) := Or.inr (Or.inr ⟨hw, c, h, rfl⟩)
/-- the last token isn't followed by another -/
def TE (T : List Tok) : Prop := ∀ i, i < T.length → ¬ (tk T i).1 = 0 → i + 1 < T.length
theorem TE.adv {T : List Tok} (h : TE T) {i : Nat} {K : Int32} (hk : (tk T i).1 = K) (hK : ¬ K = 0) : i + 1 < T.length := h i (tk_lt9 hk hK) (fun z => hK (hk.symm.trans z))
theorem MI.term {T : List Tok} (hT : TW T) (hE : TE T) {e i : Nat} (he : e ≤ 12) {S : List Mu} {O : List Tok} {op : Nat → Int32} (hb : S.length + (6 * (12 - e) + 1) ≤ 100) (hB : Bd S) (hp : O.length + pnd S ≤ i) (hi : i < T.length) {st : MS} (h : mTerm T (nI e) i S O op = .inr st) : MI T st ∧ muM st < 20 * (100 - i) + (1 + wtM S) := by
  have h81 := hT.1
  unfold mTerm at h
  by_cases c0 : nI e = 12 ∨ ((tk T i).1 = 3 ∧ op (tk T i).2.1.toNatClampNeg = 0)
  · rw [if_pos c0] at h; cases h
  have he12 : e + 1 ≤ 12 := by
    rcases Nat.lt_or_ge e 12 with z | z
    · omega
    · exact absurd (Or.inl (by rw [show e = 12 by omega]; rfl)) c0
  have e1 : nI e + 1 = nI (e + 1) := nI_1 e
  rw [if_neg c0, e1] at h
  have s1 : hM (1, nI (e + 1), 0) = 6 * (12 - (e + 1)) + 3 := hM_1 he12
  have w1 : wfM (1, nI (e + 1), 0) := wf_e he12 (by decide)
  by_cases c1 : (tk T i).1 = 2 ∨ (tk T i).1 = 3 ∨ (tk T i).1 = 5
  · rw [if_pos c1] at h
    injection h with h; subst h
    have := hE i hi (by rcases c1 with z | z | z <;> rw [z] <;> decide)
    exact ⟨⟨hB, by show (O ++ [_]).length + pnd S ≤ i + 1; rw [List.length_append, List.length_singleton]; omega, this⟩, by show 20 * (100 - (i + 1)) + wtM S < _; omega⟩
  rw [if_neg c1] at h
  by_cases c2 : (tk T i).1 = 40
  · rw [if_pos c2] at h
    injection h with h; subst h
    have := hE.adv c2 (by decide)
    refine ⟨⟨⟨⟨by rw [s1, List.length_cons]; omega, w1⟩, ⟨by show S.length + 1 ≤ 100; omega, (by first | exact wf_o (by decide) | exact wf_4 (by decide))⟩, hB⟩, ?_, this⟩, ?_⟩
    · show O.length + (0 + (0 + pnd S)) ≤ i + 1; omega
    · show 20 * (100 - (i + 1)) + (3 + (1 + wtM S)) < _; omega
  rw [if_neg c2] at h
  by_cases c3 : (tk T i).1 = 6 ∨ (tk T i).1 = 7
  · rw [if_pos c3] at h
    by_cases d1 : (tk T (i + 1)).1 = 40
    · rw [if_pos d1] at h
      injection h with h; subst h
      have := hE.adv d1 (by decide)
      refine ⟨⟨⟨⟨by rw [s1, List.length_cons]; omega, w1⟩, ⟨by show S.length + 1 ≤ 100; omega, (by first | exact wf_o (by decide) | exact wf_4 (by decide))⟩, hB⟩, ?_, this⟩, ?_⟩
      · show O.length + (0 + (1 + pnd S)) ≤ i + 2; omega
      · show 20 * (100 - (i + 2)) + (3 + (1 + wtM S)) < _; omega
    · rw [if_neg d1] at h; cases h
  rw [if_neg c3] at h
  by_cases c4 : (tk T i).1 = 10 ∨ (tk T i).1 = 11
  · rw [if_pos c4] at h
    by_cases d1 : (tk T (i + 1)).1 = 40
    · rw [if_pos d1] at h
      injection h with h; subst h
      have := hE.adv d1 (by decide)
      refine ⟨⟨⟨⟨by rw [s1, List.length_cons, List.length_cons]; omega, w1⟩, ⟨by show S.length + 1 + 1 ≤ 100; omega, (by first | exact wf_o (by decide) | exact wf_4 (by decide))⟩, ⟨by show S.length + 1 ≤ 100; omega, (by first | exact wf_o (by decide) | exact wf_4 (by decide))⟩, hB⟩, ?_, this⟩, ?_⟩
      · show O.length + (0 + (0 + (1 + pnd S))) ≤ i + 2; omega
      · show 20 * (100 - (i + 2)) + (3 + (1 + (1 + wtM S))) < _; omega
    · rw [if_neg d1] at h; cases h
  rw [if_neg c4] at h
  by_cases c5 : (tk T i).1 = 8
  · rw [if_pos c5] at h
    by_cases d1 : (tk T (i + 1)).1 = 40
    · rw [if_pos d1] at h
      injection h with h; subst h
      have := hE.adv d1 (by decide)
      refine ⟨⟨⟨⟨by rw [s1, List.length_cons, List.length_cons, List.length_cons, List.length_cons]; omega, w1⟩, ⟨by show S.length + 1 + 1 + 1 + 1 ≤ 100; omega, (by first | exact wf_o (by decide) | exact wf_4 (by decide))⟩, ⟨by rw [s1, List.length_cons, List.length_cons]; omega, w1⟩, ⟨by show S.length + 1 + 1 ≤ 100; omega, (by first | exact wf_o (by decide) | exact wf_4 (by decide))⟩, ⟨by show S.length + 1 ≤ 100; omega, (by first | exact wf_o (by decide) | exact wf_4 (by decide))⟩, hB⟩, ?_, this⟩, ?_⟩
      · show O.length + (0 + (0 + (0 + (0 + (1 + pnd S))))) ≤ i + 2; omega
      · show 20 * (100 - (i + 2)) + (3 + (1 + (3 + (1 + (1 + wtM S))))) < _; omega
    · rw [if_neg d1] at h; cases h
  rw [if_neg c5] at h
  by_cases c6 : (tk T i).1 = 9
  · rw [if_pos c6] at h
    by_cases d1 : (tk T (i + 1)).1 = 40
    · rw [if_pos d1] at h
      by_cases d2 : (tk T (i + 2)).1 = 4
      · rw [if_pos d2] at h
        by_cases d3 : (tk T (i + 3)).1 = 44
        · rw [if_pos d3] at h
          injection h with h; subst h
          have := hE.adv d3 (by decide)
          refine ⟨⟨⟨⟨by rw [s1, List.length_cons, List.length_cons]; omega, w1⟩, ⟨by show S.length + 1 + 1 ≤ 100; omega, (by first | exact wf_o (by decide) | exact wf_4 (by decide))⟩, ⟨by show S.length + 1 ≤ 100; omega, (by first | exact wf_o (by decide) | exact wf_4 (by decide))⟩, hB⟩, ?_, this⟩, ?_⟩
          · show O.length + (0 + (0 + (1 + pnd S))) ≤ i + 4; omega
          · show 20 * (100 - (i + 4)) + (3 + (1 + (1 + wtM S))) < _; omega
        · rw [if_neg d3] at h; cases h
      · rw [if_neg d2] at h; cases h
    · rw [if_neg d1] at h; cases h
  rw [if_neg c6] at h
  by_cases c7 : (tk T i).1 = 12
  · rw [if_pos c7] at h
    by_cases d1 : (tk T (i + 1)).1 = 3
    · rw [if_pos d1] at h
      obtain ⟨c, hc, ec⟩ := (hT.2 (i + 1)).2.1 d1
      by_cases d2 : (tk T (i + 2)).1 = 61
      · rw [if_pos d2, ec] at h
        injection h with h; subst h
        have := hE.adv d2 (by decide)
        refine ⟨⟨⟨⟨by rw [s1, List.length_cons, List.length_cons, List.length_cons]; omega, w1⟩, ⟨by show S.length + 1 + 1 + 1 ≤ 100; omega, wf_c hc (by decide)⟩, ⟨by rw [s1, List.length_cons]; omega, w1⟩, ⟨by show S.length + 1 ≤ 100; omega, wf_c hc (by decide)⟩, hB⟩, ?_, this⟩, ?_⟩
        · show O.length + (0 + (1 + (0 + (1 + pnd S)))) ≤ i + 3; omega
        · show 20 * (100 - (i + 3)) + (3 + (1 + (3 + (1 + wtM S)))) < _; omega
      · rw [if_neg d2] at h; cases h
    · rw [if_neg d1] at h; cases h
  rw [if_neg c7] at h; cases h
theorem MI.s1 {T : List Tok} {e i : Nat} {S : List Mu} {O : List Tok} {op : Nat → Int32} (he : e ≤ 12) (hb : S.length + hM (1, nI e, 0) ≤ 100) (hB : Bd S) (hp : O.length + pnd S ≤ i) (hi : i < T.length) : MI T (i, (2, nI e, 0) :: (3, nI e, 0) :: S, O, op) ∧ muM (i, (2, nI e, 0) :: (3, nI e, 0) :: S, O, op) < 20 * (100 - i) + (3 + wtM S) := by
  rw [hM_1 he] at hb
  refine ⟨⟨⟨⟨by rw [hM_2 he, List.length_cons]; omega, wf_e he (by decide)⟩, ⟨by rw [hM_3 he]; omega, wf_e he (by decide)⟩, hB⟩, ?_, hi⟩, ?_⟩
  · show O.length + (0 + (0 + pnd S)) ≤ i; omega
  · show 20 * (100 - i) + (1 + (1 + wtM S)) < _; omega
theorem MI.s3 {T : List Tok} {e i : Nat} {S : List Mu} {O : List Tok} {op : Nat → Int32} (hT : TW T) (hE : TE T) (he : e ≤ 12) (hb : S.length + hM (3, nI e, 0) ≤ 100) (hB : Bd S) (hp : O.length + pnd S ≤ i) (hi : i < T.length) (c : isJnI (tk T i).1 = true) : MI T (i + 1, (2, nI e, 0) :: (6, 0, (tk T i).1) :: (3, nI e, 0) :: S, O, op) ∧ muM (i + 1, (2, nI e, 0) :: (6, 0, (tk T i).1) :: (3, nI e, 0) :: S, O, op) < 20 * (100 - i) + (1 + wtM S) := by
  have h81 := hT.1
  have := hE i hi (isJn_nz c)
  rw [hM_3 he] at hb
  refine ⟨⟨⟨⟨by rw [hM_2 he, List.length_cons, List.length_cons]; omega, wf_e he (by decide)⟩, ⟨by show S.length + 1 + 1 ≤ 100; omega, (by first | exact wf_o (by decide) | exact wf_4 (by decide))⟩, ⟨by rw [hM_3 he]; omega, wf_e he (by decide)⟩, hB⟩, ?_, this⟩, ?_⟩
  · show O.length + (0 + (1 + (0 + pnd S))) ≤ i + 1; omega
  · show 20 * (100 - (i + 1)) + (1 + (1 + (1 + wtM S))) < _; omega
/-- j tokens read, at most one order written, nothing asked for -/
theorem MI.s0 {T : List Tok} {i j : Nat} {S : List Mu} {O2 : List Tok} {op : Nat → Int32} (hB : Bd S) (hp : O2.length + pnd S ≤ i + j) (hi : i + j < T.length) : MI T (i + j, S, O2, op) ∧ muM (i + j, S, O2, op) < 20 * (100 - i) + (1 + wtM S) :=
  ⟨⟨hB, hp, hi⟩, by show 20 * (100 - (i + j)) + wtM S < _; omega⟩
theorem MI.step {T : List Tok} (hT : TW T) (hE : TE T) {it : Mu} {i : Nat} {S : List Mu} {O : List Tok} {op : Nat → Int32} (hm : MI T (i, it :: S, O, op)) {st : MS} (h : mst T it i S O op = .inr st) : MI T st ∧ muM st < muM (i, it :: S, O, op) := by
  obtain ⟨w, y, x⟩ := it
  obtain ⟨⟨⟨hb, hw⟩, hB⟩, hp, hi⟩ := hm
  replace hb : S.length + hM (w, y, x) ≤ 100 := hb
  replace hp : O.length + ((if w = 5 ∨ w = 6 ∨ w = 7 ∨ w = 8 then 1 else 0) + pnd S) ≤ i := hp
  replace hi : i < T.length := hi
  replace hw : ((w = 1 ∨ w = 2 ∨ w = 3) ∧ (∃ e, e ≤ 12 ∧ y = nI e) ∧ x = 0) ∨ ((w = 4 ∧ ¬ x = 0) ∨ w = 5 ∨ w = 6) ∨ ((w = 7 ∨ w = 8) ∧ ∃ c, c < 26 ∧ x = nI c) := hw
  show MI T st ∧ muM st < 20 * (100 - i) + ((if w = 1 then 3 else 1) + wtM S)
  rcases hw with ⟨hw, ⟨e, he, rfl⟩, rfl⟩ | hw | ⟨hw, c, hc, rfl⟩
  · rcases hw with rfl | rfl | rfl
    · rw [if_neg (by decide)] at hp
      rw [if_pos rfl]
      replace h : Sum.inr (i, (2, nI e, (0 : Int32)) :: (3, nI e, (0 : Int32)) :: S, O, op) = (Sum.inr st : Sum Int32 MS) := h
      injection h with h; subst h
      exact MI.s1 he hb hB (by omega) hi
    · rw [if_neg (by decide)] at hp
      rw [if_neg (by decide)]
      rw [hM_2 he] at hb
      exact MI.term hT hE he hb hB (by omega) hi h
    · rw [if_neg (by decide)] at hp
      rw [if_neg (by decide)]
      replace h : (if isJnI (tk T i).1 = true then Sum.inr (i + 1, (2, nI e, (0 : Int32)) :: (6, (0 : Int32), (tk T i).1) :: (3, nI e, (0 : Int32)) :: S, O, op) else Sum.inr (i, S, O, op)) = (Sum.inr st : Sum Int32 MS) := h
      by_cases c : isJnI (tk T i).1 = true
      · rw [if_pos c] at h
        injection h with h; subst h
        exact MI.s3 hT hE he hb hB (by omega) hi c
      · rw [if_neg c] at h
        injection h with h; subst h
        exact MI.s0 (j := 0) hB (by omega) hi
  · rcases hw with ⟨rfl, hx⟩ | rfl | rfl
    · rw [if_neg (by decide)] at hp
      rw [if_neg (by decide)]
      replace h : (if (tk T i).1 = x then Sum.inr (i + 1, S, O, op) else Sum.inl (tk T i).2.2) = (Sum.inr st : Sum Int32 MS) := h
      by_cases c : (tk T i).1 = x
      · rw [if_pos c] at h
        injection h with h; subst h
        exact MI.s0 (j := 1) hB (by omega) (hE.adv c hx)
      · rw [if_neg c] at h; cases h
    · rw [if_pos (by decide)] at hp
      rw [if_neg (by decide)]
      replace h : (if (tk T i).1 = 44 then (if (tk T (i + 1)).1 = 4 then (if (tk T (i + 2)).1 = 41 then Sum.inr (i + 3, S, O ++ [(x, (tk T (i + 1)).2.1, 0)], op) else Sum.inl (tk T (i + 2)).2.2) else Sum.inl (tk T (i + 1)).2.2) else (if (tk T i).1 = 41 then Sum.inr (i + 1, S, O ++ [(x, -1, 0)], op) else Sum.inl (tk T i).2.2)) = (Sum.inr st : Sum Int32 MS) := h
      by_cases c : (tk T i).1 = 44
      · rw [if_pos c] at h
        by_cases c2 : (tk T (i + 1)).1 = 4
        · rw [if_pos c2] at h
          by_cases c3 : (tk T (i + 2)).1 = 41
          · rw [if_pos c3] at h
            injection h with h; subst h
            exact MI.s0 (j := 3) hB (by rw [List.length_append, List.length_singleton]; omega) (hE.adv c3 (by decide))
          · rw [if_neg c3] at h; cases h
        · rw [if_neg c2] at h; cases h
      · rw [if_neg c] at h
        by_cases c3 : (tk T i).1 = 41
        · rw [if_pos c3] at h
          injection h with h; subst h
          exact MI.s0 (j := 1) hB (by rw [List.length_append, List.length_singleton]; omega) (hE.adv c3 (by decide))
        · rw [if_neg c3] at h; cases h
    · rw [if_pos (by decide)] at hp
      rw [if_neg (by decide)]
      replace h : Sum.inr (i, S, O ++ [(x, y, 0)], op) = (Sum.inr st : Sum Int32 MS) := h
      injection h with h; subst h
      exact MI.s0 (j := 0) hB (by rw [List.length_append, List.length_singleton]; omega) hi
  · rcases hw with rfl | rfl
    · rw [if_pos (by decide)] at hp
      rw [if_neg (by decide)]
      replace h : (if (tk T i).1 = 13 then Sum.inr (i + 1, S, O ++ [(20, nI c, 0)], upd op (nI c).toNatClampNeg (op (nI c).toNatClampNeg + 1)) else Sum.inl (tk T i).2.2) = (Sum.inr st : Sum Int32 MS) := h
      by_cases c3 : (tk T i).1 = 13
      · rw [if_pos c3] at h
        injection h with h; subst h
        exact MI.s0 (j := 1) hB (by rw [List.length_append, List.length_singleton]; omega) (hE.adv c3 (by decide))
      · rw [if_neg c3] at h; cases h
    · rw [if_pos (by decide)] at hp
      rw [if_neg (by decide)]
      replace h : Sum.inr (i, S, O ++ [(21, nI c, 0)], upd op (nI c).toNatClampNeg (op (nI c).toNatClampNeg - 1)) = (Sum.inr st : Sum Int32 MS) := h
      injection h with h; subst h
      exact MI.s0 (j := 0) hB (by rw [List.length_append, List.length_singleton]; omega) hi
theorem TE_T {cs : List Nat} (hc : ∀ j, 32 ≤ chN cs j ∧ chN cs j ≤ 126) : TE (spT cs 0) := by
  have key : ∀ (n a : Nat), cs.length - a ≤ n → ∀ i, i < (spT cs a).length → ¬ (tk (spT cs a) i).1 = 0 → i + 1 < (spT cs a).length := by
    intro n
    induction n with
    | zero =>
      intro a h i hi hz
      rw [spT_e (by omega)] at hi hz
      have : i = 0 := by simp at hi; omega
      subst this
      exact absurd rfl hz
    | succ n ih =>
      intro a h i hi hz
      by_cases c : a < cs.length
      · by_cases b : isBl (chN cs a) = true
        · rw [spT_b c b] at hi hz ⊢; exact ih _ (by omega) i hi hz
        · have := tokF_lt c
          rw [spT_t c b] at hi hz ⊢
          cases i with
          | zero =>
            have : 0 < (spT cs (tokF cs a).2).length := by
              by_cases c2 : (tokF cs a).2 < cs.length
              · have h1 := spT_skip (cs := cs) _ (tokF cs a).2 (Nat.le_refl _)
                rw [h1]
                by_cases c3 : spE isBl cs (tokF cs a).2 < cs.length
                · rw [spT_t c3 (spE_stop _ _ (Nat.le_refl _) c3)]; simp
                · rw [spT_e c3]; simp
              · rw [spT_e c2]; simp
            rw [List.length_cons]; omega
          | succ i =>
            rw [List.length_cons] at hi ⊢
            have := ih (tokF cs a).2 (by omega) i (by omega) hz
            omega
      · rw [spT_e c] at hi hz
        have : i = 0 := by simp at hi; omega
        subst this
        exact absurd rfl hz
  exact key _ 0 (Nat.le_refl _)
