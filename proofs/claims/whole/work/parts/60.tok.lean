-- ===== tokens =====
def spn (p : Nat → Bool) (cs : List Nat) : Nat → Nat → Nat
  | 0, a => a
  | n + 1, a => if a < cs.length ∧ p (chN cs a) = true then spn p cs n (a + 1) else a
/-- behind the characters from a on that p holds of -/
def spE (p : Nat → Bool) (cs : List Nat) (a : Nat) : Nat := spn p cs (cs.length - a) a
theorem spE_s {p : Nat → Bool} {cs : List Nat} {a : Nat} (h : a < cs.length) (hp : p (chN cs a) = true) : spE p cs a = spE p cs (a + 1) := by
  unfold spE
  rw [show cs.length - a = (cs.length - (a + 1)) + 1 by omega]
  show (if _ then _ else _) = _
  rw [if_pos ⟨h, hp⟩]
theorem spE_e {p : Nat → Bool} {cs : List Nat} {a : Nat} (h : ¬ (a < cs.length ∧ p (chN cs a) = true)) : spE p cs a = a := by
  unfold spE
  cases cs.length - a with
  | zero => rfl
  | succ n => show (if _ then _ else _) = _; rw [if_neg h]
theorem spn_le {p : Nat → Bool} {cs : List Nat} : ∀ n a, a ≤ spn p cs n a ∧ (a ≤ cs.length → spn p cs n a ≤ cs.length) := by
  intro n
  induction n with
  | zero => intro a; exact ⟨Nat.le_refl _, id⟩
  | succ n ih =>
    intro a
    show a ≤ (if _ then _ else _) ∧ (a ≤ cs.length → (if _ then _ else _) ≤ cs.length)
    split
    · rename_i h
      obtain ⟨i1, i2⟩ := ih (a + 1)
      exact ⟨by omega, fun _ => i2 (by omega)⟩
    · exact ⟨Nat.le_refl _, id⟩
theorem spE_le (p : Nat → Bool) (cs : List Nat) (a : Nat) : a ≤ spE p cs a := (spn_le _ _).1
theorem spE_ub (p : Nat → Bool) {cs : List Nat} {a : Nat} (h : a ≤ cs.length) : spE p cs a ≤ cs.length := (spn_le _ _).2 h
def isBl (w : Nat) : Bool := decide (w = 32)
/-- the token from e on, and where it ends -/
def tokF (cs : List Nat) (a : Nat) : Tok × Nat :=
  if a < cs.length then (if isRw (chN cs a) = true then ((rkF cs a (spE isRw cs a - 1), rvF cs (rkF cs a (spE isRw cs a - 1)) a (spE isRw cs a - 1), nI a), spE isRw cs a) else (((if isSg (chN cs a) = true then nI (chN cs a) else 1), 0, nI a), a + 1)) else ((0, 0, nI a), a)
def tokA (cs : List Nat) (e : Nat) : Tok × Nat := tokF cs (spE isBl cs e)
/-- all tokens from a on, END last -/
def spl (cs : List Nat) : Nat → Nat → List Tok
  | 0, _ => [(0, 0, nI cs.length)]
  | n + 1, a => if a < cs.length then (if isBl (chN cs a) = true then spl cs n (a + 1) else (tokF cs a).1 :: spl cs n (tokF cs a).2) else [(0, 0, nI cs.length)]
theorem tokF_lt {cs : List Nat} {a : Nat} (h : a < cs.length) : a < (tokF cs a).2 ∧ (tokF cs a).2 ≤ cs.length := by
  unfold tokF
  rw [if_pos h]
  split
  · rename_i hr
    have h1 := spE_s h hr
    have h2 := spE_le isRw cs (a + 1)
    have h3 := spE_ub isRw (a := a) (cs := cs) (by omega)
    exact ⟨by show a < spE isRw cs a; omega, h3⟩
  · exact ⟨by show a < a + 1; omega, by show a + 1 ≤ _; omega⟩
theorem spl_fu {cs : List Nat} : ∀ (n m a : Nat), cs.length - a < n → cs.length - a < m → spl cs n a = spl cs m a := by
  intro n
  induction n with
  | zero => intro m a h; omega
  | succ n ih =>
    intro m a h1 h2
    obtain ⟨m, rfl⟩ : ∃ q, m = q + 1 := ⟨m - 1, by omega⟩
    show (if _ then _ else _) = (if _ then _ else _)
    by_cases h : a < cs.length
    · rw [if_pos h, if_pos h]
      split
      · exact ih m (a + 1) (by omega) (by omega)
      · have := tokF_lt h
        rw [ih m (tokF cs a).2 (by omega) (by omega)]
    · rw [if_neg h, if_neg h]
def spT (cs : List Nat) (a : Nat) : List Tok := spl cs (cs.length - a + 1) a
theorem spT_b {cs : List Nat} {a : Nat} (h : a < cs.length) (hb : isBl (chN cs a) = true) : spT cs a = spT cs (a + 1) := by
  show (if _ then _ else _) = _
  rw [if_pos h, if_pos hb]
  exact spl_fu _ _ _ (by omega) (by omega)
theorem spT_t {cs : List Nat} {a : Nat} (h : a < cs.length) (hb : ¬ isBl (chN cs a) = true) : spT cs a = (tokF cs a).1 :: spT cs (tokF cs a).2 := by
  show (if _ then _ else _) = _
  rw [if_pos h, if_neg hb]
  have := tokF_lt h
  rw [spl_fu (cs.length - a) (cs.length - (tokF cs a).2 + 1) _ (by omega) (by omega)]
  rfl
theorem spT_e {cs : List Nat} {a : Nat} (h : ¬ a < cs.length) : spT cs a = [(0, 0, nI cs.length)] := by
  show (if _ then _ else _) = _
  rw [if_neg h]
theorem spT_skip {cs : List Nat} : ∀ (n a : Nat), cs.length - a ≤ n → spT cs a = spT cs (spE isBl cs a) := by
  intro n
  induction n with
  | zero => intro a h; rw [spE_e (fun c => by omega)]
  | succ n ih =>
    intro a h
    by_cases c : a < cs.length ∧ isBl (chN cs a) = true
    · rw [spT_b c.1 c.2, spE_s c.1 c.2]; exact ih _ (by omega)
    · rw [spE_e c]
theorem spE_stop {p : Nat → Bool} {cs : List Nat} : ∀ (n a : Nat), cs.length - a ≤ n → spE p cs a < cs.length → ¬ p (chN cs (spE p cs a)) = true := by
  intro n
  induction n with
  | zero => intro a h; rw [spE_e (fun c => by omega)]; intro h2; omega
  | succ n ih =>
    intro a h
    by_cases c : a < cs.length ∧ p (chN cs a) = true
    · rw [spE_s c.1 c.2]; exact ih _ (by omega)
    · rw [spE_e c]; intro h2 h3; exact c ⟨h2, h3⟩
/-- the tokens from e on: the next one, and the rest -/
theorem spT_A {cs : List Nat} {e : Nat} (he : e ≤ cs.length) (h : ¬ (tokA cs e).1.1 = 0) : spE isBl cs e < cs.length ∧ spT cs e = (tokA cs e).1 :: spT cs (tokA cs e).2 ∧ e < (tokA cs e).2 ∧ (tokA cs e).2 ≤ cs.length := by
  have hlt : spE isBl cs e < cs.length := by
    apply Nat.lt_of_not_le
    intro c
    apply h
    unfold tokA tokF
    rw [if_neg (by omega)]
  have h1 := spE_le isBl cs e
  have h2 := tokF_lt hlt
  refine ⟨hlt, ?_, ?_, h2.2⟩
  · rw [spT_skip _ e (Nat.le_refl _), spT_t hlt (spE_stop _ e (Nat.le_refl _) hlt)]; rfl
  · show e < (tokF cs (spE isBl cs e)).2; omega
theorem ite_nz {p : Prop} [Decidable p] {a b : Int32} (ha : ¬ a = 0) (hb : ¬ b = 0) : ¬ (if p then a else b) = 0 := by
  by_cases h : p
  · rw [if_pos h]; exact ha
  · rw [if_neg h]; exact hb
theorem rk_nz (cs : List Nat) (a b : Nat) : ¬ rkF cs a b = 0 := ite_nz (by decide) (ite_nz (by decide) (ite_nz (by decide) (ite_nz (by decide) (ite_nz (by decide) (ite_nz (by decide) (ite_nz (by decide) (ite_nz (by decide) (ite_nz (by decide) (ite_nz (by decide) (ite_nz (by decide) (ite_nz (by decide) (by decide))))))))))))
theorem sg_nz {w : Nat} (hw : w < 1000) : ¬ (if isSg w = true then nI w else 1) = 0 := by
  split
  · rename_i h
    unfold isSg at h
    rw [decide_eq_true_eq] at h
    rw [show (0 : Int32) = nI 0 from rfl, nI_eq (by omega) (by omega)]
    omega
  · decide
theorem tokA_nz {cs : List Nat} {e : Nat} (hc : ∀ j, 32 ≤ chN cs j ∧ chN cs j ≤ 126) (h : spE isBl cs e < cs.length) : ¬ (tokA cs e).1.1 = 0 := by
  unfold tokA tokF
  rw [if_pos h]
  split
  · exact rk_nz _ _ _
  · exact sg_nz (by have := hc (spE isBl cs e); omega)
theorem spT_E {cs : List Nat} {e : Nat} (hc : ∀ j, 32 ≤ chN cs j ∧ chN cs j ≤ 126) (he : e ≤ cs.length) (h : (tokA cs e).1.1 = 0) : spT cs e = [(0, 0, nI cs.length)] ∧ (tokA cs e) = ((0, 0, nI cs.length), cs.length) := by
  have h0 : spE isBl cs e = cs.length := by
    have := spE_ub isBl (cs := cs) he
    rcases Nat.lt_or_ge (spE isBl cs e) cs.length with z | z
    · exact absurd h (tokA_nz hc z)
    · omega
  refine ⟨by rw [spT_skip _ e (Nat.le_refl _), h0, spT_e (by omega)], ?_⟩
  unfold tokA tokF
  rw [h0, if_neg (by omega)]
/-- e is where the reader stands behind the i-th token -/
def Cu (cs : List Nat) (i e e2 : Nat) : Prop := e ≤ cs.length ∧ (spT cs 0).drop i = spT cs e ∧ e2 = (tokA cs e).2
theorem spT_len (cs : List Nat) : ∀ (n a : Nat), cs.length - a ≤ n → (spT cs a).length ≤ cs.length - a + 1 := by
  intro n
  induction n with
  | zero => intro a h; rw [spT_e (by omega)]; simp
  | succ n ih =>
    intro a h
    by_cases c : a < cs.length
    · by_cases b : isBl (chN cs a) = true
      · rw [spT_b c b]; have := ih (a + 1) (by omega); omega
      · have := tokF_lt c
        rw [spT_t c b, List.length_cons]
        have := ih (tokF cs a).2 (by omega)
        omega
    · rw [spT_e c]; simp
theorem drop_hd {T R : List Tok} {i : Nat} {q : Tok} (h : T.drop i = q :: R) : T.getD i (0, 0, 0) = q ∧ T.drop (i + 1) = R ∧ i < T.length := by
  have hl : i < T.length := by
    apply Nat.lt_of_not_le
    intro c
    rw [List.drop_eq_nil_of_le c] at h
    cases h
  rw [List.drop_eq_getElem_cons hl] at h
  injection h with h1 h2
  exact ⟨by rw [List.getD_eq_getElem?_getD, List.getElem?_eq_getElem hl]; exact h1, h2, hl⟩
/-- the i-th token is the one that is read from e on -/
theorem Cu.tok {cs : List Nat} {i e e2 : Nat} (hc : ∀ j, 32 ≤ chN cs j ∧ chN cs j ≤ 126) (h : Cu cs i e e2) : (spT cs 0).getD i (0, 0, 0) = (tokA cs e).1 ∧ i < (spT cs 0).length := by
  obtain ⟨h1, h2, h3⟩ := h
  by_cases hz : (tokA cs e).1.1 = 0
  · obtain ⟨a, b⟩ := spT_E hc h1 hz
    rw [a] at h2
    obtain ⟨q1, -, q3⟩ := drop_hd h2
    exact ⟨by rw [q1, b], q3⟩
  · obtain ⟨-, a, -, -⟩ := spT_A h1 hz
    rw [a] at h2
    obtain ⟨q1, -, q3⟩ := drop_hd h2
    exact ⟨q1, q3⟩
theorem Cu.next {cs : List Nat} {i e e2 : Nat} (h : Cu cs i e e2) (hz : ¬ (tokA cs e).1.1 = 0) : Cu cs (i + 1) e2 (tokA cs e2).2 := by
  obtain ⟨h1, h2, rfl⟩ := h
  obtain ⟨-, a, -, b⟩ := spT_A h1 hz
  rw [a] at h2
  exact ⟨b, (drop_hd h2).2.1, rfl⟩
theorem Cu.zero (cs : List Nat) : Cu cs 0 0 (tokA cs 0).2 := ⟨Nat.zero_le _, rfl, rfl⟩
-- ===== the model's way to tell a row of characters =====
theorem rk_name {cs : List Nat} {a : Nat} (h1 : 97 ≤ chN cs a) (h2 : chN cs a ≤ 102) (h3 : isDg (chN cs (a + 1)) = true) : rkF cs a (a + 2 - 1) = 2 := by
  unfold rkF
  rw [show a + 2 - 1 = a + 1 by omega, if_neg (by omega), if_neg, if_pos ⟨by omega, h1, by omega, h3⟩]
  rintro ⟨-, q, -⟩
  unfold isDg at q
  rw [decide_eq_true_eq] at q
  omega
theorem rk_letter {cs : List Nat} {a : Nat} (h : isCp (chN cs a) = true) : rkF cs a (a + 1 - 1) = 3 := by
  unfold rkF
  rw [if_pos ⟨by omega, h⟩]
theorem dg_cp {w : Nat} (h : isDg w = true) : ¬ isCp w = true := by
  unfold isDg at h
  unfold isCp
  rw [decide_eq_true_eq] at h ⊢
  omega
theorem rk_num1 {cs : List Nat} {a : Nat} (h : isDg (chN cs a) = true) : rkF cs a (a + 1 - 1) = 4 := by
  unfold rkF
  rw [if_neg (fun q => dg_cp h q.2), if_pos ⟨by omega, h, h⟩]
theorem rk_num2 {cs : List Nat} {a : Nat} (h : isDg (chN cs a) = true) (h2 : isDg (chN cs (a + 1)) = true) : rkF cs a (a + 2 - 1) = 4 := by
  unfold rkF
  rw [show a + 2 - 1 = a + 1 by omega, if_neg (by omega), if_pos ⟨by omega, h, h2⟩]
theorem rk_word {cs : List Nat} {a e : Nat} (h : a < e) (h1 : ¬ (e = a + 2 ∧ 97 ≤ chN cs a ∧ chN cs a ≤ 102 ∧ isDg (chN cs (a + 1)) = true)) (h2 : ¬ (e = a + 1 ∧ isCp (chN cs a) = true)) (h3 : ¬ (isDg (chN cs a) = true ∧ (e = a + 1 ∨ e = a + 2 ∧ isDg (chN cs (a + 1)) = true))) : rkF cs a (e - 1) = wkF cs a (e - a) := by
  unfold rkF
  rw [if_neg (fun q => h2 ⟨by omega, q.2⟩), if_neg, if_neg, show e - 1 - a + 1 = e - a by omega]
  · rintro ⟨q1, q2, q3, q4⟩
    rw [show e - 1 = a + 1 by omega] at q4
    exact h1 ⟨by omega, q2, by omega, q4⟩
  · rintro ⟨q1, q2, q3⟩
    refine h3 ⟨q2, ?_⟩
    rcases (show e = a + 1 ∨ e = a + 2 by omega) with z | z
    · exact Or.inl z
    · rw [z, show a + 2 - 1 = a + 1 by omega] at q3
      exact Or.inr ⟨z, q3⟩
