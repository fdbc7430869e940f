-- ===== nearest: the class's answer is the model's =====
def Cn (g : Gr) (nm t : Nat) : Prop := gN g t / 10 = nm / 10 ∨ gN g t % 10 = nm % 10
def ccn (g : Gr) (nm t : Nat) : Nat := cst (gN g t / 10) (gN g t % 10) (nm / 10) (nm % 10)
theorem mnear_char {g : Gr} {nm : Nat} (hnm : nm < 60) : ∀ n, (∀ t, t < n → gN g t < 60) → ((∀ t, t < n → ¬ Cn g nm t) ∧ mnear g nm n = (-1, 1000)) ∨ ∃ t, t < n ∧ Cn g nm t ∧ mnear g nm n = (nI t, ccn g nm t) ∧ ∀ u, u < n → Cn g nm u → ccn g nm t ≤ ccn g nm u := by
  intro n
  induction n with
  | zero => intro _; exact Or.inl ⟨fun t ht => absurd ht (Nat.not_lt_zero t), rfl⟩
  | succ n ih =>
    intro h60
    have h9 := h60 n (by omega)
    have hlt : ccn g nm n < 400 := cst_lt (by omega) (by omega) (by omega) (by omega)
    by_cases hC : Cn g nm n ∧ ccn g nm n < (mnear g nm n).2
    · refine Or.inr ⟨n, by omega, hC.1, mn_yes hC, fun u hu hCu => ?_⟩
      by_cases e : u = n
      · rw [e]; exact Nat.le_refl _
      · rcases ih (fun t ht => h60 t (by omega)) with ⟨h1, -⟩ | ⟨t, h1, h2, h3, h4⟩
        · exact absurd hCu (h1 u (by omega))
        · have q := hC.2
          rw [h3] at q
          have q : ccn g nm n < ccn g nm t := q
          have := h4 u (by omega) hCu
          omega
    · have em : mnear g nm (n + 1) = mnear g nm n := mn_no hC
      rcases ih (fun t ht => h60 t (by omega)) with ⟨h1, h2⟩ | ⟨t, h1, h2, h3, h4⟩
      · refine Or.inl ⟨fun t ht hCt => ?_, by rw [em]; exact h2⟩
        by_cases e : t = n
        · subst e
          rw [h2] at hC
          have hC : ¬ (Cn g nm t ∧ ccn g nm t < 1000) := hC
          exact hC ⟨hCt, by omega⟩
        · exact h1 t (by omega) hCt
      · refine Or.inr ⟨t, by omega, h2, by rw [em]; exact h3, fun u hu hCu => ?_⟩
        by_cases e : u = n
        · subst e
          rw [h3] at hC
          have hC : ¬ (Cn g nm u ∧ ccn g nm u < ccn g nm t) := hC
          rcases Nat.lt_or_ge (ccn g nm u) (ccn g nm t) with z | z
          · exact absurd ⟨hCu, z⟩ hC
          · exact z
        · exact h4 u (by omega) hCu
theorem clo_char {g : Gr} {a st w pl : Nat} (hw : w < pl) : ∀ n, n ≤ pl → ((∀ i, i < n → gNo g (a + i * st) = -1) ∧ clo g a st w pl n = (-1, pl)) ∨ ∃ i, i < n ∧ gNo g (a + i * st) ≠ -1 ∧ clo g a st w pl n = (gNo g (a + i * st), dst i w) ∧ ∀ j, j < n → gNo g (a + j * st) ≠ -1 → dst i w < dst j w ∨ (dst i w = dst j w ∧ i ≤ j) := by
  intro n
  induction n with
  | zero => intro _; exact Or.inl ⟨fun t ht => absurd ht (Nat.not_lt_zero t), rfl⟩
  | succ n ih =>
    intro hn
    have hd : dst n w < pl := by unfold dst; split <;> omega
    by_cases hC : gNo g (a + n * st) ≠ -1 ∧ dst n w < (clo g a st w pl n).2
    · refine Or.inr ⟨n, by omega, hC.1, clo_yes hC, fun j hj hj2 => ?_⟩
      by_cases e : j = n
      · exact Or.inr ⟨by rw [e], by omega⟩
      · rcases ih (by omega) with ⟨h1, -⟩ | ⟨i, h1, h2, h3, h4⟩
        · exact absurd (h1 j (by omega)) hj2
        · have q := hC.2
          rw [h3] at q
          have q : dst n w < dst i w := q
          rcases h4 j (by omega) hj2 with z | z <;> exact Or.inl (by omega)
    · have em := clo_no hC
      rcases ih (by omega) with ⟨h1, h2⟩ | ⟨i, h1, h2, h3, h4⟩
      · refine Or.inl ⟨fun j hj => ?_, by rw [em]; exact h2⟩
        by_cases e : j = n
        · subst e
          rw [h2] at hC
          have hC : ¬ (gNo g (a + j * st) ≠ -1 ∧ dst j w < pl) := hC
          exact Classical.not_not.mp (fun z => hC ⟨z, hd⟩)
        · exact h1 j (by omega)
      · refine Or.inr ⟨i, by omega, h2, by rw [em]; exact h3, fun j hj hj2 => ?_⟩
        by_cases e : j = n
        · subst e
          rw [h3] at hC
          have hC : ¬ (gNo g (a + j * st) ≠ -1 ∧ dst j w < dst i w) := hC
          rcases Nat.lt_or_ge (dst j w) (dst i w) with z | z
          · exact absurd ⟨hj2, z⟩ hC
          · rcases Nat.lt_or_ge (dst i w) (dst j w) with y | y
            · exact Or.inl y
            · exact Or.inr ⟨by omega, by omega⟩
        · exact h4 j (by omega) hj2
theorem gNo_ex {g : Gr} {x : Nat} (h : gNo g x ≠ -1) : ∃ t, t < g.length ∧ gN g t = x ∧ gNo g x = nI t := by
  unfold gNo at h ⊢
  cases e : gNum g x with
  | none => rw [e] at h; exact absurd rfl h
  | some t => exact ⟨t, (gNum_lt e).1, (gNum_lt e).2, rfl⟩
theorem gNo_of {g : Gr} (hg : GrOK g) {t : Nat} (ht : t < g.length) : gNo g (gN g t) = nI t := by
  unfold gNo
  cases e : gNum g (gN g t) with
  | none => exact absurd rfl (gNumN_n.mp e t ht)
  | some u =>
    have q := gNum_lt e
    have := hg.2.2.1 u t q.1 ht q.2
    rw [this]
theorem gNo_nm1 {g : Gr} (hg : GrOK g) {t x : Nat} (ht : t < g.length) (e : gN g t = x) : gNo g x ≠ -1 := by
  have := hg.1
  rw [← e, gNo_of hg ht]
  exact nI_nm1 (by omega)
/-- the least cost decides -/
theorem near_t {g : Gr} (hg : GrOK g) {nm t : Nat} (hnm : nm < 60) (ht : t < g.length) (hC : Cn g nm t) (hmin : ∀ u, u < g.length → Cn g nm u → ccn g nm t ≤ ccn g nm u ∧ (ccn g nm u = ccn g nm t → gN g u = gN g t)) : (mnear g nm g.length).1 = nI t := by
  rcases mnear_char hnm g.length (fun t ht => (hg.2.1 t ht).1) with ⟨h1, -⟩ | ⟨u, h1, h2, h3, h4⟩
  · exact absurd hC (h1 t ht)
  · have q1 := hmin u h1 h2
    have q2 := h4 t ht hC
    have q3 := hg.2.2.1 u t h1 ht (q1.2 (by omega))
    rw [h3, q3]
theorem dst_c (i w : Nat) : (w ≤ i ∧ dst i w = i - w) ∨ (i < w ∧ dst i w = w - i) := by
  unfold dst
  by_cases h : w ≤ i
  · exact Or.inl ⟨h, if_pos h⟩
  · exact Or.inr ⟨by omega, if_neg h⟩
theorem bit_c (w i : Nat) : (w < i ∧ (if w < i then 1 else 0) = (1 : Nat)) ∨ (i ≤ w ∧ (if w < i then 1 else 0) = (0 : Nat)) := by
  by_cases h : w < i
  · exact Or.inl ⟨h, if_pos h⟩
  · exact Or.inr ⟨by omega, if_neg h⟩
theorem lex_cost {i j w : Nat} (q : dst i w < dst j w ∨ (dst i w = dst j w ∧ i ≤ j)) : 2 * dst i w + (if w < i then 1 else 0) ≤ 2 * dst j w + (if w < j then 1 else 0) ∧ (2 * dst j w + (if w < j then 1 else 0) = 2 * dst i w + (if w < i then 1 else 0) → j = i) := by
  have a := dst_c i w
  have b := dst_c j w
  have c := bit_c w i
  have d := bit_c w j
  generalize (if w < i then 1 else 0) = x at *
  generalize (if w < j then 1 else 0) = y at *
  generalize dst i w = A at *
  generalize dst j w = B at *
  constructor
  · omega
  · intro e; omega
theorem near_eq {g : Gr} (hg : GrOK g) {nm : Nat} (hnm : nm < 60) : nearN g nm = (mnear g nm g.length).1 := by
  have h60 := fun t ht => (hg.2.1 t ht).1
  unfold nearN
  rcases clo_char (g := g) (a := nm / 10 * 10) (st := 1) (w := nm % 10) (pl := 10) (by omega) 10 (Nat.le_refl _) with ⟨h1, h2⟩ | ⟨i, h1, h2, h3, h4⟩
  · have hno : ∀ u, u < g.length → ¬ gN g u / 10 = nm / 10 := fun u hu e => by
      have q := gNo_nm1 hg hu (show gN g u = nm / 10 * 10 + (gN g u % 10) * 1 by omega)
      exact q (h1 _ (by omega))
    rw [h2, if_pos rfl]
    rcases clo_char (g := g) (a := nm % 10) (st := 10) (w := nm / 10) (pl := 6) (by omega) 6 (Nat.le_refl _) with ⟨k1, k2⟩ | ⟨i, k1, k2, k3, k4⟩
    · rw [k2]
      rcases mnear_char hnm g.length h60 with ⟨m1, m2⟩ | ⟨u, m1, m2, m3, m4⟩
      · rw [m2]
      · exfalso
        have z := h60 u m1
        rcases m2 with e | e
        · exact hno u m1 e
        · exact gNo_nm1 hg m1 (show gN g u = nm % 10 + (gN g u / 10) * 10 by omega) (k1 _ (by omega))
    · obtain ⟨t, t1, t2, t3⟩ := gNo_ex k2
      rw [k3]
      show gNo g (nm % 10 + i * 10) = _
      rw [t3]
      symm
      refine near_t hg hnm t1 (Or.inr (by omega)) (fun u hu hCu => ?_)
      have z := h60 u hu
      have hu9 : gN g u % 10 = nm % 10 := hCu.resolve_left (hno u hu)
      have q := k4 (gN g u / 10) (by omega) (gNo_nm1 hg hu (show gN g u = nm % 10 + (gN g u / 10) * 10 by omega))
      have e1 : gN g t / 10 = i := by omega
      unfold ccn cst
      rw [if_neg (hno t t1), if_neg (hno u hu), e1]
      have L := lex_cost q
      constructor
      · have := L.1; omega
      · intro e
        have := L.2 (by omega)
        omega
  · obtain ⟨t, t1, t2, t3⟩ := gNo_ex h2
    have hc : ¬ (clo g (nm / 10 * 10) 1 (nm % 10) 10 10).1 = -1 := by rw [h3]; exact h2
    rw [if_neg hc, h3]
    show gNo g (nm / 10 * 10 + i * 1) = _
    rw [t3]
    symm
    refine near_t hg hnm t1 (Or.inl (by omega)) (fun u hu hCu => ?_)
    have z := h60 u hu
    have e0 : gN g t / 10 = nm / 10 := by omega
    have e1 : gN g t % 10 = i := by omega
    unfold ccn cst
    rw [if_pos e0, e1]
    by_cases hp : gN g u / 10 = nm / 10
    · rw [if_pos hp]
      have q := h4 (gN g u % 10) (by omega) (gNo_nm1 hg hu (show gN g u = nm / 10 * 10 + (gN g u % 10) * 1 by omega))
      have L := lex_cost q
      constructor
      · exact L.1
      · intro e
        have := L.2 e
        omega
    · rw [if_neg hp]
      have d1 : dst i (nm % 10) < 10 := by unfold dst; split <;> omega
      have c := bit_c (nm % 10) i
      generalize (if nm % 10 < i then 1 else 0) = x at *
      constructor
      · omega
      · intro e
        exfalso
        omega
