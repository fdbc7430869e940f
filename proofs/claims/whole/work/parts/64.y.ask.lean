-- ===== ask, as one function =====
def unk (g : Gr) (t : Tok) : Bool := decide (t.1 = 2 ∧ gNoI g t.2.1 = -1)
theorem fu_find (g : Gr) (P : List Tok) : ∀ n, n ≤ P.length → (((P.drop (P.length - n)).find? (unk g) = none ∧ fuN g P n = -1) ∨ ∃ i t, i < P.length ∧ (P.drop (P.length - n)).find? (unk g) = some t ∧ fuN g P n = nI i ∧ P.getD i (0, 0, 0) = t) := by
  intro n
  induction n with
  | zero => intro _; exact Or.inl ⟨by rw [Nat.sub_zero, List.drop_length]; rfl, rfl⟩
  | succ n ih =>
    intro h
    have hlt : P.length - (n + 1) < P.length := by omega
    have e : fuN g P (n + 1) = if (P.getD (P.length - (n + 1)) (0, 0, 0)).1 = 2 ∧ gNoI g (P.getD (P.length - (n + 1)) (0, 0, 0)).2.1 = -1 then nI (P.length - (n + 1)) else fuN g P n := rfl
    have eg : P.getD (P.length - (n + 1)) (0, 0, 0) = P[P.length - (n + 1)] := by rw [List.getD_eq_getElem?_getD, List.getElem?_eq_getElem hlt]; rfl
    rw [List.drop_eq_getElem_cons hlt, show P.length - (n + 1) + 1 = P.length - n by omega, List.find?_cons]
    by_cases c : (P[P.length - (n + 1)]).1 = 2 ∧ gNoI g (P[P.length - (n + 1)]).2.1 = -1
    · refine Or.inr ⟨P.length - (n + 1), P[P.length - (n + 1)], hlt, ?_, ?_, eg⟩
      · rw [show unk g P[P.length - (n + 1)] = true from decide_eq_true c]
      · rw [e, eg, if_pos c]
    · rw [show unk g P[P.length - (n + 1)] = false from decide_eq_false c, e, eg, if_neg c]
      exact ih (by omega)
theorem find_z (g : Gr) : ∀ (Z : List Zt) (a b : Za), zrun a Z b → (cz Z).find? (unk g) = (mz Z).find? (unk g) := by
  intro Z
  induction Z with
  | nil => intro a b _; rfl
  | cons z Z ih =>
    intro a b h
    obtain ⟨m, h1, h2⟩ := h
    have i := ih m b h2
    have key : (∀ t, z.1 = some t → unk g t = unk g z.2 ∧ (unk g t = true → t = z.2)) ∧ (z.1 = none → unk g z.2 = false) := by
      have no : ∀ (K x y : Int32), ¬ K = 2 → unk g (K, x, y) = false := fun K x y hK => decide_eq_false (fun c => hK c.1)
      have go : ∀ (K x y x2 y2 : Int32), ¬ K = 2 → z = (some (K, x, y), (K, x2, y2)) → (∀ t, z.1 = some t → unk g t = unk g z.2 ∧ (unk g t = true → t = z.2)) ∧ (z.1 = none → unk g z.2 = false) := by
        intro K x y x2 y2 hK hz
        subst hz
        refine ⟨fun t ht => ?_, fun h => by cases h⟩
        injection ht with ht
        subst ht
        rw [no K x y hK, no K x2 y2 hK]
        exact ⟨rfl, fun h => Bool.noConfusion h⟩
      rcases h1 with ⟨-, -, h⟩ | ⟨-, -, -, h⟩ | ⟨-, -, -, K, pl, hK, h⟩ | ⟨-, -, c, pl, -, -, h, -⟩ | ⟨c, ls, -, -, h, -⟩
      · rcases h with ⟨v, pl, -, h⟩ | ⟨w, pl, h⟩ | ⟨s, c, pl, pl2, -, -, -, h⟩
        · subst h
          refine ⟨fun t ht => ?_, fun h => by cases h⟩
          injection ht with ht
          subst ht
          exact ⟨rfl, fun _ => rfl⟩
        · exact go _ _ _ _ _ (by decide) h
        · exact go _ _ _ _ _ (by decide) h
      · rcases h with ⟨K, R, pl, hK, -, h | ⟨-, h⟩⟩ | ⟨v, pl, h⟩ | ⟨K, pl, hK, h⟩
        · exact go _ _ _ _ _ (by rcases hK with rfl | rfl <;> decide) h
        · exact go _ _ _ _ _ (by rcases hK with rfl | rfl <;> decide) h
        · exact go _ _ _ _ _ (by decide) h
        · exact go _ _ _ _ _ (by rcases hK with rfl | rfl <;> decide) h
      · exact go _ _ _ _ _ (by rcases hK with rfl | rfl | rfl | rfl <;> decide) h
      · subst h
        refine ⟨fun t ht => ?_, fun h => by cases h⟩
        injection ht with ht
        subst ht
        rw [no _ _ _ (by decide), no _ _ _ (by decide)]
        exact ⟨rfl, fun h => Bool.noConfusion h⟩
      · subst h
        exact ⟨fun t ht => (by cases ht), fun _ => no _ _ _ (by decide)⟩
    obtain ⟨o, mm⟩ := z
    cases o with
    | none =>
      show (cz Z).find? (unk g) = (mm :: mz Z).find? (unk g)
      rw [List.find?_cons, show unk g mm = false from key.2 rfl]
      exact i
    | some t =>
      obtain ⟨k1, k2⟩ := key.1 t rfl
      show (t :: cz Z).find? (unk g) = (mm :: mz Z).find? (unk g)
      have k1 : unk g t = unk g mm := k1
      rw [List.find?_cons, List.find?_cons]
      cases hu : unk g t with
      | true => rw [← k1, hu]; rw [show t = mm from k2 hu]
      | false => rw [← k1, hu]; exact i
def pS9 (T : List Tok) (sl : Nat → Int32) : Bool × PSt := pSum T (pTerm T 12) (0, [], sl, 0)
/-- a right text: what its program answers -/
def askR (q : QS) (J B : Nat → List Nat) (P : List Tok) : Int32 × QS := match P.find? (unk q.1) with
  | some t => (-101 - t.2.2, (q.1, [], q.2.2.1, q.2.2.2.1, t.2.1))
  | none => (nI ((P.foldl (rstep q.1) (0, J, B, 0)).2.1 0).length, (q.1, [], (P.foldl (rstep q.1) (0, J, B, 0)).2.1 0, (P.foldl (rstep q.1) (0, J, B, 0)).2.2.2, q.2.2.2.2))
def askF (q : QS) (sl : Nat → Int32) (J B : Nat → List Nat) : Int32 × QS :=
  if (pS9 (spT q.2.1 0) sl).1 = true ∧ (tkAt (spT q.2.1 0) (pS9 (spT q.2.1 0) sl).2).1 = 0 then askR q J B (pS9 (spT q.2.1 0) sl).2.2.1
  else (-1 - (tkAt (spT q.2.1 0) (pS9 (spT q.2.1 0) sl).2).2.2, (q.1, [], q.2.2))
theorem RI0 (g : Gr) (J B : Nat → List Nat) : RI g (0, J, B, 0) (0, []) := ⟨rfl, fun i h => absurd h (by show ¬ i < 0; omega), fun i h => absurd h (by show ¬ i < 0; omega), by decide⟩
theorem kn_of {g : Gr} {Z : List Zt} (h : (mz Z).find? (unk g) = none) : ∀ z ∈ Z, kn9 g z := by
  intro z hz h2 h3
  rw [List.find?_eq_none] at h
  have := h z.2 (List.mem_map.mpr ⟨z, hz, rfl⟩)
  exact this (decide_eq_true ⟨h2, h3⟩)
/-- what the class's run rests on -/
theorem run_ok {g : Gr} (hg : GrOK g) {Z : List Zt} (hz : zrun (0, []) Z (1, [])) (hu : (cz Z).find? (unk g) = none) (J B : Nat → List Nat) : (∀ (i : Nat) (h : i < (cz Z).length), rok (((cz Z).take i).foldl (rstep g) (0, J, B, 0)).1 (cz Z)[i]) ∧ RI g ((cz Z).foldl (rstep g) (0, J, B, 0)) (1, []) := by
  obtain ⟨h1, h2⟩ := RI.run hg Z (0, J, B, 0) (0, []) (1, []) (RI0 g J B) hz (kn_of (by rw [← find_z g Z _ _ hz]; exact hu))
  rw [zex_fold] at h1
  exact ⟨h2, h1⟩
