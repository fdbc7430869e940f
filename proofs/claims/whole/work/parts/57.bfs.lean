-- ===== breadth first, as the model does it: list, from, rounds =====
abbrev BX : Type := List Nat × (Nat → Int32) × (Nat → Int32)
def bn (t : Nat) (x : BX) (u : Nat) : BX := if u ∈ x.1 then x else (x.1 ++ [u], upd x.2.1 u (nI t), upd x.2.2 u (x.2.2 t + 1))
def bN (t : Nat) (x : BX) (R : List Nat) : BX := R.foldl (bn t) x
def bst (nb : Nat → List Nat) (mo : Int32) (t : Nat) (x : BX) : BX := if x.2.2 t = mo then x else bN t x (nb t)
def bq (nb : Nat → List Nat) (mo : Int32) : Nat → Nat → BX → BX
  | 0, _, x => x
  | n + 1, k, x => if k < x.1.length then bq nb mo n (k + 1) (bst nb mo (x.1.getD k 0) x) else x
theorem upd_s (f : Nat → Int32) (i : Nat) (x : Int32) : upd f i x i = x := if_pos rfl
theorem upd_o {f : Nat → Int32} {i j : Nat} {x : Int32} (h : ¬ j = i) : upd f i x j = f j := if_neg h
theorem bN_1 (t : Nat) : ∀ (R : List Nat) (x : BX), (bN t x R).1 = addL x.1 R := by
  intro R
  induction R with
  | nil => intro x; rfl
  | cons u R ih =>
    intro x
    show (bN t (bn t x u) R).1 = addL (addN x.1 u) R
    rw [ih]
    unfold bn addN
    by_cases h : u ∈ x.1
    · rw [if_pos h, if_pos h]
    · rw [if_neg h, if_neg h]
/-- what stood in the list keeps its from and rounds; what comes new has t and one round more -/
theorem bN_2 {t : Nat} : ∀ (R : List Nat) (x : BX), t ∈ x.1 → (∀ u ∈ x.1, (bN t x R).2.1 u = x.2.1 u ∧ (bN t x R).2.2 u = x.2.2 u) ∧ (∀ u ∈ (bN t x R).1, u ∉ x.1 → (bN t x R).2.1 u = nI t ∧ (bN t x R).2.2 u = x.2.2 t + 1) := by
  intro R
  induction R with
  | nil => intro x _; exact ⟨fun u _ => ⟨rfl, rfl⟩, fun u h h2 => absurd h h2⟩
  | cons v R ih =>
    intro x ht
    show (∀ u ∈ x.1, (bN t (bn t x v) R).2.1 u = x.2.1 u ∧ (bN t (bn t x v) R).2.2 u = x.2.2 u) ∧ (∀ u ∈ (bN t (bn t x v) R).1, u ∉ x.1 → (bN t (bn t x v) R).2.1 u = nI t ∧ (bN t (bn t x v) R).2.2 u = x.2.2 t + 1)
    unfold bn
    by_cases h : v ∈ x.1
    · rw [if_pos h]; exact ih x ht
    · rw [if_neg h]
      obtain ⟨h1, h2⟩ := ih (x.1 ++ [v], upd x.2.1 v (nI t), upd x.2.2 v (x.2.2 t + 1)) (List.mem_append_left _ ht)
      have ne : ∀ u ∈ x.1, ¬ u = v := fun u hu e => h (e ▸ hu)
      refine ⟨fun u hu => ?_, fun u hu hn => ?_⟩
      · obtain ⟨q1, q2⟩ := h1 u (List.mem_append_left _ hu)
        exact ⟨q1.trans (upd_o (ne u hu)), q2.trans (upd_o (ne u hu))⟩
      · by_cases e : u = v
        · subst e
          obtain ⟨q1, q2⟩ := h1 u (List.mem_append_right _ (List.mem_singleton.mpr rfl))
          exact ⟨q1.trans (upd_s _ _ _), q2.trans (upd_s _ _ _)⟩
        · obtain ⟨q1, q2⟩ := h2 u hu (by rw [List.mem_append, List.mem_singleton]; exact fun z => z.elim hn e)
          exact ⟨q1, q2.trans (congrArg (· + 1) (upd_o (ne t ht)))⟩
theorem addL_mem : ∀ (M L : List Nat) (u : Nat), u ∈ addL L M ↔ u ∈ L ∨ u ∈ M := by
  intro M
  induction M with
  | nil => intro L u; show u ∈ L ↔ _; simp
  | cons a M ih =>
    intro L u
    show u ∈ addL (addN L a) M ↔ _
    rw [ih]
    unfold addN
    by_cases h : a ∈ L
    · rw [if_pos h, List.mem_cons]
      constructor
      · exact fun q => q.elim Or.inl (fun z => Or.inr (Or.inr z))
      · exact fun q => q.elim Or.inl (fun z => z.elim (fun e => Or.inl (e ▸ h)) Or.inr)
    · rw [if_neg h, List.mem_append, List.mem_singleton, List.mem_cons, or_assoc]
theorem addL_nd : ∀ (M L : List Nat), L.Nodup → (addL L M).Nodup := by
  intro M
  induction M with
  | nil => intro L h; exact h
  | cons a M ih =>
    intro L h
    show (addL (addN L a) M).Nodup
    apply ih
    unfold addN
    by_cases hm : a ∈ L
    · rw [if_pos hm]; exact h
    · rw [if_neg hm, List.nodup_append]
      refine ⟨h, by simp, ?_⟩
      intro x hx b hb e
      rw [List.mem_singleton] at hb
      exact hm (by rw [← hb, ← e]; exact hx)
theorem addB_mem (nb : Nat → List Nat) : ∀ (R L : List Nat) (u : Nat), u ∈ addB nb L R ↔ u ∈ L ∨ ∃ v ∈ R, u ∈ nb v := by
  intro R
  induction R with
  | nil => intro L u; show u ∈ L ↔ _; simp
  | cons a R ih =>
    intro L u
    show u ∈ addB nb (addL L (nb a)) R ↔ _
    rw [ih, addL_mem, or_assoc]
    constructor
    · rintro (h | h | ⟨v, h1, h2⟩)
      · exact Or.inl h
      · exact Or.inr ⟨a, List.mem_cons_self, h⟩
      · exact Or.inr ⟨v, List.mem_cons_of_mem _ h1, h2⟩
    · rintro (h | ⟨v, h1, h2⟩)
      · exact Or.inl h
      · rcases List.mem_cons.mp h1 with e | e
        · exact Or.inr (Or.inl (e ▸ h2))
        · exact Or.inr (Or.inr ⟨v, e, h2⟩)
theorem addB_nd (nb : Nat → List Nat) : ∀ (R L : List Nat), L.Nodup → (addB nb L R).Nodup := by
  intro R
  induction R with
  | nil => intro L h; exact h
  | cons a R ih => intro L h; exact ih _ (addL_nd _ _ h)
def bfd (nb : Nat → List Nat) (mo : Int32) (x : BX) (R : List Nat) : BX := R.foldl (fun y t => bst nb mo t y) x
theorem bst_pfx (nb : Nat → List Nat) (mo : Int32) (t : Nat) (x : BX) : pfx x.1 (bst nb mo t x).1 := by
  unfold bst
  split
  · exact ⟨[], (List.append_nil _).symm⟩
  · rw [bN_1]; exact pfx_addL _ _
theorem bq_out {nb : Nat → List Nat} {mo : Int32} {n k : Nat} {x : BX} (h : x.1.length ≤ k) : bq nb mo n k x = x := by
  cases n with
  | zero => rfl
  | succ n => show (if _ then _ else _) = _; rw [if_neg (by omega)]
theorem bq_fold (nb : Nat → List Nat) (mo : Int32) : ∀ (m n fr : Nat) (x : BX), m ≤ x.1.length - fr → bq nb mo (n + m) fr x = bq nb mo n (fr + m) (bfd nb mo x ((x.1.drop fr).take m)) := by
  intro m
  induction m with
  | zero => intro n fr x _; rw [List.take_zero]; rfl
  | succ m ih =>
    intro n fr x h
    have hlt : fr < x.1.length := by omega
    show (if fr < x.1.length then bq nb mo (n + m) (fr + 1) (bst nb mo (x.1.getD fr 0) x) else x) = _
    rw [if_pos hlt]
    obtain ⟨N, hN⟩ := bst_pfx nb mo (x.1.getD fr 0) x
    have hl : x.1.length ≤ (bst nb mo (x.1.getD fr 0) x).1.length := by rw [hN, List.length_append]; omega
    rw [ih n (fr + 1) _ (by omega), show fr + 1 + m = fr + (m + 1) by omega]
    congr 1
    have e1 : (x.1.drop fr).take (m + 1) = x.1.getD fr 0 :: (x.1.drop (fr + 1)).take m := by
      rw [List.drop_eq_getElem_cons hlt, List.take_succ_cons, List.getD_eq_getElem?_getD, List.getElem?_eq_getElem hlt]; rfl
    rw [e1]
    show _ = bfd nb mo (bst nb mo (x.1.getD fr 0) x) ((x.1.drop (fr + 1)).take m)
    congr 1
    rw [hN, List.drop_append_of_le_length (by omega), List.take_append_of_le_length (by rw [List.length_drop]; omega)]
theorem bfd_cut {nb : Nat → List Nat} {mo : Int32} : ∀ (R : List Nat) (x : BX), (∀ t ∈ R, x.2.2 t = mo) → bfd nb mo x R = x := by
  intro R
  induction R with
  | nil => intro x _; rfl
  | cons a R ih =>
    intro x h
    show bfd nb mo (bst nb mo a x) R = x
    have e : bst nb mo a x = x := by unfold bst; rw [if_pos (h a List.mem_cons_self)]
    rw [e]
    exact ih x (fun t ht => h t (List.mem_cons_of_mem _ ht))
theorem bfd_lev {nb : Nat → List Nat} {mo : Int32} {j : Nat} (hj : ¬ nI j = mo) : ∀ (R : List Nat) (x : BX), (∀ t ∈ R, t ∈ x.1 ∧ x.2.2 t = nI j) → (bfd nb mo x R).1 = addB nb x.1 R ∧ (∀ u ∈ x.1, (bfd nb mo x R).2.1 u = x.2.1 u ∧ (bfd nb mo x R).2.2 u = x.2.2 u) ∧ ∀ u ∈ (bfd nb mo x R).1, u ∉ x.1 → (bfd nb mo x R).2.2 u = nI (j + 1) := by
  intro R
  induction R with
  | nil => intro x _; exact ⟨rfl, fun u _ => ⟨rfl, rfl⟩, fun u h h2 => absurd h h2⟩
  | cons a R ih =>
    intro x h
    obtain ⟨ha, hra⟩ := h a List.mem_cons_self
    have e : bst nb mo a x = bN a x (nb a) := by unfold bst; rw [hra, if_neg hj]
    obtain ⟨b1, b2⟩ := bN_2 (nb a) x ha
    have b0 := bN_1 a (nb a) x
    have hsub : ∀ u ∈ x.1, u ∈ (bN a x (nb a)).1 := fun u hu => by rw [b0, addL_mem]; exact Or.inl hu
    obtain ⟨i1, i2, i3⟩ := ih (bN a x (nb a)) (fun t ht => ⟨hsub t (h t (List.mem_cons_of_mem _ ht)).1, ((b1 t (h t (List.mem_cons_of_mem _ ht)).1).2).trans (h t (List.mem_cons_of_mem _ ht)).2⟩)
    show (bfd nb mo (bst nb mo a x) R).1 = addB nb (addL x.1 (nb a)) R ∧ (∀ u ∈ x.1, (bfd nb mo (bst nb mo a x) R).2.1 u = x.2.1 u ∧ (bfd nb mo (bst nb mo a x) R).2.2 u = x.2.2 u) ∧ ∀ u ∈ (bfd nb mo (bst nb mo a x) R).1, u ∉ x.1 → (bfd nb mo (bst nb mo a x) R).2.2 u = nI (j + 1)
    rw [e]
    refine ⟨by rw [i1, b0], fun u hu => ⟨((i2 u (hsub u hu)).1).trans (b1 u hu).1, ((i2 u (hsub u hu)).2).trans (b1 u hu).2⟩, fun u hu hn => ?_⟩
    by_cases hm : u ∈ (bN a x (nb a)).1
    · rw [(i2 u hm).2, (b2 u hm hn).2, hra, nI_1]
    · exact i3 u hu hm
theorem getD_in {L : List Nat} {p : Nat} (h : p < L.length) : L.getD p 0 = L[p] := by rw [List.getD_eq_getElem?_getD, List.getElem?_eq_getElem h]; rfl
theorem bq_grow {nb : Nat → List Nat} {mo : Int32} (hnb : ∀ t u, u ∈ nb t → u < 30) : ∀ (R j fr n : Nat) (x : BX), x.1.Nodup → (∀ u ∈ x.1, u < 30) → (∀ t ∈ x.1.drop fr, x.2.2 t = nI j) → 30 ≤ n + fr → ((mo = nI (j + R) ∧ j + R < 1000) ∨ (mo = 1000 ∧ 30 ≤ fr + R ∧ j + R < 1000)) → (bq nb mo n fr x).1 = growR nb R x.1 fr := by
  intro R
  induction R with
  | zero =>
    intro j fr n x hnd h30 hlv hn hmo
    show _ = x.1
    have hlen : x.1.length ≤ 30 := nodup_len 30 _ hnd h30
    rcases Nat.lt_or_ge fr x.1.length with hf | hf
    · rcases hmo with ⟨e, -⟩ | ⟨-, q, -⟩
      · rw [show n = (n - (x.1.length - fr)) + (x.1.length - fr) by omega, bq_fold nb mo (x.1.length - fr) _ fr x (Nat.le_refl _), List.take_of_length_le (by rw [List.length_drop]; omega), bfd_cut _ _ (fun t ht => (hlv t ht).trans e.symm), bq_out (by omega)]
      · omega
    · rw [bq_out hf]
  | succ R ih =>
    intro j fr n x hnd h30 hlv hn hmo
    have hlen : x.1.length ≤ 30 := nodup_len 30 _ hnd h30
    rcases Nat.lt_or_ge fr x.1.length with hf | hf
    · have hj : ¬ nI j = mo := by
        rcases hmo with ⟨e, q⟩ | ⟨e, -, q⟩
        · rw [e, nI_eq (by omega) (by omega)]; omega
        · rw [e, show (1000 : Int32) = nI 1000 from rfl, nI_eq (by omega) (by omega)]; omega
      obtain ⟨l1, l2, l3⟩ := bfd_lev (nb := nb) hj (x.1.drop fr) x (fun t ht => ⟨List.mem_of_mem_drop ht, hlv t ht⟩)
      rw [growR_s nb R hf, show n = (n - (x.1.length - fr)) + (x.1.length - fr) by omega, bq_fold nb mo (x.1.length - fr) _ fr x (Nat.le_refl _), List.take_of_length_le (by rw [List.length_drop]; omega), show fr + (x.1.length - fr) = x.1.length by omega]
      have hnd2 : (bfd nb mo x (x.1.drop fr)).1.Nodup := by rw [l1]; exact addB_nd nb _ _ hnd
      rw [ih (j + 1) x.1.length (n - (x.1.length - fr)) (bfd nb mo x (x.1.drop fr)) hnd2 ?_ ?_ (by omega) ?_, l1]
      · intro u hu
        rw [l1, addB_mem] at hu
        rcases hu with z | ⟨v, -, z⟩
        · exact h30 u z
        · exact hnb v u z
      · intro t ht
        refine l3 t (List.mem_of_mem_drop ht) ?_
        obtain ⟨N, hN⟩ := pfx_addB nb (x.1.drop fr) x.1
        rw [l1, hN, List.drop_left] at ht
        rw [l1, hN, List.nodup_append] at hnd2
        exact fun hc => hnd2.2.2 t hc t ht rfl
      · rcases hmo with ⟨e, q⟩ | ⟨e, q, r⟩
        · exact Or.inl ⟨by rw [e, show j + (R + 1) = j + 1 + R by omega], by omega⟩
        · exact Or.inr ⟨e, by omega, by omega⟩
    · rw [bq_out hf, growR_end nb _ hf]
/-- reach(.., most): the list is growR's -/
theorem bq_list {nb : Nat → List Nat} (hnb : ∀ t u, u ∈ nb t → u < 30) {x : BX} (hnd : x.1.Nodup) (h30 : ∀ u ∈ x.1, u < 30) (h0 : ∀ u ∈ x.1, x.2.2 u = 0) {R : Nat} (hR : R < 1000) : (bq nb (nI R) 30 0 x).1 = growR nb R x.1 0 :=
  bq_grow hnb R 0 0 30 x hnd h30 (fun t ht => by rw [h0 t ht]; rfl) (by omega) (Or.inl ⟨by rw [Nat.zero_add], by omega⟩)
theorem bq_list30 {nb : Nat → List Nat} (hnb : ∀ t u, u ∈ nb t → u < 30) {x : BX} (hnd : x.1.Nodup) (h30 : ∀ u ∈ x.1, u < 30) (h0 : ∀ u ∈ x.1, x.2.2 u = 0) : (bq nb 1000 30 0 x).1 = growR nb 30 x.1 0 :=
  bq_grow hnb 30 0 0 30 x hnd h30 (fun t ht => by rw [h0 t ht]; rfl) (by omega) (Or.inr ⟨rfl, by omega, by omega⟩)
-- ===== levels =====
def BI (nb : Nat → List Nat) (S : List Nat) (k : Nat) (x : BX) (lev : Nat → Nat) : Prop :=
  (x.1.Nodup ∧ ∀ u ∈ x.1, u < 30) ∧ (∀ u ∈ x.1, x.2.2 u = nI (lev u)) ∧ (∀ p q, p ≤ q → q < x.1.length → lev (x.1.getD p 0) ≤ lev (x.1.getD q 0)) ∧ (∀ q, q < x.1.length → k < x.1.length → lev (x.1.getD q 0) ≤ lev (x.1.getD k 0) + 1) ∧ (∀ p, p < k → p < x.1.length → ∀ u ∈ nb (x.1.getD p 0), u ∈ x.1 ∧ lev u ≤ lev (x.1.getD p 0) + 1) ∧ (∀ u ∈ x.1, (lev u = 0 ∧ u ∈ S ∧ x.2.1 u = -1) ∨ ∃ v ∈ x.1, u ∈ nb v ∧ lev u = lev v + 1 ∧ x.2.1 u = nI v) ∧ (∀ u ∈ S, u ∈ x.1 ∧ lev u = 0) ∧ ∀ q, q < x.1.length → lev (x.1.getD q 0) ≤ q
theorem getD_app {L N : List Nat} {p : Nat} (h : p < L.length) : (L ++ N).getD p 0 = L.getD p 0 := by
  rw [List.getD_eq_getElem?_getD, List.getD_eq_getElem?_getD, List.getElem?_append_left h]
theorem getD_mem {L : List Nat} {p : Nat} (h : p < L.length) : L.getD p 0 ∈ L := by rw [getD_in h]; exact List.getElem_mem h
theorem getD_appr {L N : List Nat} {p : Nat} (h : L.length ≤ p) (h2 : p < (L ++ N).length) : (L ++ N).getD p 0 ∈ N := by
  rw [List.getD_eq_getElem?_getD, List.getElem?_append_right h]
  rw [List.length_append] at h2
  rw [List.getElem?_eq_getElem (by omega)]
  exact List.getElem_mem _
theorem BI.step {nb : Nat → List Nat} {S : List Nat} {k : Nat} {x : BX} {lev : Nat → Nat} (hnb : ∀ t u, u ∈ nb t → u < 30) (h : BI nb S k x lev) (hk : k < x.1.length) : ∃ lev2, BI nb S (k + 1) (bst nb 1000 (x.1.getD k 0) x) lev2 := by
  obtain ⟨⟨hnd, h30⟩, hr, hmo, hq, hex, hpa, hS, hp⟩ := h
  have hlen : x.1.length ≤ 30 := nodup_len 30 _ hnd h30
  have ht := getD_mem hk
  have hlt := hp k hk
  generalize ett : x.1.getD k 0 = t at *
  have e : bst nb 1000 t x = bN t x (nb t) := by
    unfold bst
    rw [hr t ht, if_neg (by rw [show (1000 : Int32) = nI 1000 from rfl, nI_eq (by omega) (by omega)]; omega)]
  rw [e]
  obtain ⟨b1, b2⟩ := bN_2 (nb t) x ht
  have b0 := bN_1 t (nb t) x
  obtain ⟨N, hN⟩ := pfx_addL (nb t) x.1
  have hnd2 : (x.1 ++ N).Nodup := by rw [← hN]; exact addL_nd _ _ hnd
  have hdis : ∀ u ∈ N, u ∉ x.1 := fun u hu hc => (List.nodup_append.mp hnd2).2.2 u hc u hu rfl
  have hNn : ∀ u ∈ N, u ∈ nb t := fun u hu => by
    have q : u ∈ addL x.1 (nb t) := by rw [hN]; exact List.mem_append_right _ hu
    rw [addL_mem] at q
    exact q.resolve_left (hdis u hu)
  have hnN : ∀ u ∈ nb t, u ∈ x.1 ++ N := fun u hu => by rw [← hN, addL_mem]; exact Or.inr hu
  have b0' : (bN t x (nb t)).1 = x.1 ++ N := b0.trans hN
  refine ⟨fun u => if u ∈ x.1 then lev u else lev t + 1, ?_⟩
  have lo : ∀ u, u ∈ x.1 → (if u ∈ x.1 then lev u else lev t + 1) = lev u := fun u hu => if_pos hu
  have ln : ∀ u, u ∉ x.1 → (if u ∈ x.1 then lev u else lev t + 1) = lev t + 1 := fun u hu => if_neg hu
  have gpo : ∀ p, p < x.1.length → (x.1 ++ N).getD p 0 = x.1.getD p 0 := fun p h => getD_app h
  have glo : ∀ p, p < x.1.length → (if (x.1 ++ N).getD p 0 ∈ x.1 then lev ((x.1 ++ N).getD p 0) else lev t + 1) = lev (x.1.getD p 0) := fun p h => by rw [gpo p h, if_pos (getD_mem h)]
  have gln : ∀ p, x.1.length ≤ p → p < (x.1 ++ N).length → (if (x.1 ++ N).getD p 0 ∈ x.1 then lev ((x.1 ++ N).getD p 0) else lev t + 1) = lev t + 1 := fun p h h2 => if_neg (hdis _ (getD_appr h h2))
  have up : ∀ q, q < (x.1 ++ N).length → (if (x.1 ++ N).getD q 0 ∈ x.1 then lev ((x.1 ++ N).getD q 0) else lev t + 1) ≤ lev t + 1 := fun q h => by
    rcases Nat.lt_or_ge q x.1.length with z | z
    · rw [glo q z]; exact hq q z hk
    · rw [gln q z h]; exact Nat.le_refl _
  have mono : ∀ p q, p ≤ q → q < (x.1 ++ N).length → (if (x.1 ++ N).getD p 0 ∈ x.1 then lev ((x.1 ++ N).getD p 0) else lev t + 1) ≤ (if (x.1 ++ N).getD q 0 ∈ x.1 then lev ((x.1 ++ N).getD q 0) else lev t + 1) := fun p q h h2 => by
    rcases Nat.lt_or_ge q x.1.length with z | z
    · rw [glo q z, glo p (by omega)]; exact hmo p q h z
    · rw [gln q z h2]; exact up p (by omega)
  rw [BI, b0']
  refine ⟨⟨hnd2, ?_⟩, ?_, mono, ?_, ?_, ?_, ?_, ?_⟩
  · intro u hu
    rcases List.mem_append.mp hu with z | z
    · exact h30 u z
    · exact hnb t u (hNn u z)
  · intro u hu
    rcases List.mem_append.mp hu with z | z
    · rw [(b1 u z).2, lo u z]; exact hr u z
    · rw [(b2 u (by rw [b0']; exact hu) (hdis u z)).2, hr t ht, nI_1, ln u (hdis u z)]
  · intro q h1 h2
    have q1 := up q h1
    have q2 := mono k (k + 1) (by omega) h2
    rw [glo k hk, ett] at q2
    omega
  · intro p h1 h2 u hu
    rcases Nat.lt_or_ge p k with z | z
    · have hpl : p < x.1.length := by omega
      rw [gpo p hpl] at hu
      obtain ⟨a1, a2⟩ := hex p z hpl u hu
      exact ⟨List.mem_append_left _ a1, by rw [lo u a1, glo p hpl]; exact a2⟩
    · have epk : p = k := by omega
      subst epk
      rw [gpo p hk, ett] at hu
      refine ⟨hnN u hu, ?_⟩
      rw [glo p hk, ett]
      by_cases hm : u ∈ x.1
      · rw [lo u hm]
        obtain ⟨j, hj, ej⟩ := List.getElem_of_mem hm
        have := hq j hj hk
        rw [getD_in hj, ej] at this
        exact this
      · rw [ln u hm]; exact Nat.le_refl _
  · intro u hu
    by_cases hm : u ∈ x.1
    · rcases hpa u hm with ⟨a1, a2, a3⟩ | ⟨v, a1, a2, a3, a4⟩
      · exact Or.inl ⟨by rw [lo u hm]; exact a1, a2, by rw [(b1 u hm).1]; exact a3⟩
      · exact Or.inr ⟨v, List.mem_append_left _ a1, a2, by rw [lo u hm, lo v a1]; exact a3, by rw [(b1 u hm).1]; exact a4⟩
    · have hn : u ∈ N := (List.mem_append.mp hu).resolve_left hm
      exact Or.inr ⟨t, List.mem_append_left _ ht, hNn u hn, by rw [ln u hm, lo t ht], (b2 u (by rw [b0']; exact hu) hm).1⟩
  · intro u hu
    obtain ⟨a1, a2⟩ := hS u hu
    exact ⟨List.mem_append_left _ a1, by rw [lo u a1]; exact a2⟩
  · intro q h1
    rcases Nat.lt_or_ge q x.1.length with z | z
    · rw [glo q z]; exact hp q z
    · rw [gln q z h1]; omega
theorem BI.run {nb : Nat → List Nat} {S : List Nat} (hnb : ∀ t u, u ∈ nb t → u < 30) : ∀ (n k : Nat) (x : BX) (lev : Nat → Nat), BI nb S k x lev → 30 ≤ n + k → ∃ lev2, BI nb S (bq nb 1000 n k x).1.length (bq nb 1000 n k x) lev2 := by
  intro n
  induction n with
  | zero =>
    intro k x lev h hn
    show ∃ lev2, BI nb S x.1.length x lev2
    have hlen : x.1.length ≤ 30 := nodup_len 30 _ h.1.1 h.1.2
    obtain ⟨h0, hr, hmo, hq, hex, r⟩ := h
    exact ⟨lev, h0, hr, hmo, fun q a b => absurd b (by omega), fun p a b => hex p (by omega) b, r⟩
  | succ n ih =>
    intro k x lev h hn
    have e : bq nb 1000 (n + 1) k x = if k < x.1.length then bq nb 1000 n (k + 1) (bst nb 1000 (x.1.getD k 0) x) else x := rfl
    rw [e]
    by_cases hk : k < x.1.length
    · rw [if_pos hk]
      obtain ⟨lev2, h2⟩ := h.step hnb hk
      exact ih (k + 1) _ lev2 h2 (by omega)
    · rw [if_neg hk]
      obtain ⟨h0, hr, hmo, hq, hex, r⟩ := h
      exact ⟨lev, h0, hr, hmo, fun q a b => absurd b (by omega), fun p a b => hex p (by omega) b, r⟩
/-- the start -/
theorem BI.init {nb : Nat → List Nat} {x : BX} (hnd : x.1.Nodup) (h30 : ∀ u ∈ x.1, u < 30) (h0 : ∀ u ∈ x.1, x.2.1 u = -1 ∧ x.2.2 u = 0) : BI nb x.1 0 x (fun _ => 0) :=
  ⟨⟨hnd, h30⟩, fun u hu => (h0 u hu).2, fun _ _ _ _ => Nat.le_refl _, fun _ _ _ => Nat.zero_le _, fun p h => absurd h (by omega), fun u hu => Or.inl ⟨rfl, hu, (h0 u hu).1⟩, fun u hu => ⟨hu, rfl⟩, fun _ _ => Nat.zero_le _⟩
theorem BI.lt {nb : Nat → List Nat} {S : List Nat} {k : Nat} {x : BX} {lev : Nat → Nat} (h : BI nb S k x lev) {u : Nat} (hu : u ∈ x.1) : lev u < 30 := by
  have hlen : x.1.length ≤ 30 := nodup_len 30 _ h.1.1 h.1.2
  obtain ⟨j, hj, ej⟩ := List.getElem_of_mem hu
  have := h.2.2.2.2.2.2.2 j hj
  rw [getD_in hj, ej] at this
  omega
/-- levels are distances -/
theorem BI.bs {nb : Nat → List Nat} {S : List Nat} {x : BX} {lev : Nat → Nat} {n : Nat} (h : BI nb S x.1.length x lev) (hn : ∀ u ∈ x.1, u < n) (P : Nat → Bool) (hP : ∀ u, P u = true ↔ u ∈ S) : ∀ (s u : Nat), bsB nb n P s u = true ↔ u ∈ x.1 ∧ lev u ≤ s := by
  obtain ⟨h0, hr, hmo, hq, hex, hpa, hS, hp⟩ := h
  have key : ∀ v ∈ x.1, ∀ u ∈ nb v, u ∈ x.1 ∧ lev u ≤ lev v + 1 := fun v hv u hu => by
    obtain ⟨j, hj, ej⟩ := List.getElem_of_mem hv
    have := hex j hj hj u (by rw [getD_in hj, ej]; exact hu)
    rw [getD_in hj, ej] at this
    exact this
  intro s
  induction s with
  | zero =>
    intro u
    show P u = true ↔ _
    rw [hP]
    constructor
    · intro hu
      obtain ⟨a, b⟩ := hS u hu
      exact ⟨a, by omega⟩
    · rintro ⟨hu, hl⟩
      rcases hpa u hu with ⟨-, a, -⟩ | ⟨v, -, -, a, -⟩
      · exact a
      · omega
  | succ s ih =>
    intro u
    show (bsB nb n P s u || (List.range n).any (fun v => bsB nb n P s v && decide (u ∈ nb v))) = true ↔ _
    rw [Bool.or_eq_true, ih, List.any_eq_true]
    constructor
    · rintro (⟨a, b⟩ | ⟨v, -, hv⟩)
      · exact ⟨a, by omega⟩
      · rw [Bool.and_eq_true, ih, decide_eq_true_eq] at hv
        obtain ⟨a, b⟩ := key v hv.1.1 u hv.2
        exact ⟨a, by omega⟩
    · rintro ⟨hu, hl⟩
      by_cases hle : lev u ≤ s
      · exact Or.inl ⟨hu, hle⟩
      · rcases hpa u hu with ⟨a, -, -⟩ | ⟨v, a, b, c, -⟩
        · omega
        · refine Or.inr ⟨v, List.mem_range.mpr (hn v a), ?_⟩
          rw [Bool.and_eq_true, ih, decide_eq_true_eq]
          exact ⟨⟨a, by omega⟩, b⟩
theorem farN_lev {g : Gr} {t o e : Nat} (he : e < 30) (h : ∀ s, bsB (gD g) g.length (fun u => decide (u = t)) s o = true ↔ e ≤ s) : ∀ n, n ≤ 30 → 30 ≤ n + e → farN g t o n (-1) = nI e := by
  intro n
  induction n with
  | zero => intro _ h2; omega
  | succ n ih =>
    intro h1 h2
    show (if _ then _ else _) = _
    by_cases c : e ≤ 29 - n
    · rw [if_pos ((h _).mpr c), show 29 - n = e by omega]
    · rw [if_neg (fun z => c ((h _).mp z))]
      exact ih (by omega) (by omega)
theorem farN_no {g : Gr} {t o : Nat} (h : ∀ s, ¬ bsB (gD g) g.length (fun u => decide (u = t)) s o = true) : ∀ n, farN g t o n (-1) = -1 := by
  intro n
  induction n with
  | zero => rfl
  | succ n ih => show (if _ then _ else _) = _; rw [if_neg (h _)]; exact ih
/-- far: rounds[other] where it is reached -/
theorem far_eq {g : Gr} {t o : Nat} {y : BX} {lev : Nat → Nat} (h : BI (gD g) [t] y.1.length y lev) (hn : ∀ u ∈ y.1, u < g.length) : farN g t o 30 (-1) = if o ∈ y.1 then y.2.2 o else -1 := by
  have hb := h.bs hn (fun u => decide (u = t)) (fun u => by rw [decide_eq_true_eq, List.mem_singleton])
  by_cases ho : o ∈ y.1
  · rw [if_pos ho, h.2.1 o ho]
    exact farN_lev (h.lt ho) (fun s => (hb s o).trans ⟨fun z => z.2, fun z => ⟨ho, z⟩⟩) 30 (Nat.le_refl _) (by omega)
  · rw [if_neg ho]
    exact farN_no (fun s z => ho ((hb s o).mp z).1) 30
/-- the tests -/
theorem test_eq {g : Gr} {L : List Nat} {y : BX} {lev : Nat → Nat} (hg : g.length ≤ 30) (hK : ∀ t, t < g.length → gK g t < 4) (h : BI (gU g) L y.1.length y lev) (hn : ∀ u ∈ y.1, u < g.length) : testS g L = (List.range g.length).filter (fun t => decide (gK g t = 3 ∧ t ∈ y.1)) := by
  have hb := h.bs hn (fun u => decide (u ∈ L)) (fun u => by rw [decide_eq_true_eq])
  unfold testS
  rw [show (30 : Nat) = g.length + (30 - g.length) by omega, List.range_add, List.filter_append]
  have e2 : ∀ (M : List Nat), ((M.map (fun x => g.length + x)).filter (fun t => bsB (gU g) g.length (fun u => decide (u ∈ L)) (g.length + (30 - g.length)) t && decide (t < g.length ∧ nI (gK g t) = 3))) = [] := by
    intro M
    rw [List.filter_eq_nil_iff]
    intro t ht
    obtain ⟨x, -, rfl⟩ := List.mem_map.mp ht
    rw [decide_eq_false (by omega), Bool.and_false]
    decide
  rw [e2, List.append_nil]
  apply List.filter_congr
  intro t ht
  rw [List.mem_range] at ht
  rw [Bool.eq_iff_iff, Bool.and_eq_true, hb, decide_eq_true_eq, decide_eq_true_eq]
  have hk4 := hK t ht
  rw [show (3 : Int32) = nI 3 from rfl, nI_eq (by omega) (by omega)]
  constructor
  · rintro ⟨⟨a, -⟩, -, b⟩
    exact ⟨b, a⟩
  · rintro ⟨a, b⟩
    have := h.lt b
    exact ⟨⟨b, by omega⟩, ht, a⟩

-- ===== the way =====
/-- n steps back from t, the first of them in front -/
def anc (f : Nat → Int32) : Nat → Nat → List Nat
  | 0, _ => []
  | n + 1, t => anc f n (f t).toInt.toNat ++ [t]
theorem chain_anc {f cb : Nat → Int32} {K : List Nat} {lev : Nat → Nat} (h30 : ∀ u ∈ K, u < 30) (hcb : ∀ u ∈ K, cb u = f u) (hpa : ∀ u ∈ K, (lev u = 0 ∧ f u = -1) ∨ ∃ v ∈ K, lev u = lev v + 1 ∧ f u = nI v) : ∀ (e n t : Nat) (M : List Nat), t ∈ K → lev t = e → e < n → (∀ u ∈ M, u ∈ K → e < lev u) → (∀ u ∈ M, u ∈ K) → chain cb n (nI t) M = M ++ (anc f (e + 1) t).reverse := by
  intro e
  induction e with
  | zero =>
    intro n t M ht hl hn hM hMK
    obtain ⟨n, rfl⟩ : ∃ m, n = m + 1 := ⟨n - 1, by omega⟩
    have h3 := h30 t ht
    have hb : blw (nI t) 30 = true := blw_in (nI_pos (by omega)) (by rw [show (30 : Int32) = nI 30 from rfl, nI_leI (by omega) (by omega)]; omega)
    have hnm : t ∉ M := fun z => by have := hM t z ht; omega
    show (if blw (nI t) 30 = true then chain cb n (cb (nI t).toInt.toNat) (addI M (nI t)) else M) = _
    rw [if_pos hb, addI_nI M h3, if_neg hnm, nI_toInt (by omega), Int.toNat_natCast, hcb t ht]
    rcases hpa t ht with ⟨-, e1⟩ | ⟨v, -, e1, -⟩
    · rw [e1]
      have : chain cb n (-1) (M ++ [t]) = M ++ [t] := by
        cases n with
        | zero => rfl
        | succ n => show (if blw (-1) 30 = true then _ else _) = _; rw [if_neg (by decide)]
      rw [this]
      rfl
    · omega
  | succ e ih =>
    intro n t M ht hl hn hM hMK
    obtain ⟨n, rfl⟩ : ∃ m, n = m + 1 := ⟨n - 1, by omega⟩
    have h3 := h30 t ht
    have hb : blw (nI t) 30 = true := blw_in (nI_pos (by omega)) (by rw [show (30 : Int32) = nI 30 from rfl, nI_leI (by omega) (by omega)]; omega)
    have hnm : t ∉ M := fun z => by have := hM t z ht; omega
    show (if blw (nI t) 30 = true then chain cb n (cb (nI t).toInt.toNat) (addI M (nI t)) else M) = _
    rw [if_pos hb, addI_nI M h3, if_neg hnm, nI_toInt (by omega), Int.toNat_natCast, hcb t ht]
    rcases hpa t ht with ⟨e0, e1⟩ | ⟨v, hv, e1, e2⟩
    · omega
    · rw [e2, ih n v (M ++ [t]) hv (by omega) (by omega) ?_ ?_]
      · show _ = M ++ (anc f (e + 1) (f t).toInt.toNat ++ [t]).reverse
        rw [e2, nI_toInt (by have := h30 v hv; omega), Int.toNat_natCast, List.reverse_append, List.append_assoc]
        rfl
      · intro u hu huK
        rcases List.mem_append.mp hu with z | z
        · have := hM u z huK; omega
        · rw [List.mem_singleton] at z; subst z; omega
      · intro u hu
        rcases List.mem_append.mp hu with z | z
        · exact hMK u z
        · rw [List.mem_singleton] at z; subst z; exact ht
theorem anc_mem {f : Nat → Int32} {K : List Nat} {lev : Nat → Nat} (h30 : ∀ u ∈ K, u < 30) (hpa : ∀ u ∈ K, (lev u = 0 ∧ f u = -1) ∨ ∃ v ∈ K, lev u = lev v + 1 ∧ f u = nI v) : ∀ (e t : Nat), t ∈ K → lev t = e → ∀ u ∈ anc f (e + 1) t, u ∈ K := by
  intro e
  induction e with
  | zero =>
    intro t ht _ u hu
    have : u ∈ [] ++ [t] := hu
    rw [List.nil_append, List.mem_singleton] at this
    rw [this]; exact ht
  | succ e ih =>
    intro t ht hl u hu
    have hu2 : u ∈ anc f (e + 1) (f t).toInt.toNat ++ [t] := hu
    rcases List.mem_append.mp hu2 with z | z
    · rcases hpa t ht with ⟨a, -⟩ | ⟨v, hv, a, b⟩
      · omega
      · rw [b, nI_toInt (by have := h30 v hv; omega), Int.toNat_natCast] at z
        exact ih v hv (by omega) u z
    · rw [List.mem_singleton] at z; rw [z]; exact ht
theorem chain_nd (cb : Nat → Int32) : ∀ (n : Nat) (t : Int32) (M : List Nat), M.Nodup → (chain cb n t M).Nodup := by
  intro n
  induction n with
  | zero => intro t M h; exact h
  | succ n ih =>
    intro t M h
    show (if blw t 30 = true then chain cb n (cb t.toInt.toNat) (addI M t) else M).Nodup
    split
    · apply ih
      unfold addI
      split
      · rename_i hc
        rw [List.nodup_append]
        refine ⟨h, by simp, ?_⟩
        intro a ha b hb e
        rw [List.mem_singleton] at hb
        exact hc.2.2 (by rw [← hb, ← e]; exact ha)
      · exact h
    · exact h
theorem wayF_nd (g : Gr) (L G : List Nat) : (wayF g L G).Nodup := nodup_rev (chain_nd _ _ _ _ List.nodup_nil)
theorem bq_in {nb : Nat → List Nat} {mo : Int32} {m : Nat} (hnb : ∀ t u, u ∈ nb t → u < m) : ∀ (n k : Nat) (x : BX), (∀ u ∈ x.1, u < m) → ∀ u ∈ (bq nb mo n k x).1, u < m := by
  intro n
  induction n with
  | zero => intro k x h; exact h
  | succ n ih =>
    intro k x h
    show ∀ u ∈ (if k < x.1.length then bq nb mo n (k + 1) (bst nb mo (x.1.getD k 0) x) else x).1, u < m
    split
    · apply ih
      intro u hu
      unfold bst at hu
      split at hu
      · exact h u hu
      · rw [bN_1, addL_mem] at hu
        exact hu.elim (h u) (hnb _ u)
    · exact h
theorem note_bN (t : Nat) : ∀ (R : List Nat) (x : BX) (c : List Nat × (Nat → Int32)), c.1 = x.1 → (∀ u ∈ x.1, c.2 u = x.2.1 u) → (noteL t c R).1 = (bN t x R).1 ∧ ∀ u ∈ (bN t x R).1, (noteL t c R).2 u = (bN t x R).2.1 u := by
  intro R
  induction R with
  | nil => intro x c h h2; exact ⟨h, h2⟩
  | cons a R ih =>
    intro x c h h2
    show (noteL t (note1 t c a) R).1 = (bN t (bn t x a) R).1 ∧ ∀ u ∈ (bN t (bn t x a) R).1, (noteL t (note1 t c a) R).2 u = (bN t (bn t x a) R).2.1 u
    unfold note1 bn
    rw [h]
    by_cases hm : a ∈ x.1
    · rw [if_pos hm, if_pos hm]; exact ih x c h h2
    · rw [if_neg hm, if_neg hm]
      refine ih _ _ rfl ?_
      intro u hu
      show upd c.2 a (nI t) u = upd x.2.1 a (nI t) u
      by_cases e : u = a
      · rw [e, upd_s, upd_s]
      · rw [upd_o e, upd_o e]
        rcases List.mem_append.mp hu with z | z
        · exact h2 u z
        · exact absurd (List.mem_singleton.mp z) e
/-- what stood in the list at k stands so at the end -/
theorem bq_keep {nb : Nat → List Nat} {mo : Int32} : ∀ (n k : Nat) (x : BX), pfx x.1 (bq nb mo n k x).1 ∧ ∀ u ∈ x.1, (bq nb mo n k x).2.1 u = x.2.1 u ∧ (bq nb mo n k x).2.2 u = x.2.2 u := by
  intro n
  induction n with
  | zero => intro k x; exact ⟨⟨[], (List.append_nil _).symm⟩, fun u _ => ⟨rfl, rfl⟩⟩
  | succ n ih =>
    intro k x
    have e : bq nb mo (n + 1) k x = if k < x.1.length then bq nb mo n (k + 1) (bst nb mo (x.1.getD k 0) x) else x := rfl
    rw [e]
    by_cases hk : k < x.1.length
    · rw [if_pos hk]
      obtain ⟨i1, i2⟩ := ih (k + 1) (bst nb mo (x.1.getD k 0) x)
      have p1 := bst_pfx nb mo (x.1.getD k 0) x
      refine ⟨p1.tr i1, fun u hu => ?_⟩
      have hu2 : u ∈ (bst nb mo (x.1.getD k 0) x).1 := by obtain ⟨N, hN⟩ := p1; rw [hN]; exact List.mem_append_left _ hu
      obtain ⟨a, b⟩ := i2 u hu2
      have q : (bst nb mo (x.1.getD k 0) x).2.1 u = x.2.1 u ∧ (bst nb mo (x.1.getD k 0) x).2.2 u = x.2.2 u := by
        unfold bst
        split
        · exact ⟨rfl, rfl⟩
        · exact (bN_2 _ x (getD_mem hk)).1 u hu
      exact ⟨a.trans q.1, b.trans q.2⟩
    · rw [if_neg hk]; exact ⟨⟨[], (List.append_nil _).symm⟩, fun u _ => ⟨rfl, rfl⟩⟩
theorem wayQ_bq {g : Gr} {G S : List Nat} (hnb : ∀ t u, u ∈ gD g t → u < 30) : ∀ (n k : Nat) (x : BX) (c : List Nat × (Nat → Int32)) (lev : Nat → Nat), c.1 = x.1 → (∀ u ∈ x.1, c.2 u = x.2.1 u) → BI (gD g) S k x lev → 30 ≤ n + k → (∀ p, p < k → p < x.1.length → x.1.getD p 0 ∉ G) →
    (((bq (gD g) 1000 n k x).1.find? (fun t => decide (t ∈ G)) = none ∧ (wayQ g G n k c).1 = -1) ∨ ∃ t, (bq (gD g) 1000 n k x).1.find? (fun t => decide (t ∈ G)) = some t ∧ (wayQ g G n k c).1 = nI t ∧ ∃ (K : List Nat) (l2 : Nat → Nat), t ∈ K ∧ (∀ u ∈ K, u < 30 ∧ l2 u < 30 ∧ u ∈ (bq (gD g) 1000 n k x).1) ∧ (∀ u ∈ K, (wayQ g G n k c).2 u = (bq (gD g) 1000 n k x).2.1 u ∧ (bq (gD g) 1000 n k x).2.2 u = nI (l2 u)) ∧ ∀ u ∈ K, (l2 u = 0 ∧ (bq (gD g) 1000 n k x).2.1 u = -1) ∨ ∃ v ∈ K, l2 u = l2 v + 1 ∧ (bq (gD g) 1000 n k x).2.1 u = nI v) := by
  intro n
  induction n with
  | zero =>
    intro k x c lev h1 h2 hB hn hG
    have hlen : x.1.length ≤ 30 := nodup_len 30 _ hB.1.1 hB.1.2
    refine Or.inl ⟨?_, rfl⟩
    rw [show bq (gD g) 1000 0 k x = x from rfl, List.find?_eq_none]
    intro t ht
    obtain ⟨j, hj, ej⟩ := List.getElem_of_mem ht
    have := hG j (by omega) hj
    rw [getD_in hj, ej] at this
    rw [decide_eq_true_eq]
    exact this
  | succ n ih =>
    intro k x c lev h1 h2 hB hn hG
    have hlen : x.1.length ≤ 30 := nodup_len 30 _ hB.1.1 hB.1.2
    have e : bq (gD g) 1000 (n + 1) k x = if k < x.1.length then bq (gD g) 1000 n (k + 1) (bst (gD g) 1000 (x.1.getD k 0) x) else x := rfl
    have ew : wayQ g G (n + 1) k c = if k < c.1.length then (if c.1.getD k 0 ∈ G then (nI (c.1.getD k 0), c.2) else wayQ g G n (k + 1) (noteL (c.1.getD k 0) c (gD g (c.1.getD k 0)))) else (-1, c.2) := rfl
    by_cases hk : k < x.1.length
    · by_cases hgk : x.1.getD k 0 ∈ G
      · refine Or.inr ⟨x.1.getD k 0, ?_, by rw [ew, h1, if_pos hk, if_pos hgk], x.1, lev, getD_mem hk, fun u hu => ⟨hB.1.2 u hu, hB.lt hu, by obtain ⟨⟨N, hN⟩, -⟩ := bq_keep (nb := gD g) (mo := 1000) (n + 1) k x; rw [hN]; exact List.mem_append_left _ hu⟩, ?_, ?_⟩
        · obtain ⟨⟨N, hN⟩, -⟩ := bq_keep (nb := gD g) (mo := 1000) (n + 1) k x
          rw [hN, List.find?_append]
          have ex : x.1 = x.1.take k ++ x.1.getD k 0 :: x.1.drop (k + 1) := by
            rw [getD_in hk, ← List.drop_eq_getElem_cons hk, List.take_append_drop]
          have ef : x.1.find? (fun t => decide (t ∈ G)) = some (x.1.getD k 0) := by
            rw [List.find?_eq_some_iff_append]
            refine ⟨by rw [decide_eq_true_eq]; exact hgk, x.1.take k, x.1.drop (k + 1), ex, ?_⟩
            intro a ha
            obtain ⟨j, hj, ej⟩ := List.getElem_of_mem ha
            rw [List.length_take] at hj
            have := hG j (by omega) (by omega)
            rw [getD_in (by omega)] at this
            rw [List.getElem_take] at ej
            rw [ej] at this
            simp [this]
          rw [ef]; rfl
        · intro u hu
          rw [ew, h1, if_pos hk, if_pos hgk]
          obtain ⟨-, q⟩ := bq_keep (nb := gD g) (mo := 1000) (n + 1) k x
          exact ⟨(h2 u hu).trans (q u hu).1.symm, (q u hu).2.trans (hB.2.1 u hu)⟩
        · intro u hu
          obtain ⟨-, q⟩ := bq_keep (nb := gD g) (mo := 1000) (n + 1) k x
          rw [(q u hu).1]
          rcases hB.2.2.2.2.2.1 u hu with ⟨a, -, b⟩ | ⟨v, a, -, b, c⟩
          · exact Or.inl ⟨a, b⟩
          · exact Or.inr ⟨v, a, b, c⟩
      · have hlt := hB.2.2.2.2.2.2.2 k hk
        have eb : bst (gD g) 1000 (x.1.getD k 0) x = bN (x.1.getD k 0) x (gD g (x.1.getD k 0)) := by
          unfold bst
          rw [hB.2.1 _ (getD_mem hk), if_neg (by rw [show (1000 : Int32) = nI 1000 from rfl, nI_eq (by omega) (by omega)]; omega)]
        obtain ⟨lev2, hB2⟩ := hB.step hnb hk
        have p1 := bst_pfx (gD g) 1000 (x.1.getD k 0) x
        rw [e, ew, h1, if_pos hk, if_pos hk, if_neg hgk, ← h1] 
        rw [h1]
        obtain ⟨n1, n2⟩ := note_bN (x.1.getD k 0) (gD g (x.1.getD k 0)) x c h1 h2
        refine ih (k + 1) _ _ lev2 (by rw [eb]; exact n1) (by rw [eb]; exact n2) hB2 (by omega) ?_
        intro p hp hp2
        rcases Nat.lt_or_ge p k with z | z
        · obtain ⟨N, hN⟩ := p1
          rw [hN, getD_app (by omega)]
          exact hG p z (by omega)
        · have : p = k := by omega
          subst this
          obtain ⟨N, hN⟩ := p1
          rw [hN, getD_app hk]
          exact hgk
    · rw [e, ew, h1, if_neg hk, if_neg hk]
      refine Or.inl ⟨?_, rfl⟩
      rw [List.find?_eq_none]
      intro t ht
      obtain ⟨j, hj, ej⟩ := List.getElem_of_mem ht
      have := hG j (by omega) hj
      rw [getD_in hj, ej] at this
      rw [decide_eq_true_eq]
      exact this
/-- the way that the model finds is the class's -/
theorem way_eq {g : Gr} {L G : List Nat} (hnb : ∀ t u, u ∈ gD g t → u < 30) {x : BX} (hx : x.1 = L) (hnd : L.Nodup) (h30 : ∀ u ∈ L, u < 30) (h0 : ∀ u ∈ L, x.2.1 u = -1 ∧ x.2.2 u = 0) :
    ((bq (gD g) 1000 30 0 x).1.find? (fun t => decide (t ∈ G)) = none ∧ wayF g L G = []) ∨ ∃ t e, t < 30 ∧ e < 30 ∧ (bq (gD g) 1000 30 0 x).1.find? (fun t => decide (t ∈ G)) = some t ∧ (bq (gD g) 1000 30 0 x).2.2 t = nI e ∧ wayF g L G = anc (bq (gD g) 1000 30 0 x).2.1 (e + 1) t ∧ ∀ u ∈ anc (bq (gD g) 1000 30 0 x).2.1 (e + 1) t, u ∈ (bq (gD g) 1000 30 0 x).1 := by
  subst hx
  have hB := BI.init (nb := gD g) hnd h30 h0
  unfold wayF wayS
  rcases wayQ_bq (G := G) hnb 30 0 x (x.1, fun _ => -1) _ rfl (fun u hu => ((h0 u hu).1).symm) hB (by omega) (fun p h => absurd h (by omega)) with ⟨a, b⟩ | ⟨t, a, b, K, l2, k1, k2, k3, k4⟩
  · refine Or.inl ⟨a, ?_⟩
    rw [b]
    show (if blw (-1) 30 = true then _ else _ : List Nat).reverse = []
    rw [if_neg (by decide)]
    rfl
  · have h30K : ∀ u ∈ K, u < 30 := fun u hu => (k2 u hu).1
    refine Or.inr ⟨t, l2 t, (k2 t k1).1, (k2 t k1).2.1, a, (k3 t k1).2, ?_, fun u hu => ?_⟩
    · rw [b, chain_anc (f := (bq (gD g) 1000 30 0 x).2.1) (K := K) (lev := l2) (fun u hu => (k2 u hu).1) (fun u hu => (k3 u hu).1) k4 (l2 t) 30 t [] k1 rfl (k2 t k1).2.1 (fun u hu => by cases hu) (fun u hu => by cases hu), List.nil_append, List.reverse_reverse]
    · exact (k2 u (anc_mem h30K k4 (l2 t) t k1 rfl u hu)).2.2
