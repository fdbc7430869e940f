-- ===== the steps of a program that was read: class and model side by side =====
theorem gD_lt {g : Gr} (hg : GrOK g) : ∀ t u, u ∈ gD g t → u < g.length := fun t u h => (hg.2.2.2 t).2.2 u h
theorem gU_lt {g : Gr} : ∀ t u, u ∈ gU g t → u < g.length := by
  intro t u h
  unfold gU at h
  rw [List.mem_filter, decide_eq_true_eq] at h
  rcases Nat.lt_or_ge u g.length with z | z
  · exact z
  · rw [gD_out z] at h; exact absurd h.2 (by simp)
theorem gU_range {g : Gr} (hg : g.length ≤ 30) (t : Nat) : gU g t = (List.range g.length).filter (fun u => decide (t ∈ gD g u)) := by
  unfold gU
  rw [show (30 : Nat) = g.length + (30 - g.length) by omega, List.range_add, List.filter_append]
  have : ((List.range (30 - g.length)).map (fun x => g.length + x)).filter (fun u => decide (t ∈ gD g u)) = [] := by
    rw [List.filter_eq_nil_iff]
    intro u hu
    obtain ⟨x, -, rfl⟩ := List.mem_map.mp hu
    rw [gD_out (by omega)]
    simp
  rw [this, List.append_nil]
/-- a good row: each once, all targets -/
def gRow (g : Gr) (L : List Nat) : Prop := L.Nodup ∧ ∀ t ∈ L, t < g.length
theorem gRow.flt {g : Gr} {L : List Nat} (h : gRow g L) (p : Nat → Bool) : gRow g (L.filter p) := ⟨List.Pairwise.sublist List.filter_sublist h.1, fun t ht => h.2 t (List.mem_filter.mp ht).1⟩
theorem gRow.rng (g : Gr) : gRow g (List.range g.length) := ⟨List.nodup_range, fun t ht => List.mem_range.mp ht⟩
theorem gRow.grow {g : Gr} {nb : Nat → List Nat} (hnb : ∀ t u, u ∈ nb t → u < g.length) : ∀ (r fr : Nat) (L : List Nat), gRow g L → gRow g (growR nb r L fr) := by
  intro r
  induction r with
  | zero => intro fr L h; exact h
  | succ r ih =>
    intro fr L h
    rcases Nat.lt_or_ge fr L.length with z | z
    · rw [growR_s nb r z]
      refine ih _ _ ⟨addB_nd nb _ _ h.1, fun t ht => ?_⟩
      rw [addB_mem] at ht
      rcases ht with y | ⟨v, -, y⟩
      · exact h.2 t y
      · exact hnb v t y
    · rw [growR_end nb _ z]; exact h
theorem gRow.add {g : Gr} {L M : List Nat} (h : gRow g L) (h2 : gRow g M) : gRow g (addL L M) := ⟨addL_nd _ _ h.1, fun t ht => by rw [addL_mem] at ht; exact ht.elim (h.2 t) (h2.2 t)⟩
theorem gRow.way {g : Gr} (hg : GrOK g) {L G : List Nat} (h : gRow g L) : gRow g (wayF g L G) := by
  refine ⟨wayF_nd g L G, ?_⟩
  have h30 : ∀ u ∈ L, u < 30 := fun u hu => Nat.lt_of_lt_of_le (h.2 u hu) hg.1
  rcases way_eq (g := g) (L := L) (G := G) (fun t u hu => Nat.lt_of_lt_of_le (gD_lt hg t u hu) hg.1) (x := (L, fun _ => -1, fun _ => 0)) rfl h.1 h30 (fun u _ => ⟨rfl, rfl⟩) with ⟨-, e⟩ | ⟨t, e, -, -, -, -, e1, e2⟩
  · rw [e]; intro t ht; cases ht
  · rw [e1]
    intro u hu
    exact bq_in (gD_lt hg) 30 0 _ h.2 u (e2 u hu)
/-- all rows in use are good -/
def RI (g : Gr) (q : RS) (a : Za) : Prop := q.1 = a.1 ∧ (∀ i, i < a.1 → gRow g (q.2.1 i)) ∧ (∀ i, i < a.2.length → gRow g (q.2.2.1 i)) ∧ a.2.length ≤ 12
/-- every name of the step is a target's -/
def kn9 (g : Gr) (z : Zt) : Prop := z.2.1 = 2 → ¬ gNoI g z.2.2.1 = -1
theorem gNo_in {g : Gr} {n : Nat} (h : ¬ gNo g n = -1) : ∃ t, t < g.length ∧ gNo g n = nI t := by
  unfold gNo at h ⊢
  cases e : gNum g n with
  | none => rw [e] at h; exact absurd rfl h
  | some t => exact ⟨t, (gNum_lt e).1, rfl⟩
/-- the step of a pair: the class's, or nothing -/
def zex (g : Gr) (q : RS) (z : Zt) : RS := match z.1 with
  | some t => rstep g q t
  | none => q
theorem updJ_o9 {J : Nat → List Nat} {i j : Nat} {L : List Nat} (h : ¬ j = i) : updJ J i L j = J j := if_neg h
theorem RI.one {g : Gr} (hg : GrOK g) {q : RS} {a b : Za} {z : Zt} (h : RI g q a) (hz : zs a b z) (hk : kn9 g z) : RI g (zex g q z) b ∧ ∀ t, z.1 = some t → rok q.1 t := by
  obtain ⟨h1, h2, h3, h4⟩ := h
  rcases hz with ⟨ha, rfl, hc⟩ | ⟨ha, ha2, hba, hc⟩ | ⟨ha, ha2, rfl, K, pl, hK, rfl⟩ | ⟨ha, ha2, c, pl, hc, hl, rfl, rfl⟩ | ⟨c, ls, hc, hl, rfl, rfl⟩
  · have push : ∀ (t : Tok), z.1 = some t → (t.1 = 2 ∨ t.1 = 3 ∨ t.1 = 5) → gRow g (oneX g q.2.2.1 t.1 t.2.1 []) → RI g (zex g q z) (a.1 + 1, a.2) := by
      intro t ht hh hr
      unfold zex
      rw [ht]
      show RI g (rstep g q t) (a.1 + 1, a.2)
      rw [rs_push hh]
      refine ⟨by show q.1 + 1 = a.1 + 1; rw [h1], fun i hi => ?_, h3, h4⟩
      show gRow g (updJ q.2.1 q.1 _ i)
      by_cases e : i = q.1
      · rw [e, updJ_s]; exact hr
      · rw [updJ_o9 e]; exact h2 i (by have hi : i < a.1 + 1 := hi; omega)
    rcases hc with ⟨v, pl, hv, rfl⟩ | ⟨w, pl, rfl⟩ | ⟨s, c, pl, pl2, hc, hs, hl, rfl⟩
    · refine ⟨push _ rfl (Or.inl rfl) ?_, fun t ht => ?_⟩
      · have hk : ¬ gNoI g (nI v) = -1 := hk rfl
        rw [gNoI_nI g hv] at hk
        obtain ⟨t, ht, et⟩ := gNo_in hk
        have e : oneX g q.2.2.1 2 (nI v) [] = [t] := by
          unfold oneX
          rw [if_pos rfl, gNoI_nI g hv, et, addI_nI [] (Nat.lt_of_lt_of_le ht hg.1), if_neg (by simp)]
          rfl
        show gRow g (oneX g q.2.2.1 2 (nI v) [])
        rw [e]
        exact ⟨by simp, fun u hu => by rw [List.mem_singleton] at hu; rw [hu]; exact ht⟩
      · injection ht with ht; subst ht
        exact Or.inr (Or.inr (Or.inl ⟨rfl, by rw [h1]; exact ha⟩))
    · refine ⟨push _ rfl (Or.inr (Or.inr rfl)) (gRow.rng g), fun t ht => ?_⟩
      injection ht with ht; subst ht
      exact Or.inr (Or.inr (Or.inr (Or.inr (Or.inl ⟨rfl, by rw [h1]; exact ha⟩))))
    · refine ⟨push _ rfl (Or.inr (Or.inl rfl)) ?_, fun t ht => ?_⟩
      · show gRow g (q.2.2.1 (nI s).toInt.toNat)
        rw [nI_toInt (by omega), Int.toNat_natCast]
        refine h3 s ?_
        have hr : a.2.reverse.length < 1000 := by rw [List.length_reverse]; omega
        by_cases hm : c ∈ a.2.reverse
        · obtain ⟨s2, hs2, e2⟩ := (lixR_in _ c hr).2 hm
          have e3 : nI s2 = nI s := e2.symm.trans hl
          rw [List.length_reverse] at hs2
          rw [nI_eq (by omega) (by omega)] at e3
          omega
        · have e2 := (lixR_in _ c hr).1 hm
          have e3 : (-1 : Int32) = nI s := e2.symm.trans hl
          have := congrArg Int32.toInt e3
          rw [nI_toInt (by omega)] at this
          have : (-1 : Int32).toInt = -1 := by decide
          omega
      · injection ht with ht; subst ht
        exact Or.inr (Or.inr (Or.inr (Or.inl ⟨rfl, by rw [h1]; exact ha, s, hs, rfl⟩)))
  · obtain rfl : a = b := hba.symm
    have top : ∀ (t : Tok), z.1 = some t → (t.1 = 6 ∨ t.1 = 7 ∨ t.1 = 9 ∨ t.1 = 10 ∨ t.1 = 11) → gRow g (oneX g q.2.2.1 t.1 t.2.1 (q.2.1 (q.1 - 1))) → RI g (zex g q z) a := by
      intro t ht hh hr
      unfold zex
      rw [ht]
      show RI g (rstep g q t) a
      rw [rs_top hh]
      refine ⟨h1, fun i hi => ?_, h3, h4⟩
      show gRow g (updJ q.2.1 (q.1 - 1) _ i)
      by_cases e : i = q.1 - 1
      · rw [e, updJ_s]; exact hr
      · rw [updJ_o9 e]; exact h2 i hi
    have hL : gRow g (q.2.1 (q.1 - 1)) := h2 _ (by omega)
    rcases hc with ⟨K, R, pl, hK, hR, hz⟩ | ⟨v, pl, rfl⟩ | ⟨K, pl, hK, rfl⟩
    · have e1 : z.1 = some (K, nI R, pl) := by rcases hz with rfl | ⟨-, rfl⟩ <;> rfl
      refine ⟨top _ e1 ?_ ?_, fun t ht => ?_⟩
      · rcases hK with rfl | rfl
        · exact Or.inl rfl
        · exact Or.inr (Or.inl rfl)
      · rcases hK with rfl | rfl
        · exact gRow.grow (gD_lt hg) _ _ _ hL
        · exact gRow.grow gU_lt _ _ _ hL
      · rw [e1] at ht
        injection ht with ht; subst ht
        exact Or.inr (Or.inr (Or.inr (Or.inr (Or.inr (Or.inl ⟨hK, by omega, by omega, R, by omega, rfl⟩)))))
    · refine ⟨top _ rfl (Or.inr (Or.inr (Or.inl rfl))) (hL.flt _), fun t ht => ?_⟩
      injection ht with ht; subst ht
      exact Or.inr (Or.inr (Or.inr (Or.inr (Or.inr (Or.inr ⟨Or.inl rfl, by omega, by omega⟩)))))
    · refine ⟨top _ rfl ?_ ?_, fun t ht => ?_⟩
      · rcases hK with rfl | rfl
        · exact Or.inr (Or.inr (Or.inr (Or.inl rfl)))
        · exact Or.inr (Or.inr (Or.inr (Or.inr rfl)))
      · rcases hK with rfl | rfl
        · show gRow g (testS g (q.2.1 (q.1 - 1)))
          unfold testS
          refine ⟨List.Pairwise.sublist List.filter_sublist List.nodup_range, fun t ht => ?_⟩
          have := (List.mem_filter.mp ht).2
          rw [Bool.and_eq_true, decide_eq_true_eq] at this
          exact this.2.1
        · exact (gRow.rng g).flt _
      · injection ht with ht; subst ht
        exact Or.inr (Or.inr (Or.inr (Or.inr (Or.inr (Or.inr ⟨Or.inr hK, by omega, by omega⟩)))))
  · have hL : gRow g (q.2.1 (q.1 - 1 - 1)) := h2 _ (by omega)
    have hR : gRow g (q.2.1 (q.1 - 1)) := h2 _ (by omega)
    constructor
    · show RI g (rstep g q (K, 0, pl)) (a.1 - 1, a.2)
      rw [rs_two hK]
      refine ⟨by show q.1 - 1 = a.1 - 1; rw [h1], fun i hi => ?_, h3, h4⟩
      show gRow g (updJ q.2.1 (q.1 - 1 - 1) _ i)
      by_cases e : i = q.1 - 1 - 1
      · rw [e, updJ_s]
        rcases hK with rfl | rfl | rfl | rfl
        · exact hL.add hR
        · exact hL.flt _
        · exact hL.flt _
        · exact gRow.way hg hL
      · rw [updJ_o9 e]; exact h2 i (by have hi : i < a.1 - 1 := hi; omega)
    · intro t ht
      injection ht with ht; subst ht
      exact Or.inr (Or.inl ⟨hK, by omega, by omega⟩)
  · constructor
    · show RI g (rstep g q (12, nI a.2.length, pl)) (a.1 - 1, a.2 ++ [c])
      rw [rs_let rfl]
      refine ⟨by show q.1 - 1 = a.1 - 1; rw [h1], fun i hi => h2 i (by have hi : i < a.1 - 1 := hi; omega), fun i hi => ?_, by show (a.2 ++ [c]).length ≤ 12; rw [List.length_append, List.length_singleton]; omega⟩
      show gRow g (updJ q.2.2.1 (nI a.2.length).toInt.toNat (q.2.1 (q.1 - 1)) i)
      rw [nI_toInt (by omega), Int.toNat_natCast]
      have hi : i < (a.2 ++ [c]).length := hi
      rw [List.length_append, List.length_singleton] at hi
      by_cases e : i = a.2.length
      · rw [e, updJ_s]; exact h2 _ (by omega)
      · rw [updJ_o9 e]; exact h3 i (by omega)
    · intro t ht
      injection ht with ht; subst ht
      exact Or.inl ⟨rfl, by omega, by omega, a.2.length, hl, rfl⟩
  · refine ⟨⟨h1, h2, fun i hi => h3 i ?_, ?_⟩, fun t ht => by cases ht⟩
    · rw [hl, List.length_append]
      have hi : i < ls.length := hi
      omega
    · rw [hl, List.length_append] at h4
      show ls.length ≤ 12
      omega
theorem zex_fold (g : Gr) : ∀ (Z : List Zt) (q : RS), Z.foldl (zex g) q = (cz Z).foldl (rstep g) q := by
  intro Z
  induction Z with
  | nil => intro q; rfl
  | cons z Z ih =>
    intro q
    show Z.foldl (zex g) (zex g q z) = _
    rw [ih]
    obtain ⟨o, m⟩ := z
    cases o <;> rfl
theorem RI.run {g : Gr} (hg : GrOK g) : ∀ (Z : List Zt) (q : RS) (a b : Za), RI g q a → zrun a Z b → (∀ z ∈ Z, kn9 g z) → RI g (Z.foldl (zex g) q) b ∧ ∀ (i : Nat) (h : i < (cz Z).length), rok (((cz Z).take i).foldl (rstep g) q).1 (cz Z)[i] := by
  intro Z
  induction Z with
  | nil => intro q a b h hz _; obtain rfl : a = b := hz; exact ⟨h, fun i h => absurd h (by show ¬ i < 0; omega)⟩
  | cons z Z ih =>
    intro q a b h hz hk
    obtain ⟨m, h1, h2⟩ := hz
    obtain ⟨i1, i2⟩ := h.one hg h1 (hk z List.mem_cons_self)
    obtain ⟨j1, j2⟩ := ih (zex g q z) m b i1 h2 (fun y hy => hk y (List.mem_cons_of_mem _ hy))
    refine ⟨j1, ?_⟩
    obtain ⟨o, mm⟩ := z
    cases o with
    | none => exact j2
    | some t =>
      intro i hi
      have e : cz ((some t, mm) :: Z) = t :: cz Z := rfl
      cases i with
      | zero => exact i2 t rfl
      | succ i =>
        have hi2 : i < (cz Z).length := by
          have : (t :: cz Z).length = (cz Z).length + 1 := rfl
          rw [e] at hi; omega
        exact j2 i hi2
