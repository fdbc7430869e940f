-- ===== the model's join =====
def kp (K : Int32) (R : List Nat) (t : Nat) : Bool := decide (K = 43) || (decide (t ∈ R) == decide (K = 38))
theorem flt_s {L : List Nat} {p : Nat → Bool} {i : Nat} (h : i < L.length) : (L.take (i + 1)).filter p = (L.take i).filter p ++ (if p L[i] = true then [L[i]] else []) := by
  rw [List.take_succ_eq_append_getElem h, List.filter_append, List.filter_cons]
  by_cases e : p L[i] = true <;> simp [e]
theorem flt_len (L : List Nat) (p : Nat → Bool) (i : Nat) : ((L.take i).filter p).length ≤ i := Nat.le_trans (List.length_filter_le _ _) (by rw [List.length_take]; omega)
theorem addL_flt9 : ∀ (M L : List Nat), M.Nodup → addL L M = L ++ M.filter (fun t => !decide (t ∈ L)) := by
  intro M
  induction M with
  | nil => intro L _; show L = _; simp
  | cons a M ih =>
    intro L hn
    obtain ⟨h1, h2⟩ := List.nodup_cons.mp hn
    show addL (addN L a) M = _
    rw [ih _ h2]
    unfold addN
    by_cases e : a ∈ L
    · rw [if_pos e, List.filter_cons, if_neg (by simp [e])]
    · rw [if_neg e, List.filter_cons, if_pos (by simp [e]), List.append_assoc]
      congr 1
      show [a] ++ _ = a :: _
      rw [List.singleton_append]
      congr 1
      apply List.filter_congr
      intro t ht
      have hta : ¬ t = a := fun z => h1 (z ▸ ht)
      simp [hta]
theorem flt_nd {L : List Nat} (h : L.Nodup) (p : Nat → Bool) : (L.filter p).Nodup := List.Pairwise.sublist List.filter_sublist h

theorem updJ_o {J : Nat → List Nat} {i j : Nat} {L : List Nat} (h : ¬ j = i) : updJ J i L j = J j := if_neg h
