-- ===== ways: the model's walk =====
/-- the ways from h, s steps left, none through w -/
def cw (g : Gr) (gb : Nat) : Nat → List Nat → Nat → Nat
  | 0, _, _ => 0
  | s + 1, w, h => ((gD g h).map (fun u => if u ∈ w then 0 else if u = gb then 1 else cw g gb s (w ++ [u]) u)).sum
def cwU (g : Gr) (gb s : Nat) (w : List Nat) (u : Nat) : Nat := if u ∈ w then 0 else if u = gb then 1 else cw g gb s (w ++ [u]) u
theorem sum_one {L : List Nat} (hn : L.Nodup) (a : Nat) (f : Nat → Nat) : (L.map (fun u => if u = a then 1 else f u)).sum = (if a ∈ L then 1 else 0) + (L.map (fun u => if u = a then 0 else f u)).sum := by
  induction L with
  | nil => rfl
  | cons b L ih =>
    obtain ⟨h1, h2⟩ := List.nodup_cons.mp hn
    rw [List.map_cons, List.map_cons, List.sum_cons, List.sum_cons, ih h2]
    by_cases e : b = a
    · subst e
      rw [if_pos rfl, if_pos rfl, if_neg h1, if_pos List.mem_cons_self]
    · rw [if_neg e, if_neg e]
      have : (a ∈ b :: L) ↔ a ∈ L := by rw [List.mem_cons]; exact ⟨fun z => z.elim (fun q => absurd q.symm e) id, Or.inr⟩
      by_cases hm : a ∈ L
      · rw [if_pos hm, if_pos (this.mpr hm)]; omega
      · rw [if_neg hm, if_neg (fun z => hm (this.mp z))]; omega
theorem cw_wy {g : Gr} (hg : GrOK g) {gb : Nat} : ∀ (s h : Nat) (w : List Nat) (m : Int32), gb ∉ w → (∀ u, u < 30 → bt m u = (decide (u ∈ w) || decide (u = gb))) → cw g gb s w h = wy g gb s h m := by
  intro s
  induction s with
  | zero => intro h w m _ _; rfl
  | succ s ih =>
    intro h w m hw hm
    obtain ⟨hl, -, -, hd⟩ := hg
    obtain ⟨hn, -, hlt⟩ := hd h
    show ((gD g h).map (fun u => if u ∈ w then 0 else if u = gb then 1 else cw g gb s (w ++ [u]) u)).sum = (if gb ∈ gD g h then 1 else 0) + (if s = 0 then 0 else ((gD g h).map (fun u => if bt m u = true then 0 else wy g gb s u (m ||| ((1 : Int32) <<< (nI u &&& 31))))).sum)
    have e1 : (gD g h).map (fun u => if u ∈ w then 0 else if u = gb then 1 else cw g gb s (w ++ [u]) u) = (gD g h).map (fun u => if u = gb then 1 else (if u ∈ w then 0 else cw g gb s (w ++ [u]) u)) := by
      apply List.map_congr_left
      intro u _
      by_cases e : u = gb
      · subst e; rw [if_neg hw, if_pos rfl, if_pos rfl]
      · rw [if_neg e, if_neg e]
    rw [e1, sum_one hn gb]
    congr 1
    by_cases hs : s = 0
    · subst hs
      rw [if_pos rfl]
      have : (gD g h).map (fun u => if u = gb then 0 else (if u ∈ w then 0 else cw g gb 0 (w ++ [u]) u)) = (gD g h).map (fun _ => 0) := by
        apply List.map_congr_left
        intro u _
        show (if u = gb then 0 else if u ∈ w then 0 else 0) = 0
        split
        · rfl
        · split <;> rfl
      rw [this]
      generalize gD g h = L
      induction L with
      | nil => rfl
      | cons a L ih => rw [List.map_cons, List.sum_cons, ih]
    · rw [if_neg hs]
      congr 1
      apply List.map_congr_left
      intro u hu
      have hu30 : u < 30 := by have := hlt u hu; omega
      by_cases e : u = gb
      · rw [if_pos e, if_pos (by rw [hm u hu30, decide_eq_true e, Bool.or_true])]
      · rw [if_neg e]
        by_cases hm2 : u ∈ w
        · rw [if_pos hm2, if_pos (by rw [hm u hu30, decide_eq_true hm2]; rfl)]
        · rw [if_neg hm2, if_neg (by rw [hm u hu30, decide_eq_false hm2, decide_eq_false e]; decide)]
          apply ih
          · rw [List.mem_append, List.mem_singleton]; exact fun z => z.elim hw (fun q => e q.symm)
          · intro v hv
            rw [b_or, b_sh1 (by omega) (by omega), hm v hv]
            by_cases h1 : v ∈ w <;> by_cases h2 : v = u <;> by_cases h3 : v = gb <;> simp [h1, h2, h3]
/-- what the frame at d (node h, next k) still brings -/
def frS (g : Gr) (gb st : Nat) (w : List Nat) (d k : Nat) : Nat := if d ≤ st then (((gD g (w.getD (d - 1) 0)).drop k).map (cwU g gb (st - d) (w.take d))).sum else 0
/-- all frames up to d -/
def frT (g : Gr) (gb st : Nat) (w : List Nat) (nx : Nat → Nat) : Nat → Nat
  | 0 => 0
  | d + 1 => frT g gb st w nx d + frS g gb st w (d + 1) (nx d)
/-- a measure of the walk -/
def fl9 : Nat → Nat
  | 0 => 1
  | s + 1 => 1 + 8 * (1 + fl9 s)
def muS (g : Gr) (st : Nat) (w : List Nat) (d k : Nat) : Nat := if d ≤ st then 1 + ((gD g (w.getD (d - 1) 0)).length - k) * (1 + fl9 (st - d)) else 1
def muT (g : Gr) (st : Nat) (w : List Nat) (nx : Nat → Nat) : Nat → Nat
  | 0 => 0
  | d + 1 => muT g st w nx d + muS g st w (d + 1) (nx d)
theorem frT_cg {g : Gr} {gb st : Nat} {w w2 : List Nat} {nx nx2 : Nat → Nat} : ∀ d, w.take d = w2.take d → (∀ i, i < d → nx i = nx2 i) → frT g gb st w nx d = frT g gb st w2 nx2 d ∧ muT g st w nx d = muT g st w2 nx2 d := by
  intro d
  induction d with
  | zero => intro _ _; exact ⟨rfl, rfl⟩
  | succ d ih =>
    intro h1 h2
    have h3 : w.take d = w2.take d := by
      have := congrArg (List.take d) h1
      rw [List.take_take, List.take_take, Nat.min_eq_left (by omega)] at this
      exact this
    have h4 : w.getD d 0 = w2.getD d 0 := by
      have := congrArg (fun L => L.getD d 0) h1
      simp only [List.getD_eq_getElem?_getD, List.getElem?_take, Nat.lt_succ_self, if_true] at this
      rw [List.getD_eq_getElem?_getD, List.getD_eq_getElem?_getD]
      exact this
    obtain ⟨i1, i2⟩ := ih h3 (fun i hi => h2 i (by omega))
    constructor
    · show frT g gb st w nx d + frS g gb st w (d + 1) (nx d) = frT g gb st w2 nx2 d + frS g gb st w2 (d + 1) (nx2 d)
      unfold frS
      rw [i1, h2 d (by omega), show d + 1 - 1 = d from rfl, h4, h1]
    · show muT g st w nx d + muS g st w (d + 1) (nx d) = muT g st w2 nx2 d + muS g st w2 (d + 1) (nx2 d)
      unfold muS
      rw [i2, h2 d (by omega), show d + 1 - 1 = d from rfl, h4]
/-- the walk: way w, next needs nx, n ways counted -/
def WI (g : Gr) (gb st tot : Nat) (w : List Nat) (nx : Nat → Nat) (n : Nat) : Prop := n + frT g gb st w nx w.length = tot
theorem WI.pop {g : Gr} {gb st tot : Nat} {w : List Nat} {h : Nat} {nx nx2 : Nat → Nat} {n : Nat} (q : WI g gb st tot (w ++ [h]) nx n) (hx : ∀ i, i < w.length → nx2 i = nx i) (c : st < w.length + 1 ∨ (gD g h).length ≤ nx w.length) : WI g gb st tot w nx2 n ∧ muT g st w nx2 w.length < muT g st (w ++ [h]) nx (w ++ [h]).length := by
  unfold WI at q ⊢
  rw [List.length_append, List.length_singleton] at *
  have e := frT_cg (g := g) (gb := gb) (st := st) (w := w) (w2 := w ++ [h]) (nx := nx2) (nx2 := nx) w.length (by rw [List.take_left, List.take_length]) hx
  have e2 : frS g gb st (w ++ [h]) (w.length + 1) (nx w.length) = 0 := by
    unfold frS
    rcases c with c | c
    · rw [if_neg (by omega)]
    · rw [show (w ++ [h]).getD (w.length + 1 - 1) 0 = h by rw [List.getD_eq_getElem?_getD]; simp, List.drop_eq_nil_of_le c]
      split <;> rfl
  have q2 : n + (frT g gb st (w ++ [h]) nx w.length + frS g gb st (w ++ [h]) (w.length + 1) (nx w.length)) = tot := q
  rw [e2] at q2
  refine ⟨by rw [e.1]; omega, ?_⟩
  rw [e.2]
  show _ < muT g st (w ++ [h]) nx w.length + muS g st (w ++ [h]) (w.length + 1) (nx w.length)
  have : 1 ≤ muS g st (w ++ [h]) (w.length + 1) (nx w.length) := by unfold muS; split <;> omega
  omega
/-- one need of the top is looked at -/
theorem WI.next {g : Gr} {gb st tot : Nat} {w : List Nat} {h : Nat} {nx nx2 : Nat → Nat} {n : Nat} (q : WI g gb st tot (w ++ [h]) nx n) (hx : ∀ i, i < w.length → nx2 i = nx i) (hk : nx2 w.length = nx w.length + 1) (c1 : w.length + 1 ≤ st) (c2 : nx w.length < (gD g h).length) :
    (n + cwU g gb (st - (w.length + 1)) (w ++ [h]) ((gD g h).getD (nx w.length) 0)) + frT g gb st (w ++ [h]) nx2 (w ++ [h]).length = tot ∧ muT g st (w ++ [h]) nx2 (w ++ [h]).length + (1 + fl9 (st - (w.length + 1))) = muT g st (w ++ [h]) nx (w ++ [h]).length := by
  unfold WI at q
  rw [List.length_append, List.length_singleton] at *
  have e := frT_cg (g := g) (gb := gb) (st := st) (w := w ++ [h]) (w2 := w ++ [h]) (nx := nx2) (nx2 := nx) w.length rfl hx
  have q2 : n + (frT g gb st (w ++ [h]) nx w.length + frS g gb st (w ++ [h]) (w.length + 1) (nx w.length)) = tot := q
  have eh : (w ++ [h]).getD (w.length + 1 - 1) 0 = h := by rw [List.getD_eq_getElem?_getD]; simp
  constructor
  · show _ + (frT g gb st (w ++ [h]) nx2 w.length + frS g gb st (w ++ [h]) (w.length + 1) (nx2 w.length)) = tot
    rw [e.1, hk]
    have e2 : frS g gb st (w ++ [h]) (w.length + 1) (nx w.length) = cwU g gb (st - (w.length + 1)) (w ++ [h]) ((gD g h).getD (nx w.length) 0) + frS g gb st (w ++ [h]) (w.length + 1) (nx w.length + 1) := by
      unfold frS
      rw [if_pos c1, if_pos c1, eh, List.drop_eq_getElem_cons c2, List.map_cons, List.sum_cons, getD_in c2, List.take_of_length_le (by rw [List.length_append]; simp)]
    omega
  · show muT g st (w ++ [h]) nx2 w.length + muS g st (w ++ [h]) (w.length + 1) (nx2 w.length) + _ = muT g st (w ++ [h]) nx w.length + muS g st (w ++ [h]) (w.length + 1) (nx w.length)
    rw [e.2, hk]
    unfold muS
    rw [if_pos c1, if_pos c1, eh]
    obtain ⟨r, hr⟩ : ∃ r, (gD g h).length - nx w.length = r + 1 := ⟨(gD g h).length - nx w.length - 1, by omega⟩
    rw [hr, show (gD g h).length - (nx w.length + 1) = r by omega, Nat.add_mul]
    omega
theorem WI.push {g : Gr} {gb st tot : Nat} {w : List Nat} {u : Nat} {nx nx2 : Nat → Nat} {n s : Nat} (hg : GrOK g) (q : (n + cwU g gb s w u) + frT g gb st w nx w.length = tot) (hs : s = st - w.length) (hu : u ∉ w) (hb : ¬ u = gb) (c1 : w.length ≤ st) (hx : ∀ i, i < w.length → nx2 i = nx i) (h0 : nx2 w.length = 0) :
    WI g gb st tot (w ++ [u]) nx2 n ∧ muT g st (w ++ [u]) nx2 (w ++ [u]).length < muT g st w nx w.length + (1 + fl9 s) := by
  have e := frT_cg (g := g) (gb := gb) (st := st) (w := w ++ [u]) (w2 := w) (nx := nx2) (nx2 := nx) w.length (by rw [List.take_left, List.take_length]) hx
  have eh : (w ++ [u]).getD (w.length + 1 - 1) 0 = u := by rw [List.getD_eq_getElem?_getD]; simp
  have ec : cwU g gb s w u = cw g gb s (w ++ [u]) u := by unfold cwU; rw [if_neg hu, if_neg hb]
  rw [ec] at q
  unfold WI
  rw [List.length_append, List.length_singleton]
  constructor
  · show n + (frT g gb st (w ++ [u]) nx2 w.length + frS g gb st (w ++ [u]) (w.length + 1) (nx2 w.length)) = tot
    rw [e.1, h0]
    have e2 : frS g gb st (w ++ [u]) (w.length + 1) 0 = cw g gb s (w ++ [u]) u := by
      unfold frS
      rw [eh, List.drop_zero]
      by_cases c : w.length + 1 ≤ st
      · rw [if_pos c, show s = (st - (w.length + 1)) + 1 by omega, List.take_of_length_le (by rw [List.length_append]; simp)]
        rfl
      · rw [if_neg c, show s = 0 by omega]
        rfl
    omega
  · show muT g st (w ++ [u]) nx2 w.length + muS g st (w ++ [u]) (w.length + 1) (nx2 w.length) < _
    rw [e.2, h0]
    have : muS g st (w ++ [u]) (w.length + 1) 0 ≤ fl9 s := by
      unfold muS
      rw [eh, Nat.sub_zero]
      by_cases c : w.length + 1 ≤ st
      · rw [if_pos c, show s = (st - (w.length + 1)) + 1 by omega]
        show _ ≤ 1 + 8 * (1 + fl9 (st - (w.length + 1)))
        have := (hg.2.2.2 u).2.1
        have := Nat.mul_le_mul_right (1 + fl9 (st - (w.length + 1))) this
        omega
      · rw [if_neg c, show s = 0 by omega]
        exact Nat.le_refl _
    omega
theorem WI.init {g : Gr} {gb st t : Nat} {nx : Nat → Nat} (h0 : nx 0 = 0) : WI g gb st (cw g gb st [t] t) [t] nx 0 := by
  show 0 + (0 + frS g gb st [t] 1 (nx 0)) = _
  rw [h0]
  unfold frS
  cases st with
  | zero => rw [if_neg (by omega)]; rfl
  | succ s =>
    rw [if_pos (by omega), List.drop_zero, Nat.zero_add, Nat.zero_add]
    rfl
/-- the whole count is the class's -/
theorem ways_eq {g : Gr} (hg : GrOK g) {t o st : Nat} (ht : t < 30) (ho : o < 30) (hne : ¬ t = o) : cw g o st [t] t = wy g o st t (((1 : Int32) <<< (nI t &&& 31)) ||| ((1 : Int32) <<< (nI o &&& 31))) := by
  apply cw_wy hg
  · rw [List.mem_singleton]; exact fun e => hne e.symm
  · intro u hu
    rw [b_or, b_sh1 (by omega) (by omega), b_sh1 (by omega) (by omega), show decide (u ∈ [t]) = decide (u = t) by rw [decide_eq_decide]; exact List.mem_singleton]
