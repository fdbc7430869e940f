-- ===== the model's reader: what must come, on a stack =====
abbrev Mu : Type := Int32 × Int32 × Int32
/-- token, what must come (the next first), orders, open letters -/
abbrev MS : Type := Nat × List Mu × List Tok × (Nat → Int32)
def tk (T : List Tok) (i : Nat) : Tok := T.getD i (0, 0, 0)
def mTerm (T : List Tok) (d : Int32) (i : Nat) (S : List Mu) (O : List Tok) (op : Nat → Int32) : Sum Int32 MS :=
  if d = 12 ∨ ((tk T i).1 = 3 ∧ op (tk T i).2.1.toNatClampNeg = 0) then .inl (tk T i).2.2
  else if (tk T i).1 = 2 ∨ (tk T i).1 = 3 ∨ (tk T i).1 = 5 then .inr (i + 1, S, O ++ [tk T i], op)
  else if (tk T i).1 = 40 then .inr (i + 1, (1, d + 1, 0) :: (4, 0, 41) :: S, O, op)
  else if (tk T i).1 = 6 ∨ (tk T i).1 = 7 then (if (tk T (i + 1)).1 = 40 then .inr (i + 2, (1, d + 1, 0) :: (5, 0, (tk T i).1) :: S, O, op) else .inl (tk T (i + 1)).2.2)
  else if (tk T i).1 = 10 ∨ (tk T i).1 = 11 then (if (tk T (i + 1)).1 = 40 then .inr (i + 2, (1, d + 1, 0) :: (4, 0, 41) :: (6, 0, (tk T i).1) :: S, O, op) else .inl (tk T (i + 1)).2.2)
  else if (tk T i).1 = 8 then (if (tk T (i + 1)).1 = 40 then .inr (i + 2, (1, d + 1, 0) :: (4, 0, 44) :: (1, d + 1, 0) :: (4, 0, 41) :: (6, 0, 8) :: S, O, op) else .inl (tk T (i + 1)).2.2)
  else if (tk T i).1 = 9 then (if (tk T (i + 1)).1 = 40 then (if (tk T (i + 2)).1 = 4 then (if (tk T (i + 3)).1 = 44 then .inr (i + 4, (1, d + 1, 0) :: (4, 0, 41) :: (6, (tk T (i + 2)).2.1, 9) :: S, O, op) else .inl (tk T (i + 3)).2.2) else .inl (tk T (i + 2)).2.2) else .inl (tk T (i + 1)).2.2)
  else if (tk T i).1 = 12 then (if (tk T (i + 1)).1 = 3 then (if (tk T (i + 2)).1 = 61 then .inr (i + 3, (1, d + 1, 0) :: (7, 0, (tk T (i + 1)).2.1) :: (1, d + 1, 0) :: (8, 0, (tk T (i + 1)).2.1) :: S, O, op) else .inl (tk T (i + 2)).2.2) else .inl (tk T (i + 1)).2.2)
  else .inl (tk T i).2.2
def mst (T : List Tok) (it : Mu) (i : Nat) (S : List Mu) (O : List Tok) (op : Nat → Int32) : Sum Int32 MS :=
  if it.1 = 1 then .inr (i, (2, it.2.1, 0) :: (3, it.2.1, 0) :: S, O, op)
  else if it.1 = 2 then mTerm T it.2.1 i S O op
  else if it.1 = 3 then (if isJnI (tk T i).1 = true then .inr (i + 1, (2, it.2.1, 0) :: (6, 0, (tk T i).1) :: (3, it.2.1, 0) :: S, O, op) else .inr (i, S, O, op))
  else if it.1 = 4 then (if (tk T i).1 = it.2.2 then .inr (i + 1, S, O, op) else .inl (tk T i).2.2)
  else if it.1 = 5 then (if (tk T i).1 = 44 then (if (tk T (i + 1)).1 = 4 then (if (tk T (i + 2)).1 = 41 then .inr (i + 3, S, O ++ [(it.2.2, (tk T (i + 1)).2.1, 0)], op) else .inl (tk T (i + 2)).2.2) else .inl (tk T (i + 1)).2.2) else (if (tk T i).1 = 41 then .inr (i + 1, S, O ++ [(it.2.2, -1, 0)], op) else .inl (tk T i).2.2))
  else if it.1 = 7 then (if (tk T i).1 = 13 then .inr (i + 1, S, O ++ [(20, it.2.2, 0)], upd op it.2.2.toNatClampNeg (op it.2.2.toNatClampNeg + 1)) else .inl (tk T i).2.2)
  else if it.1 = 8 then .inr (i, S, O ++ [(21, it.2.2, 0)], upd op it.2.2.toNatClampNeg (op it.2.2.toNatClampNeg - 1))
  else .inr (i, S, O ++ [(it.2.2, it.2.1, 0)], op)
def mit (T : List Tok) : Nat → Sum Int32 MS → Sum Int32 MS
  | 0, r => r
  | _ + 1, .inl p => .inl p
  | _ + 1, .inr (i, [], O, op) => .inr (i, [], O, op)
  | n + 1, .inr (i, it :: S, O, op) => mit T n (mst T it i S O op)
def Rch (T : List Tok) (a b : Sum Int32 MS) : Prop := ∃ n, mit T n a = b
theorem Rch.rf {T : List Tok} {a : Sum Int32 MS} : Rch T a a := ⟨0, rfl⟩
theorem mit_add (T : List Tok) : ∀ (n m : Nat) (a : Sum Int32 MS), mit T (n + m) a = mit T m (mit T n a) := by
  intro n
  induction n with
  | zero => intro m a; rw [Nat.zero_add]; rfl
  | succ n ih =>
    intro m a
    rw [show n + 1 + m = (n + m) + 1 by omega]
    cases a with
    | inl p => 
      show Sum.inl p = mit T m (Sum.inl p)
      cases m <;> rfl
    | inr st =>
      obtain ⟨i, S, O, op⟩ := st
      cases S with
      | nil =>
        show Sum.inr (i, [], O, op) = mit T m (Sum.inr (i, [], O, op))
        cases m <;> rfl
      | cons it S => exact ih m _
theorem Rch.tr {T : List Tok} {a b c : Sum Int32 MS} (h : Rch T a b) (h2 : Rch T b c) : Rch T a c := by
  obtain ⟨n, e⟩ := h
  obtain ⟨m, e2⟩ := h2
  exact ⟨n + m, by rw [mit_add, e, e2]⟩
theorem Rch.st {T : List Tok} {it : Mu} {i : Nat} {S : List Mu} {O : List Tok} {op : Nat → Int32} {r : Sum Int32 MS} (h : mst T it i S O op = r) : Rch T (.inr (i, it :: S, O, op)) r := ⟨1, h⟩
/-- nothing comes behind an end -/
def mFin (a : Sum Int32 MS) : Prop := (∃ p, a = .inl p) ∨ ∃ i O op, a = .inr (i, [], O, op)
theorem mFin.mit {T : List Tok} {a : Sum Int32 MS} (h : mFin a) : ∀ n, mit T n a = a := by
  intro n
  rcases h with ⟨p, rfl⟩ | ⟨i, O, op, rfl⟩ <;> cases n <;> rfl
theorem Rch.det {T : List Tok} {a b c : Sum Int32 MS} (h : Rch T a b) (h2 : Rch T a c) (hb : mFin b) (hc : mFin c) : b = c := by
  obtain ⟨n, e⟩ := h
  obtain ⟨m, e2⟩ := h2
  have e3 := mit_add T n m a
  have e4 := mit_add T m n a
  rw [e, hb.mit] at e3
  rw [e2, hc.mit, Nat.add_comm] at e4
  rw [← e3, ← e4]
-- ===== steps of both programs side by side =====
/-- the last place of c in the letters that are bound -/
def lixR : List Nat → Nat → Int32
  | [], _ => -1
  | x :: r, c => if c = x then nI r.length else lixR r c
def lix (ls : List Nat) (c : Nat) : Int32 := lixR ls.reverse c
theorem lix_app (ls : List Nat) (x c : Nat) : lix (ls ++ [x]) c = if c = x then nI ls.length else lix ls c := by
  unfold lix
  rw [List.reverse_append]
  show (if c = x then nI ls.reverse.length else lixR ls.reverse c) = _
  rw [List.length_reverse]
theorem lixR_in : ∀ (r : List Nat) (c : Nat), r.length < 1000 → ((c ∉ r → lixR r c = -1) ∧ (c ∈ r → ∃ s, s < r.length ∧ lixR r c = nI s)) := by
  intro r
  induction r with
  | nil => intro c _; exact ⟨fun _ => rfl, fun h => by cases h⟩
  | cons x r ih =>
    intro c hl
    rw [List.length_cons] at hl
    obtain ⟨i1, i2⟩ := ih c (by omega)
    refine ⟨fun h => ?_, fun h => ?_⟩
    · show (if c = x then _ else _) = _
      rw [if_neg (fun (e : c = x) => h (by rw [e]; exact List.mem_cons_self))]
      exact i1 (fun z => h (List.mem_cons_of_mem _ z))
    · show ∃ s, s < _ ∧ (if c = x then _ else _) = _
      by_cases e : c = x
      · exact ⟨r.length, by rw [List.length_cons]; omega, by rw [if_pos e]⟩
      · obtain ⟨s, h1, h2⟩ := i2 ((List.mem_cons.mp h).resolve_left e)
        exact ⟨s, by rw [List.length_cons]; omega, by rw [if_neg e]; exact h2⟩
abbrev Zt : Type := Option Tok × Tok
def cz (Z : List Zt) : List Tok := Z.filterMap (fun z => z.1)
def mz (Z : List Zt) : List Tok := Z.map (fun z => z.2)
abbrev Za : Type := Nat × List Nat
def zs1 (a b : Za) (z : Zt) : Prop := a.1 < 24 ∧ b = (a.1 + 1, a.2) ∧ ((∃ v pl, v < 60 ∧ z = (some (2, nI v, pl), (2, nI v, pl))) ∨ (∃ w pl, z = (some (5, w, pl), (5, w, pl))) ∨ ∃ s c pl pl2, c < 26 ∧ s < 12 ∧ lix a.2 c = nI s ∧ z = (some (3, nI s, pl), (3, nI c, pl2)))
def zs2 (a b : Za) (z : Zt) : Prop := 1 ≤ a.1 ∧ a.1 ≤ 24 ∧ b = a ∧ ((∃ K R pl, (K = 6 ∨ K = 7) ∧ R < 100 ∧ (z = (some (K, nI R, pl), (K, nI R, 0)) ∨ (R = 30 ∧ z = (some (K, nI R, pl), (K, -1, 0))))) ∨ (∃ v pl, z = (some (9, v, pl), (9, v, 0))) ∨ ∃ K pl, (K = 10 ∨ K = 11) ∧ z = (some (K, 0, pl), (K, 0, 0)))
def zs3 (a b : Za) (z : Zt) : Prop := 2 ≤ a.1 ∧ a.1 ≤ 24 ∧ b = (a.1 - 1, a.2) ∧ ∃ K pl, (K = 43 ∨ K = 45 ∨ K = 38 ∨ K = 8) ∧ z = (some (K, 0, pl), (K, 0, 0))
def zs4 (a b : Za) (z : Zt) : Prop := 1 ≤ a.1 ∧ a.1 ≤ 24 ∧ ∃ c pl, c < 26 ∧ a.2.length < 12 ∧ z = (some (12, nI a.2.length, pl), (20, nI c, 0)) ∧ b = (a.1 - 1, a.2 ++ [c])
def zs5 (a b : Za) (z : Zt) : Prop := ∃ c ls, c < 26 ∧ a.2 = ls ++ [c] ∧ z = (none, (21, nI c, 0)) ∧ b = (a.1, ls)
def zs (a b : Za) (z : Zt) : Prop := zs1 a b z ∨ zs2 a b z ∨ zs3 a b z ∨ zs4 a b z ∨ zs5 a b z
def zrun : Za → List Zt → Za → Prop
  | a, [], b => a = b
  | a, z :: Z, b => ∃ m, zs a m z ∧ zrun m Z b
theorem zrun_app : ∀ {Z W : List Zt} {a b c : Za}, zrun a Z b → zrun b W c → zrun a (Z ++ W) c := by
  intro Z
  induction Z with
  | nil => intro W a b c h h2; obtain rfl : a = b := h; exact h2
  | cons z Z ih =>
    intro W a b c h h2
    obtain ⟨m, h3, h4⟩ := h
    exact ⟨m, h3, ih h4 h2⟩
theorem zrun_one {a b : Za} {z : Zt} (h : zs a b z) : zrun a [z] b := ⟨b, h, rfl⟩
theorem zrun_len : ∀ {Z : List Zt} {a b : Za}, zrun a Z b → b.1 ≤ a.1 + (cz Z).length := by
  intro Z
  induction Z with
  | nil => intro a b h; obtain rfl : a = b := h; exact Nat.le_add_right _ _
  | cons z Z ih =>
    intro a b h
    obtain ⟨m, h3, h4⟩ := h
    have h5 := ih h4
    have h6 : m.1 ≤ a.1 + (cz [z]).length := by
      rcases h3 with ⟨-, h, q⟩ | ⟨-, -, h, -⟩ | ⟨-, -, h, -⟩ | ⟨-, -, c, pl, -, -, -, h⟩ | ⟨c, ls, -, -, -, h⟩
      · rw [h]
        rcases q with ⟨v, pl, -, rfl⟩ | ⟨w, pl, rfl⟩ | ⟨s, c, pl, pl2, -, -, -, rfl⟩ <;> exact Nat.le_refl _
      · rw [h]; exact Nat.le_add_right _ _
      · rw [h]; show a.1 - 1 ≤ _; omega
      · rw [h]; show a.1 - 1 ≤ _; omega
      · rw [h]; exact Nat.le_add_right _ _
    have h7 : (cz (z :: Z)).length = (cz [z]).length + (cz Z).length := by
      rw [← List.length_append, show z :: Z = [z] ++ Z from rfl]
      exact congrArg _ List.filterMap_append
    omega
theorem cz_app (Z W : List Zt) : cz (Z ++ W) = cz Z ++ cz W := List.filterMap_append
theorem mz_app (Z W : List Zt) : mz (Z ++ W) = mz Z ++ mz W := List.map_append
-- ===== what is known of the tokens =====
def TW (T : List Tok) : Prop := T.length ≤ 81 ∧ ∀ i, ((tk T i).1 = 2 → ∃ v, v < 60 ∧ (tk T i).2.1 = nI v) ∧ ((tk T i).1 = 3 → ∃ c, c < 26 ∧ (tk T i).2.1 = nI c) ∧ ((tk T i).1 = 4 → ∃ R, R < 100 ∧ (tk T i).2.1 = nI R)
def SlOK (sl : Nat → Int32) (ls : List Nat) : Prop := ∀ c, c < 26 → sl c = lix ls c
def OpOK (op : Nat → Int32) (ls : List Nat) : Prop := ∀ c, c < 26 → op c = nI (ls.count c)
def EnvOK (T : List Tok) (st : PSt) (ls : List Nat) : Prop := st.1 ≤ T.length ∧ st.2.1.length ≤ st.1 ∧ st.2.2.2 = ls.length ∧ SlOK st.2.2.1 ls
/-- the steps Z lead from st to st2 -/
def Gd (T : List Tok) (Z : List Zt) (st st2 : PSt) (a b : Za) : Prop := st2.1 ≤ T.length ∧ st2.2.1 = st.2.1 ++ cz Z ∧ st2.2.2 = st.2.2 ∧ st.1 + (cz Z).length ≤ st2.1 ∧ zrun a Z b
/-- f reads what the item it asks for -/
def Con (T : List Tok) (f : PSt → Bool × PSt) (it : Mu) (st : PSt) (a b : Za) : Prop :=
  ∀ (S : List Mu) (O : List Tok) (op : Nat → Int32), OpOK op a.2 →
    ((f st).1 = true → ∃ Z, Gd T Z st (f st).2 a b ∧ Rch T (.inr (st.1, it :: S, O, op)) (.inr ((f st).2.1, S, O ++ mz Z, op))) ∧
    (¬ (f st).1 = true → Rch T (.inr (st.1, it :: S, O, op)) (.inl (tkAt T (f st).2).2.2))
def TermOK (T : List Tok) (d : Nat) : Prop := ∀ (st : PSt) (ls : List Nat) (n : Nat), EnvOK T st ls → ls.length + d ≤ 12 → n + 2 * d ≤ 25 → Con T (pTerm T d) (2, nI (12 - d), 0) st (n, ls) (n + 1, ls)
def SumOK (T : List Tok) (d : Nat) : Prop := ∀ (st : PSt) (ls : List Nat) (n : Nat), EnvOK T st ls → ls.length + d ≤ 12 → n + 2 * d ≤ 24 → Con T (pSum T (pTerm T d)) (1, nI (12 - d), 0) st (n, ls) (n + 1, ls)
theorem Gd.env {T : List Tok} {Z : List Zt} {st st2 : PSt} {a b : Za} {ls : List Nat} (h : Gd T Z st st2 a b) (he : EnvOK T st ls) : EnvOK T st2 ls := by
  obtain ⟨h0, h1, h2, h3, -⟩ := h
  obtain ⟨e0, e1, e2, e3⟩ := he
  refine ⟨h0, ?_, ?_, ?_⟩
  · rw [h1, List.length_append]; omega
  · rw [h2]; exact e2
  · rw [h2]; exact e3
theorem tkAt_tk (T : List Tok) (st : PSt) : tkAt T st = tk T st.1 := rfl
theorem tpA_ok {P : List Tok} {q : Tok} (h : P.length < 81) : tpA P q = P ++ [q] := if_pos h
/-- the joins behind a SUM's first TERM -/
theorem more_ok {T : List Tok} {d : Nat} (hT : TW T) (hd : 1 ≤ d) (H : TermOK T d) (ls : List Nat) (n : Nat) (hl : ls.length + d ≤ 12) (hn : n + 2 * d ≤ 24) :
    ∀ (m : Nat) (st : PSt), EnvOK T st ls → T.length ≤ m + st.1 → Con T (pMore T (pTerm T d) m) (3, nI (12 - d), 0) st (n + 1, ls) (n + 1, ls) := by
  intro m
  induction m with
  | zero =>
    intro st he hm S O op hop
    have hk : ¬ isJnI (tk T st.1).1 = true := by
      intro h
      have := tk_lt (T := T) (st := st) (isJn_nz h)
      omega
    refine ⟨fun _ => ⟨[], ⟨he.1, (List.append_nil _).symm, rfl, Nat.le_refl _, rfl⟩, ?_⟩, fun h => absurd rfl h⟩
    refine Rch.st ?_
    show (if isJnI (tk T st.1).1 = true then _ else _) = _
    rw [if_neg hk]
    show Sum.inr (st.1, S, O, op) = Sum.inr (st.1, S, O ++ [], op)
    rw [List.append_nil]
  | succ m ih =>
    intro st he hm S O op hop
    have e : pMore T (pTerm T d) (m + 1) st = if isJnI (tkAt T st).1 = true then (if (pTerm T d (pAdv st)).1 = true then pMore T (pTerm T d) m (pEmit T (tkAt T st).1 0 (pTerm T d (pAdv st)).2) else (false, (pTerm T d (pAdv st)).2)) else (true, st) := rfl
    by_cases hj : isJnI (tkAt T st).1 = true
    · have hlt := tk_lt (T := T) (st := st) (isJn_nz hj)
      have he2 : EnvOK T (pAdv st) ls := ⟨by show st.1 + 1 ≤ _; omega, by show st.2.1.length ≤ st.1 + 1; have := he.2.1; omega, he.2.2.1, he.2.2.2⟩
      have r0 : Rch T (.inr (st.1, (3, nI (12 - d), 0) :: S, O, op)) (.inr (st.1 + 1, (2, nI (12 - d), 0) :: (6, 0, (tk T st.1).1) :: (3, nI (12 - d), 0) :: S, O, op)) := Rch.st (if_pos hj)
      obtain ⟨t1, t2⟩ := H (pAdv st) ls (n + 1) he2 hl (by omega) ((6, 0, (tk T st.1).1) :: (3, nI (12 - d), 0) :: S) O op hop
      rw [e, if_pos hj]
      by_cases hs : (pTerm T d (pAdv st)).1 = true
      · rw [if_pos hs]
        obtain ⟨Z, hZ, rZ⟩ := t1 hs
        have he3 := hZ.env he2
        generalize pTerm T d (pAdv st) = q at *
        have hz3 : (pAdv st).1 + (cz Z).length ≤ q.2.1 := hZ.2.2.2.1
        have hz2 : q.2.2.1 = st.2.1 ++ cz Z := hZ.2.1
        have hlen : q.2.2.1.length + 1 ≤ q.2.1 := by
          rw [hz2, List.length_append]
          have := he.2.1
          have : (pAdv st).1 = st.1 + 1 := rfl
          omega
        have hle : q.2.1 ≤ T.length := hZ.1
        have hT81 := hT.1
        have hem : pEmit T (tkAt T st).1 0 q.2 = (q.2.1, q.2.2.1 ++ [((tkAt T st).1, 0, (tkAt T q.2).2.2)], q.2.2.2) := by
          unfold pEmit
          rw [tpA_ok (by omega)]
        have he4 : EnvOK T (pEmit T (tkAt T st).1 0 q.2) ls := by
          rw [hem]
          exact ⟨hle, by show (q.2.2.1 ++ [_]).length ≤ q.2.1; rw [List.length_append, List.length_singleton]; omega, he3.2.2.1, he3.2.2.2⟩
        have hz1 : zrun (n + 1, ls) (Z ++ [(some ((tkAt T st).1, 0, (tkAt T q.2).2.2), ((tkAt T st).1, 0, 0))]) (n + 1, ls) := by
          refine zrun_app hZ.2.2.2.2 (zrun_one (Or.inr (Or.inr (Or.inl ⟨?_, ?_, rfl, (tkAt T st).1, (tkAt T q.2).2.2, ?_, rfl⟩))))
          · show 2 ≤ n + 1 + 1; omega
          · show n + 1 + 1 ≤ 24; omega
          · unfold isJnI at hj
            rw [decide_eq_true_eq] at hj
            rcases hj with z | z | z
            · exact Or.inl z
            · exact Or.inr (Or.inl z)
            · exact Or.inr (Or.inr (Or.inl z))
        have r1 : Rch T (.inr (q.2.1, (6, 0, (tk T st.1).1) :: (3, nI (12 - d), 0) :: S, O ++ mz Z, op)) (.inr (q.2.1, (3, nI (12 - d), 0) :: S, (O ++ mz Z) ++ [((tk T st.1).1, 0, 0)], op)) := Rch.st rfl
        obtain ⟨m1, m2⟩ := ih (pEmit T (tkAt T st).1 0 q.2) he4 (by rw [hem]; show T.length ≤ m + q.2.1; have : (pAdv st).1 = st.1 + 1 := rfl; omega) S ((O ++ mz Z) ++ [((tk T st.1).1, 0, 0)]) op hop
        have ep : (pEmit T (tkAt T st).1 0 q.2).1 = q.2.1 := rfl
        rw [ep] at m1 m2
        refine ⟨fun h => ?_, fun h => ((r0.tr rZ).tr r1).tr (m2 h)⟩
        obtain ⟨W, hW, rW⟩ := m1 h
        refine ⟨Z ++ [(some ((tkAt T st).1, 0, (tkAt T q.2).2.2), ((tkAt T st).1, 0, 0))] ++ W, ⟨hW.1, ?_, ?_, ?_, zrun_app hz1 hW.2.2.2.2⟩, ?_⟩
        · rw [hW.2.1, hem, cz_app, cz_app]
          show (q.2.2.1 ++ [_]) ++ cz W = st.2.1 ++ ((cz Z ++ [_]) ++ cz W)
          rw [hz2]
          simp only [List.append_assoc]
        · rw [hW.2.2.1, hem]
          exact hZ.2.2.1
        · have := hW.2.2.2.1
          rw [ep] at this
          rw [cz_app, cz_app, List.length_append, List.length_append]
          show st.1 + (((cz Z).length + 1) + (cz W).length) ≤ _
          have : (pAdv st).1 = st.1 + 1 := rfl
          omega
        · refine ((r0.tr rZ).tr r1).tr ?_
          rw [mz_app, mz_app]
          have : O ++ (mz Z ++ mz [(some ((tkAt T st).1, (0 : Int32), (tkAt T q.2).2.2), ((tkAt T st).1, (0 : Int32), (0 : Int32)))] ++ mz W) = ((O ++ mz Z) ++ [((tk T st.1).1, 0, 0)]) ++ mz W := by
            simp only [List.append_assoc]
            rfl
          rw [this]
          exact rW
      · rw [if_neg hs]
        exact ⟨fun h => Bool.noConfusion h, fun _ => r0.tr (t2 hs)⟩
    · rw [e, if_neg hj]
      refine ⟨fun _ => ⟨[], ⟨he.1, (List.append_nil _).symm, rfl, Nat.le_refl _, rfl⟩, ?_⟩, fun h => absurd rfl h⟩
      refine Rch.st ?_
      show (if isJnI (tk T st.1).1 = true then _ else _) = _
      rw [if_neg (show ¬ isJnI (tk T st.1).1 = true from hj)]
      show Sum.inr (st.1, S, O, op) = Sum.inr (st.1, S, O ++ [], op)
      rw [List.append_nil]
theorem sum_ok {T : List Tok} {d : Nat} (hT : TW T) (H : TermOK T d) : SumOK T d := by
  intro st ls n he hl hn S O op hop
  have r0 : Rch T (.inr (st.1, (1, nI (12 - d), 0) :: S, O, op)) (.inr (st.1, (2, nI (12 - d), 0) :: (3, nI (12 - d), 0) :: S, O, op)) := Rch.st rfl
  obtain ⟨t1, t2⟩ := H st ls n he hl (by omega) ((3, nI (12 - d), 0) :: S) O op hop
  have e : pSum T (pTerm T d) st = if (pTerm T d st).1 = true then pMore T (pTerm T d) 80 (pTerm T d st).2 else (false, (pTerm T d st).2) := rfl
  rw [e]
  by_cases hs : (pTerm T d st).1 = true
  · rw [if_pos hs]
    have hd : 1 ≤ d := by
      cases d with
      | zero => exact Bool.noConfusion (show false = true from hs)
      | succ d => omega
    obtain ⟨Z, hZ, rZ⟩ := t1 hs
    have he3 := hZ.env he
    have hadv : st.1 < (pTerm T d st).2.1 := by
      have h1 : n + 1 ≤ n + (cz Z).length := zrun_len hZ.2.2.2.2
      have h2 := hZ.2.2.2.1
      omega
    have hT81 := hT.1
    obtain ⟨m1, m2⟩ := more_ok hT hd H ls n hl hn 80 (pTerm T d st).2 he3 (by omega) S (O ++ mz Z) op hop
    refine ⟨fun h => ?_, fun h => (r0.tr rZ).tr (m2 h)⟩
    obtain ⟨W, hW, rW⟩ := m1 h
    refine ⟨Z ++ W, ⟨hW.1, ?_, ?_, ?_, zrun_app hZ.2.2.2.2 hW.2.2.2.2⟩, ?_⟩
    · rw [hW.2.1, hZ.2.1, cz_app, List.append_assoc]
    · rw [hW.2.2.1, hZ.2.2.1]
    · have := hW.2.2.2.1
      have := hZ.2.2.2.1
      rw [cz_app, List.length_append]
      omega
    · rw [mz_app, ← List.append_assoc]
      exact (r0.tr rZ).tr rW
  · rw [if_neg hs]
    exact ⟨fun h => Bool.noConfusion h, fun _ => r0.tr (t2 hs)⟩
