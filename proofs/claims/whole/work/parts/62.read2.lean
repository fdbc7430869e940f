theorem pTake_t {T : List Tok} {K : Int32} {st : PSt} (h : (tk T st.1).1 = K) : pTake T K st = (true, pAdv st) := if_pos h
theorem pTake_f {T : List Tok} {K : Int32} {st : PSt} (h : ¬ (tk T st.1).1 = K) : pTake T K st = (false, st) := if_neg h
theorem tk_lt9 {T : List Tok} {i : Nat} {K : Int32} (h : (tk T i).1 = K) (hK : ¬ K = 0) : i < T.length := tk_lt (T := T) (st := (i, [], fun _ => 0, 0)) (fun e => hK (h.symm.trans e))
theorem EnvOK.adv {T : List Tok} {st : PSt} {ls : List Nat} {K : Int32} (he : EnvOK T st ls) (h : (tk T st.1).1 = K) (hK : ¬ K = 0) : EnvOK T (pAdv st) ls := by
  have := tk_lt9 h hK
  exact ⟨by show st.1 + 1 ≤ _; omega, by show st.2.1.length ≤ st.1 + 1; have := he.2.1; omega, he.2.2.1, he.2.2.2⟩
theorem pEmit_ok {T : List Tok} {K v : Int32} {st : PSt} (h : st.2.1.length < 81) : pEmit T K v st = (st.1, st.2.1 ++ [(K, v, (tk T st.1).2.2)], st.2.2) := by
  unfold pEmit
  rw [tpA_ok h]
  rfl
theorem deep_1 {d : Nat} (hd : d + 1 ≤ 12) : nI (12 - (d + 1)) + 1 = nI (12 - d) := by rw [nI_1, show 12 - (d + 1) + 1 = 12 - d by omega]
theorem deep_n {d : Nat} : ¬ nI (12 - (d + 1)) = 12 := by rw [show (12 : Int32) = nI 12 from rfl, nI_eq (by omega) (by omega)]; omega
theorem sign_t {T : List Tok} {i : Nat} {x K : Int32} {S : List Mu} {O : List Tok} {op : Nat → Int32} (h : (tk T i).1 = K) : Rch T (.inr (i, (4, x, K) :: S, O, op)) (.inr (i + 1, S, O, op)) := Rch.st (if_pos h)
theorem sign_f {T : List Tok} {i : Nat} {x K : Int32} {S : List Mu} {O : List Tok} {op : Nat → Int32} (h : ¬ (tk T i).1 = K) : Rch T (.inr (i, (4, x, K) :: S, O, op)) (.inl (tk T i).2.2) := Rch.st (if_neg h)
/-- behind the SUM: the step K, then ), the model's order last -/
theorem end_ok {T : List Tok} (hT : TW T) {K v : Int32} {st q : PSt} {a b c : Za} {Z : List Zt} (he : st.2.1.length ≤ st.1) (j : Nat) (hj : 1 ≤ j) (hZ : Gd T Z (st.1 + j, st.2) q a b) (hz : ∀ pl, zs b c (some (K, v, pl), (K, v, 0))) (S : List Mu) (O : List Tok) (op : Nat → Int32) :
    ((pEnd T K v q).1 = true → ∃ Z2, Gd T Z2 st (pEnd T K v q).2 a c ∧ Rch T (.inr (q.1, (4, 0, 41) :: (6, v, K) :: S, O ++ mz Z, op)) (.inr ((pEnd T K v q).2.1, S, O ++ mz Z2, op))) ∧
    (¬ (pEnd T K v q).1 = true → Rch T (.inr (q.1, (4, 0, 41) :: (6, v, K) :: S, O ++ mz Z, op)) (.inl (tkAt T (pEnd T K v q).2).2.2)) := by
  obtain ⟨z0, z1, z2, z3, z4⟩ := hZ
  have z1' : q.2.1 = st.2.1 ++ cz Z := z1
  have z3' : st.1 + j + (cz Z).length ≤ q.1 := z3
  have h81 := hT.1
  have hl : q.2.1.length < 81 := by rw [z1', List.length_append]; omega
  unfold pEnd
  rw [pEmit_ok hl]
  by_cases hk : (tk T q.1).1 = 41
  · rw [pTake_t (st := (q.1, q.2.1 ++ [(K, v, (tk T q.1).2.2)], q.2.2)) hk]
    refine ⟨fun _ => ⟨Z ++ [(some (K, v, (tk T q.1).2.2), (K, v, 0))], ⟨?_, ?_, z2, ?_, zrun_app z4 (zrun_one (hz _))⟩, ?_⟩, fun h => absurd rfl h⟩
    · show q.1 + 1 ≤ T.length
      have := tk_lt9 hk (by decide)
      omega
    · rw [cz_app]
      show q.2.1 ++ [_] = st.2.1 ++ (cz Z ++ [_])
      rw [z1', List.append_assoc]
    · rw [cz_app, List.length_append]
      show st.1 + ((cz Z).length + 1) ≤ q.1 + 1
      omega
    · rw [mz_app, ← List.append_assoc]
      exact (sign_t hk).tr (Rch.st rfl)
  · rw [pTake_f (st := (q.1, q.2.1 ++ [(K, v, (tk T q.1).2.2)], q.2.2)) hk]
    exact ⟨fun h => Bool.noConfusion h, fun _ => sign_f hk⟩
theorem name_ok {T : List Tok} (hT : TW T) {d n : Nat} {st : PSt} {ls : List Nat} (he : EnvOK T st ls) (hn : n + 2 * (d + 1) ≤ 25) (hk : (tk T st.1).1 = 2 ∨ (tk T st.1).1 = 5) : Con T (pTerm T (d + 1)) (2, nI (12 - (d + 1)), 0) st (n, ls) (n + 1, ls) := by
  intro S O op hop
  have hlt : st.1 < T.length := by
    rcases hk with h | h
    · exact tk_lt9 h (by decide)
    · exact tk_lt9 h (by decide)
  have h81 := hT.1
  have hl : st.2.1.length < 81 := by have := he.2.1; omega
  have e : pTerm T (d + 1) st = (true, pAdv (pEmit T (tkAt T st).1 (tkAt T st).2.1 st)) := by
    unfold pTerm
    rw [tkAt_tk, if_pos hk]
  have hm : mst T (2, nI (12 - (d + 1)), 0) st.1 S O op = .inr (st.1 + 1, S, O ++ [tk T st.1], op) := by
    show mTerm T (nI (12 - (d + 1))) st.1 S O op = _
    unfold mTerm
    rw [if_neg, if_pos]
    · rcases hk with h | h
      · exact Or.inl h
      · exact Or.inr (Or.inr h)
    · rintro (h | ⟨h, -⟩)
      · exact deep_n h
      · rw [h] at hk
        exact absurd hk (by decide)
  rw [e, pEmit_ok hl]
  refine ⟨fun _ => ⟨[(some (tk T st.1), tk T st.1)], ⟨?_, rfl, rfl, Nat.le_refl _, zrun_one (Or.inl ⟨?_, rfl, ?_⟩)⟩, Rch.st hm⟩, fun h => absurd rfl h⟩
  · show st.1 + 1 ≤ _; omega
  · show n < 24; omega
  · rcases hk with h | h
    · obtain ⟨v, hv, ev⟩ := (hT.2 st.1).1 h
      refine Or.inl ⟨v, (tk T st.1).2.2, hv, ?_⟩
      rw [← ev, ← h]
    · exact Or.inr (Or.inl ⟨(tk T st.1).2.1, (tk T st.1).2.2, by rw [← h]⟩)
theorem letter_ok {T : List Tok} (hT : TW T) {d n : Nat} {st : PSt} {ls : List Nat} (he : EnvOK T st ls) (hls : ls.length + (d + 1) ≤ 12) (hn : n + 2 * (d + 1) ≤ 25) (hk : (tk T st.1).1 = 3) : Con T (pTerm T (d + 1)) (2, nI (12 - (d + 1)), 0) st (n, ls) (n + 1, ls) := by
  intro S O op hop
  have hlt : st.1 < T.length := tk_lt9 hk (by decide)
  have h81 := hT.1
  have hl : st.2.1.length < 81 := by have := he.2.1; omega
  obtain ⟨c, hc, ec⟩ := (hT.2 st.1).2.1 hk
  have e : pTerm T (d + 1) st = pLetter T st := by
    unfold pTerm
    rw [tkAt_tk, hk, if_neg (by decide), if_pos rfl]
  have es : slI st.2.2.1 (tkAt T st).2.1 = lix ls c := by
    rw [tkAt_tk, ec]
    unfold slI
    rw [nI_toInt (by omega), if_pos ⟨by omega, by omega⟩, Int.toNat_natCast]
    exact he.2.2.2 c hc
  have hr : ls.reverse.length < 1000 := by rw [List.length_reverse]; omega
  have hocl : op (tk T st.1).2.1.toNatClampNeg = nI (ls.count c) := by rw [ec, nI_clamp (by omega)]; exact hop c hc
  have hcl : ls.count c ≤ 12 := Nat.le_trans List.count_le_length (by omega)
  rw [e]
  unfold pLetter
  rw [es]
  by_cases hm : c ∈ ls
  · obtain ⟨s, hs, e2⟩ := (lixR_in ls.reverse c hr).2 (List.mem_reverse.mpr hm)
    rw [List.length_reverse] at hs
    have e3 : lix ls c = nI s := e2
    have hne : ¬ nI s = -1 := by
      intro z
      have := congrArg Int32.toInt z
      rw [nI_toInt (by omega)] at this
      have : (-1 : Int32).toInt = -1 := by decide
      omega
    have hcp : 0 < ls.count c := List.count_pos_iff.mpr hm
    have hst : mst T (2, nI (12 - (d + 1)), 0) st.1 S O op = .inr (st.1 + 1, S, O ++ [tk T st.1], op) := by
      show mTerm T (nI (12 - (d + 1))) st.1 S O op = _
      unfold mTerm
      rw [if_neg, if_pos (Or.inr (Or.inl hk))]
      rintro (h | ⟨-, h⟩)
      · exact deep_n h
      · rw [hocl] at h
        exact nI_ne0 hcp (by omega) h
    rw [e3, if_neg hne, pEmit_ok hl]
    refine ⟨fun _ => ⟨[(some (3, nI s, (tk T st.1).2.2), tk T st.1)], ⟨?_, rfl, rfl, Nat.le_refl _, zrun_one (Or.inl ⟨?_, rfl, Or.inr (Or.inr ⟨s, c, (tk T st.1).2.2, (tk T st.1).2.2, hc, by omega, e3, ?_⟩)⟩)⟩, Rch.st hst⟩, fun h => absurd rfl h⟩
    · show st.1 + 1 ≤ _; omega
    · show n < 24; omega
    · rw [← ec, ← hk]
  · have e3 : lix ls c = -1 := (lixR_in ls.reverse c hr).1 (fun z => hm (List.mem_reverse.mp z))
    rw [e3, if_pos rfl]
    refine ⟨fun h => Bool.noConfusion h, fun _ => Rch.st ?_⟩
    show mTerm T (nI (12 - (d + 1))) st.1 S O op = _
    unfold mTerm
    rw [if_pos (Or.inr ⟨hk, by rw [hocl, List.count_eq_zero.mpr hm]; rfl⟩)]
    rfl
theorem sum_d {T : List Tok} {d : Nat} {st : PSt} (h : (pSum T (pTerm T d) st).1 = true) : 1 ≤ d := by
  cases d with
  | zero => exact Bool.noConfusion (show false = true from h)
  | succ d => omega
theorem paren_ok {T : List Tok} {d n : Nat} (HS : SumOK T d) {st : PSt} {ls : List Nat} (he : EnvOK T st ls) (hls : ls.length + (d + 1) ≤ 12) (hn : n + 2 * (d + 1) ≤ 25) (hk : (tk T st.1).1 = 40) : Con T (pTerm T (d + 1)) (2, nI (12 - (d + 1)), 0) st (n, ls) (n + 1, ls) := by
  intro S O op hop
  have e : pTerm T (d + 1) st = pParen T (pSum T (pTerm T d)) st := by
    unfold pTerm
    rw [tkAt_tk, hk, if_neg (by decide), if_neg (by decide), if_pos rfl]
  have r0 : Rch T (.inr (st.1, (2, nI (12 - (d + 1)), 0) :: S, O, op)) (.inr (st.1 + 1, (1, nI (12 - d), 0) :: (4, 0, 41) :: S, O, op)) := by
    refine Rch.st ?_
    show mTerm T (nI (12 - (d + 1))) st.1 S O op = _
    unfold mTerm
    rw [hk, if_neg, if_neg (by decide), if_pos rfl, deep_1 (by omega)]
    rintro (h | ⟨h, -⟩)
    · exact deep_n h
    · exact absurd h (by decide)
  have he2 := he.adv hk (by decide)
  obtain ⟨t1, t2⟩ := HS (pAdv st) ls n he2 (by omega) (by omega) ((4, 0, 41) :: S) O op hop
  rw [e]
  unfold pParen
  generalize pSum T (pTerm T d) (pAdv st) = q at *
  by_cases hq : q.1 = true
  · rw [if_pos hq]
    obtain ⟨Z, ⟨z0, z1, z2, z3, z4⟩, rZ⟩ := t1 hq
    by_cases h41 : (tk T q.2.1).1 = 41
    · rw [pTake_t h41]
      refine ⟨fun _ => ⟨Z, ⟨?_, z1, z2, ?_, z4⟩, (r0.tr rZ).tr (sign_t h41)⟩, fun h => absurd rfl h⟩
      · have := tk_lt9 h41 (by decide)
        show q.2.1 + 1 ≤ _
        omega
      · have : (pAdv st).1 = st.1 + 1 := rfl
        show st.1 + _ ≤ q.2.1 + 1
        omega
    · rw [pTake_f h41]
      exact ⟨fun h => Bool.noConfusion h, fun _ => (r0.tr rZ).tr (sign_f h41)⟩
  · rw [if_neg hq]
    exact ⟨fun h => Bool.noConfusion h, fun _ => r0.tr (t2 hq)⟩
/-- the two first tokens: the word and ( -/
theorem open_f {T : List Tok} {st : PSt} (h : ¬ (tk T (st.1 + 1)).1 = 40) : pTake T 40 (pAdv st) = (false, pAdv st) := pTake_f (st := pAdv st) h
theorem open_t {T : List Tok} {st : PSt} (h : (tk T (st.1 + 1)).1 = 40) : pTake T 40 (pAdv st) = (true, pAdv (pAdv st)) := pTake_t (st := pAdv st) h
theorem plain_ok {T : List Tok} (hT : TW T) {d n : Nat} (HS : SumOK T d) {st : PSt} {ls : List Nat} (he : EnvOK T st ls) (hls : ls.length + (d + 1) ≤ 12) (hn : n + 2 * (d + 1) ≤ 25) (hk : (tk T st.1).1 = 10 ∨ (tk T st.1).1 = 11) : Con T (pTerm T (d + 1)) (2, nI (12 - (d + 1)), 0) st (n, ls) (n + 1, ls) := by
  intro S O op hop
  have e : pTerm T (d + 1) st = pPlain T (pSum T (pTerm T d)) (tk T st.1).1 st := by
    unfold pTerm
    rw [tkAt_tk]
    rcases hk with h | h <;> rw [h, if_neg (by decide), if_neg (by decide), if_neg (by decide), if_neg (by decide), if_pos (by decide)]
  have hm : mst T (2, nI (12 - (d + 1)), 0) st.1 S O op = (if (tk T (st.1 + 1)).1 = 40 then .inr (st.1 + 2, (1, nI (12 - d), 0) :: (4, 0, 41) :: (6, 0, (tk T st.1).1) :: S, O, op) else .inl (tk T (st.1 + 1)).2.2) := by
    show mTerm T (nI (12 - (d + 1))) st.1 S O op = _
    unfold mTerm
    rw [deep_1 (by omega)]
    rcases hk with h | h
    all_goals
      rw [h, if_neg, if_neg (by decide), if_neg (by decide), if_neg (by decide), if_pos (by decide)]
      rintro (h2 | ⟨h2, -⟩)
      · exact deep_n h2
      · exact absurd h2 (by decide)
  have he1 := he.adv (K := (tk T st.1).1) rfl (by rcases hk with h | h <;> rw [h] <;> decide)
  rw [e]
  unfold pPlain
  by_cases h40 : (tk T (st.1 + 1)).1 = 40
  · rw [if_pos h40] at hm
    have r0 := Rch.st hm
    rw [open_t h40]
    have he2 := he1.adv (st := pAdv st) h40 (by decide)
    obtain ⟨t1, t2⟩ := HS (pAdv (pAdv st)) ls n he2 (by omega) (by omega) ((4, 0, 41) :: (6, 0, (tk T st.1).1) :: S) O op hop
    generalize pSum T (pTerm T d) (pAdv (pAdv st)) = q at *
    rw [if_pos rfl]
    by_cases hq : q.1 = true
    · rw [if_pos hq]
      obtain ⟨Z, hZ, rZ⟩ := t1 hq
      obtain ⟨f1, f2⟩ := end_ok hT (K := (tk T st.1).1) (v := 0) (st := st) he.2.1 2 (by omega) hZ (c := (n + 1, ls)) (fun pl => Or.inr (Or.inl ⟨by show 1 ≤ n + 1; omega, by show n + 1 ≤ 24; omega, rfl, Or.inr (Or.inr ⟨(tk T st.1).1, pl, hk, rfl⟩)⟩)) S O op
      refine ⟨fun h => ?_, fun h => (r0.tr rZ).tr (f2 h)⟩
      obtain ⟨Z2, g1, g2⟩ := f1 h
      exact ⟨Z2, g1, (r0.tr rZ).tr g2⟩
    · rw [if_neg hq]
      exact ⟨fun h => Bool.noConfusion h, fun _ => r0.tr (t2 hq)⟩
  · rw [if_neg h40] at hm
    rw [open_f h40]
    exact ⟨fun h => Bool.noConfusion h, fun _ => Rch.st hm⟩
theorem way_ok {T : List Tok} (hT : TW T) {d n : Nat} (HS : SumOK T d) {st : PSt} {ls : List Nat} (he : EnvOK T st ls) (hls : ls.length + (d + 1) ≤ 12) (hn : n + 2 * (d + 1) ≤ 25) (hk : (tk T st.1).1 = 8) : Con T (pTerm T (d + 1)) (2, nI (12 - (d + 1)), 0) st (n, ls) (n + 1, ls) := by
  intro S O op hop
  have e : pTerm T (d + 1) st = pWay T (pSum T (pTerm T d)) st := by
    unfold pTerm
    rw [tkAt_tk, hk, if_neg (by decide), if_neg (by decide), if_neg (by decide), if_neg (by decide), if_neg (by decide), if_pos rfl]
  have hm : mst T (2, nI (12 - (d + 1)), 0) st.1 S O op = (if (tk T (st.1 + 1)).1 = 40 then .inr (st.1 + 2, (1, nI (12 - d), 0) :: (4, 0, 44) :: (1, nI (12 - d), 0) :: (4, 0, 41) :: (6, 0, 8) :: S, O, op) else .inl (tk T (st.1 + 1)).2.2) := by
    show mTerm T (nI (12 - (d + 1))) st.1 S O op = _
    unfold mTerm
    rw [deep_1 (by omega), hk, if_neg, if_neg (by decide), if_neg (by decide), if_neg (by decide), if_neg (by decide), if_pos rfl]
    rintro (h2 | ⟨h2, -⟩)
    · exact deep_n h2
    · exact absurd h2 (by decide)
  have he1 := he.adv hk (by decide)
  rw [e]
  unfold pWay
  by_cases h40 : (tk T (st.1 + 1)).1 = 40
  · rw [if_pos h40] at hm
    have r0 := Rch.st hm
    rw [open_t h40]
    have he2 := he1.adv (st := pAdv st) h40 (by decide)
    have hd1 := sum_d (T := T) (d := d) (st := pAdv (pAdv st))
    obtain ⟨t1, t2⟩ := HS (pAdv (pAdv st)) ls n he2 (by omega) (by omega) ((4, 0, 44) :: (1, nI (12 - d), 0) :: (4, 0, 41) :: (6, 0, 8) :: S) O op hop
    generalize pSum T (pTerm T d) (pAdv (pAdv st)) = q at *
    rw [if_pos rfl]
    by_cases hq : q.1 = true
    · rw [if_pos hq]
      obtain ⟨Z, hZ, rZ⟩ := t1 hq
      have hd1 := hd1 hq
      have he3 := hZ.env he2
      by_cases h44 : (tk T q.2.1).1 = 44
      · rw [pTake_t h44, if_pos rfl]
        have he4 := he3.adv h44 (by decide)
        obtain ⟨u1, u2⟩ := HS (pAdv q.2) ls (n + 1) he4 (by omega) (by omega) ((4, 0, 41) :: (6, 0, 8) :: S) (O ++ mz Z) op hop
        generalize pSum T (pTerm T d) (pAdv q.2) = w at *
        have r1 := (r0.tr rZ).tr (sign_t h44)
        by_cases hw : w.1 = true
        · rw [if_pos hw]
          obtain ⟨W, hW, rW⟩ := u1 hw
          have hZW : Gd T (Z ++ W) (st.1 + 2, st.2) w.2 (n, ls) (n + 1 + 1, ls) := by
            refine ⟨hW.1, ?_, ?_, ?_, zrun_app hZ.2.2.2.2 hW.2.2.2.2⟩
            · rw [hW.2.1, cz_app, ← List.append_assoc]
              show q.2.2.1 ++ cz W = _
              rw [hZ.2.1]
              rfl
            · rw [hW.2.2.1]
              show q.2.2.2 = _
              rw [hZ.2.2.1]
              rfl
            · have a1 := hW.2.2.2.1
              have a2 := hZ.2.2.2.1
              have : (pAdv q.2).1 = q.2.1 + 1 := rfl
              have : (pAdv (pAdv st)).1 = st.1 + 2 := rfl
              rw [cz_app, List.length_append]
              show st.1 + 2 + _ ≤ _
              omega
          obtain ⟨f1, f2⟩ := end_ok hT (K := 8) (v := 0) (st := st) he.2.1 2 (by omega) hZW (c := (n + 1, ls)) (fun pl => Or.inr (Or.inr (Or.inl ⟨by show 2 ≤ n + 1 + 1; omega, by show n + 1 + 1 ≤ 24; omega, rfl, 8, pl, by decide, rfl⟩))) S O op
          rw [mz_app, ← List.append_assoc] at f1 f2
          refine ⟨fun h => ?_, fun h => (r1.tr rW).tr (f2 h)⟩
          obtain ⟨Z2, g1, g2⟩ := f1 h
          exact ⟨Z2, g1, (r1.tr rW).tr g2⟩
        · rw [if_neg hw]
          exact ⟨fun h => Bool.noConfusion h, fun _ => r1.tr (u2 hw)⟩
      · rw [pTake_f h44]
        exact ⟨fun h => Bool.noConfusion h, fun _ => (r0.tr rZ).tr (sign_f h44)⟩
    · rw [if_neg hq]
      exact ⟨fun h => Bool.noConfusion h, fun _ => r0.tr (t2 hq)⟩
  · rw [if_neg h40] at hm
    rw [open_f h40]
    exact ⟨fun h => Bool.noConfusion h, fun _ => Rch.st hm⟩

theorem kind_ok {T : List Tok} (hT : TW T) {d n : Nat} (HS : SumOK T d) {st : PSt} {ls : List Nat} (he : EnvOK T st ls) (hls : ls.length + (d + 1) ≤ 12) (hn : n + 2 * (d + 1) ≤ 25) (hk : (tk T st.1).1 = 9) : Con T (pTerm T (d + 1)) (2, nI (12 - (d + 1)), 0) st (n, ls) (n + 1, ls) := by
  intro S O op hop
  have e : pTerm T (d + 1) st = pKind T (pSum T (pTerm T d)) st := by
    unfold pTerm
    rw [tkAt_tk, hk, if_neg (by decide), if_neg (by decide), if_neg (by decide), if_neg (by decide), if_neg (by decide), if_neg (by decide), if_pos rfl]
  have hm : mst T (2, nI (12 - (d + 1)), 0) st.1 S O op = (if (tk T (st.1 + 1)).1 = 40 then (if (tk T (st.1 + 2)).1 = 4 then (if (tk T (st.1 + 3)).1 = 44 then .inr (st.1 + 4, (1, nI (12 - d), 0) :: (4, 0, 41) :: (6, (tk T (st.1 + 2)).2.1, 9) :: S, O, op) else .inl (tk T (st.1 + 3)).2.2) else .inl (tk T (st.1 + 2)).2.2) else .inl (tk T (st.1 + 1)).2.2) := by
    show mTerm T (nI (12 - (d + 1))) st.1 S O op = _
    unfold mTerm
    rw [deep_1 (by omega), hk, if_neg, if_neg (by decide), if_neg (by decide), if_neg (by decide), if_neg (by decide), if_neg (by decide), if_pos rfl]
    rintro (h2 | ⟨h2, -⟩)
    · exact deep_n h2
    · exact absurd h2 (by decide)
  have he1 := he.adv hk (by decide)
  rw [e]
  unfold pKind
  by_cases h40 : (tk T (st.1 + 1)).1 = 40
  · rw [if_pos h40] at hm
    rw [open_t h40, if_pos rfl]
    have he2 := he1.adv (st := pAdv st) h40 (by decide)
    by_cases h4 : (tk T (st.1 + 2)).1 = 4
    · rw [if_pos h4] at hm
      rw [pTake_t (st := pAdv (pAdv st)) h4, if_pos rfl]
      have he3 := he2.adv (st := pAdv (pAdv st)) h4 (by decide)
      by_cases h44 : (tk T (st.1 + 3)).1 = 44
      · rw [if_pos h44] at hm
        rw [pTake_t (st := pAdv (pAdv (pAdv st))) h44, if_pos rfl]
        have he4 := he3.adv (st := pAdv (pAdv (pAdv st))) h44 (by decide)
        have r0 := Rch.st hm
        obtain ⟨t1, t2⟩ := HS (pAdv (pAdv (pAdv (pAdv st)))) ls n he4 (by omega) (by omega) ((4, 0, 41) :: (6, (tk T (st.1 + 2)).2.1, 9) :: S) O op hop
        generalize pSum T (pTerm T d) (pAdv (pAdv (pAdv (pAdv st)))) = q at *
        by_cases hq : q.1 = true
        · rw [if_pos hq]
          obtain ⟨Z, hZ, rZ⟩ := t1 hq
          obtain ⟨f1, f2⟩ := end_ok hT (K := 9) (v := (tk T (st.1 + 2)).2.1) (st := st) he.2.1 4 (by omega) hZ (c := (n + 1, ls)) (fun pl => Or.inr (Or.inl ⟨by show 1 ≤ n + 1; omega, by show n + 1 ≤ 24; omega, rfl, Or.inr (Or.inl ⟨_, pl, rfl⟩)⟩)) S O op
          refine ⟨fun h => ?_, fun h => (r0.tr rZ).tr (f2 h)⟩
          obtain ⟨Z2, g1, g2⟩ := f1 h
          exact ⟨Z2, g1, (r0.tr rZ).tr g2⟩
        · rw [if_neg hq]
          exact ⟨fun h => Bool.noConfusion h, fun _ => r0.tr (t2 hq)⟩
      · rw [if_neg h44] at hm
        rw [pTake_f (st := pAdv (pAdv (pAdv st))) h44]
        exact ⟨fun h => Bool.noConfusion h, fun _ => Rch.st hm⟩
    · rw [if_neg h4] at hm
      rw [pTake_f (st := pAdv (pAdv st)) h4]
      exact ⟨fun h => Bool.noConfusion h, fun _ => Rch.st hm⟩
  · rw [if_neg h40] at hm
    rw [open_f h40]
    exact ⟨fun h => Bool.noConfusion h, fun _ => Rch.st hm⟩
/-- deps, users: the bound behind the SUM -/
theorem rend_ok {T : List Tok} (hT : TW T) {K v w : Int32} {st q : PSt} {a b c : Za} {Z : List Zt} (he : st.2.1.length ≤ st.1) (j : Nat) (hj : 1 ≤ j) (hZ : Gd T Z (st.1 + j, st.2) q a b) (jj : Nat) (hz : ∀ pl, zs b c (some (K, v, pl), (K, w, 0))) (S : List Mu) (O : List Tok) (op : Nat → Int32) (hle : q.1 + jj ≤ T.length)
    (hm : mst T (5, 0, K) q.1 S (O ++ mz Z) op = if (tk T (q.1 + jj)).1 = 41 then .inr (q.1 + jj + 1, S, (O ++ mz Z) ++ [(K, w, 0)], op) else .inl (tk T (q.1 + jj)).2.2) :
    ((pEnd T K v (q.1 + jj, q.2)).1 = true → ∃ Z2, Gd T Z2 st (pEnd T K v (q.1 + jj, q.2)).2 a c ∧ Rch T (.inr (q.1, (5, 0, K) :: S, O ++ mz Z, op)) (.inr ((pEnd T K v (q.1 + jj, q.2)).2.1, S, O ++ mz Z2, op))) ∧
    (¬ (pEnd T K v (q.1 + jj, q.2)).1 = true → Rch T (.inr (q.1, (5, 0, K) :: S, O ++ mz Z, op)) (.inl (tkAt T (pEnd T K v (q.1 + jj, q.2)).2).2.2)) := by
  obtain ⟨z0, z1, z2, z3, z4⟩ := hZ
  have z1' : q.2.1 = st.2.1 ++ cz Z := z1
  have z3' : st.1 + j + (cz Z).length ≤ q.1 := z3
  have h81 := hT.1
  have hl : q.2.1.length < 81 := by rw [z1', List.length_append]; omega
  unfold pEnd
  rw [pEmit_ok (st := (q.1 + jj, q.2)) hl]
  by_cases hk : (tk T (q.1 + jj)).1 = 41
  · rw [if_pos hk] at hm
    rw [pTake_t (st := (q.1 + jj, q.2.1 ++ [(K, v, (tk T (q.1 + jj)).2.2)], q.2.2)) hk]
    refine ⟨fun _ => ⟨Z ++ [(some (K, v, (tk T (q.1 + jj)).2.2), (K, w, 0))], ⟨?_, ?_, z2, ?_, zrun_app z4 (zrun_one (hz _))⟩, ?_⟩, fun h => absurd rfl h⟩
    · show q.1 + jj + 1 ≤ T.length
      have := tk_lt9 hk (by decide)
      omega
    · rw [cz_app]
      show q.2.1 ++ [_] = st.2.1 ++ (cz Z ++ [_])
      rw [z1', List.append_assoc]
    · rw [cz_app, List.length_append]
      show st.1 + ((cz Z).length + 1) ≤ q.1 + jj + 1
      omega
    · rw [mz_app, ← List.append_assoc]
      exact Rch.st hm
  · rw [if_neg hk] at hm
    rw [pTake_f (st := (q.1 + jj, q.2.1 ++ [(K, v, (tk T (q.1 + jj)).2.2)], q.2.2)) hk]
    exact ⟨fun h => Bool.noConfusion h, fun _ => Rch.st hm⟩
theorem rounds_ok {T : List Tok} (hT : TW T) {d n : Nat} (HS : SumOK T d) {st : PSt} {ls : List Nat} (he : EnvOK T st ls) (hls : ls.length + (d + 1) ≤ 12) (hn : n + 2 * (d + 1) ≤ 25) (hk : (tk T st.1).1 = 6 ∨ (tk T st.1).1 = 7) : Con T (pTerm T (d + 1)) (2, nI (12 - (d + 1)), 0) st (n, ls) (n + 1, ls) := by
  intro S O op hop
  have e : pTerm T (d + 1) st = pRounds T (pSum T (pTerm T d)) (tk T st.1).1 st := by
    unfold pTerm
    rw [tkAt_tk]
    rcases hk with h | h <;> rw [h, if_neg (by decide), if_neg (by decide), if_neg (by decide), if_pos (by decide)]
  have hm : mst T (2, nI (12 - (d + 1)), 0) st.1 S O op = (if (tk T (st.1 + 1)).1 = 40 then .inr (st.1 + 2, (1, nI (12 - d), 0) :: (5, 0, (tk T st.1).1) :: S, O, op) else .inl (tk T (st.1 + 1)).2.2) := by
    show mTerm T (nI (12 - (d + 1))) st.1 S O op = _
    unfold mTerm
    rw [deep_1 (by omega)]
    rcases hk with h | h
    all_goals
      rw [h, if_neg, if_neg (by decide), if_neg (by decide), if_pos (by decide)]
      rintro (h2 | ⟨h2, -⟩)
      · exact deep_n h2
      · exact absurd h2 (by decide)
  have he1 := he.adv (K := (tk T st.1).1) rfl (by rcases hk with h | h <;> rw [h] <;> decide)
  rw [e]
  unfold pRounds
  by_cases h40 : (tk T (st.1 + 1)).1 = 40
  · rw [if_pos h40] at hm
    have r0 := Rch.st hm
    rw [open_t h40]
    have he2 := he1.adv (st := pAdv st) h40 (by decide)
    obtain ⟨t1, t2⟩ := HS (pAdv (pAdv st)) ls n he2 (by omega) (by omega) ((5, 0, (tk T st.1).1) :: S) O op hop
    generalize pSum T (pTerm T d) (pAdv (pAdv st)) = q at *
    rw [if_pos rfl]
    by_cases hq : q.1 = true
    · rw [if_pos hq]
      obtain ⟨Z, hZ, rZ⟩ := t1 hq
      have he3 := hZ.env he2
      have r1 := r0.tr rZ
      by_cases h44 : (tk T q.2.1).1 = 44
      · rw [pTake_t h44, if_pos rfl]
        have he4 := he3.adv h44 (by decide)
        by_cases h4 : (tk T (q.2.1 + 1)).1 = 4
        · rw [pTake_t (st := pAdv q.2) h4, if_pos rfl]
          have hlt := tk_lt9 h4 (by decide)
          obtain ⟨R, hR, eR⟩ := (hT.2 (q.2.1 + 1)).2.2 h4
          obtain ⟨f1, f2⟩ := rend_ok hT (K := (tk T st.1).1) (v := (tk T (q.2.1 + 1)).2.1) (w := (tk T (q.2.1 + 1)).2.1) (st := st) he.2.1 2 (by omega) hZ 2 (c := (n + 1, ls)) (fun pl => Or.inr (Or.inl ⟨by show 1 ≤ n + 1; omega, by show n + 1 ≤ 24; omega, rfl, Or.inl ⟨(tk T st.1).1, R, pl, hk, hR, Or.inl (by rw [eR])⟩⟩)) S O op (by omega) (by
            show (if (tk T q.2.1).1 = 44 then _ else _) = _
            rw [if_pos h44, if_pos h4])
          refine ⟨fun h => ?_, fun h => r1.tr (f2 h)⟩
          obtain ⟨Z2, g1, g2⟩ := f1 h
          exact ⟨Z2, g1, r1.tr g2⟩
        · rw [pTake_f (st := pAdv q.2) h4]
          refine ⟨fun h => Bool.noConfusion h, fun _ => r1.tr (Rch.st ?_)⟩
          show (if (tk T q.2.1).1 = 44 then _ else _) = _
          rw [if_pos h44, if_neg h4]
          rfl
      · rw [pTake_f h44, if_neg (fun h => Bool.noConfusion h)]
        obtain ⟨f1, f2⟩ := rend_ok hT (K := (tk T st.1).1) (v := 30) (w := -1) (st := st) he.2.1 2 (by omega) hZ 0 (c := (n + 1, ls)) (fun pl => Or.inr (Or.inl ⟨by show 1 ≤ n + 1; omega, by show n + 1 ≤ 24; omega, rfl, Or.inl ⟨(tk T st.1).1, 30, pl, hk, by omega, Or.inr ⟨rfl, rfl⟩⟩⟩)) S O op he3.1 (by
            show (if (tk T q.2.1).1 = 44 then _ else _) = _
            rw [if_neg h44]
            rfl)
        refine ⟨fun h => ?_, fun h => r1.tr (f2 h)⟩
        obtain ⟨Z2, g1, g2⟩ := f1 h
        exact ⟨Z2, g1, r1.tr g2⟩
    · rw [if_neg hq]
      exact ⟨fun h => Bool.noConfusion h, fun _ => r0.tr (t2 hq)⟩
  · rw [if_neg h40] at hm
    rw [open_f h40]
    exact ⟨fun h => Bool.noConfusion h, fun _ => Rch.st hm⟩

theorem upd_2 (f : Nat → Int32) (i : Nat) (x : Int32) {y : Int32} (h : y = f i) : upd (upd f i x) i y = f := by
  funext j
  by_cases e : j = i
  · rw [e, upd_s, h]
  · rw [upd_o e, upd_o e]
theorem let_ok {T : List Tok} (hT : TW T) {d n : Nat} (HS : SumOK T d) {st : PSt} {ls : List Nat} (he : EnvOK T st ls) (hls : ls.length + (d + 1) ≤ 12) (hn : n + 2 * (d + 1) ≤ 25) (hk : (tk T st.1).1 = 12) : Con T (pTerm T (d + 1)) (2, nI (12 - (d + 1)), 0) st (n, ls) (n + 1, ls) := by
  intro S O op hop
  have e : pTerm T (d + 1) st = pLet T (pSum T (pTerm T d)) st := by
    unfold pTerm
    rw [tkAt_tk, hk, if_neg (by decide), if_neg (by decide), if_neg (by decide), if_neg (by decide), if_neg (by decide), if_neg (by decide), if_neg (by decide), if_pos rfl]
  have hm : mst T (2, nI (12 - (d + 1)), 0) st.1 S O op = (if (tk T (st.1 + 1)).1 = 3 then (if (tk T (st.1 + 2)).1 = 61 then .inr (st.1 + 3, (1, nI (12 - d), 0) :: (7, 0, (tk T (st.1 + 1)).2.1) :: (1, nI (12 - d), 0) :: (8, 0, (tk T (st.1 + 1)).2.1) :: S, O, op) else .inl (tk T (st.1 + 2)).2.2) else .inl (tk T (st.1 + 1)).2.2) := by
    show mTerm T (nI (12 - (d + 1))) st.1 S O op = _
    unfold mTerm
    rw [deep_1 (by omega), hk, if_neg, if_neg (by decide), if_neg (by decide), if_neg (by decide), if_neg (by decide), if_neg (by decide), if_neg (by decide), if_pos rfl]
    rintro (h2 | ⟨h2, -⟩)
    · exact deep_n h2
    · exact absurd h2 (by decide)
  have he1 := he.adv hk (by decide)
  rw [e]
  unfold pLet
  by_cases h3 : (tk T (st.1 + 1)).1 = 3
  · rw [if_pos h3] at hm
    rw [pTake_t (st := pAdv st) h3, if_pos rfl]
    have he2 := he1.adv (st := pAdv st) h3 (by decide)
    obtain ⟨c, hc, ec⟩ := (hT.2 (st.1 + 1)).2.1 h3
    have ev : (tkAt T (pAdv st)).2.1 = nI c := ec
    rw [ev]
    rw [ec] at hm
    by_cases h61 : (tk T (st.1 + 2)).1 = 61
    · rw [if_pos h61] at hm
      rw [pTake_t (st := pAdv (pAdv st)) h61, if_pos rfl]
      have he3 := he2.adv (st := pAdv (pAdv st)) h61 (by decide)
      have r0 := Rch.st hm
      obtain ⟨t1, t2⟩ := HS (pAdv (pAdv (pAdv st))) ls n he3 (by omega) (by omega) ((7, 0, nI c) :: (1, nI (12 - d), 0) :: (8, 0, nI c) :: S) O op hop
      generalize pSum T (pTerm T d) (pAdv (pAdv (pAdv st))) = q at *
      by_cases hq : q.1 = true
      · rw [if_pos hq]
        obtain ⟨Z, hZ, rZ⟩ := t1 hq
        have he4 := hZ.env he3
        have r1 := r0.tr rZ
        by_cases h13 : (tk T q.2.1).1 = 13
        · rw [pTake_t h13, if_pos rfl]
          have he5 := he4.adv h13 (by decide)
          obtain ⟨z0, z1, z2, z3, z4⟩ := hZ
          have z1' : q.2.2.1 = st.2.1 ++ cz Z := z1
          have z3' : st.1 + 3 + (cz Z).length ≤ q.2.1 := z3
          have h81 := hT.1
          have hsl : q.2.2.2.1 = st.2.2.1 := congrArg Prod.fst z2
          have hop9 : q.2.2.2.2 = ls.length := he4.2.2.1
          have hb := he.2.1
          have hl : (pAdv q.2).2.1.length < 81 := by show q.2.2.1.length < 81; rw [z1', List.length_append]; omega
          have hx1 : pEmit T 12 (nI (pAdv q.2).2.2.2) (pAdv q.2) = (q.2.1 + 1, q.2.2.1 ++ [(12, nI ls.length, (tk T (q.2.1 + 1)).2.2)], q.2.2.2) := by
            rw [pEmit_ok hl]
            show (q.2.1 + 1, q.2.2.1 ++ [(12, nI q.2.2.2.2, (tk T (q.2.1 + 1)).2.2)], q.2.2.2) = _
            rw [hop9]
          have hsu : ∀ (sl : Nat → Int32) (y : Int32), slU sl (nI c) y = upd sl c y := fun sl y => by
            unfold slU
            rw [nI_toInt (by omega), if_pos ⟨by omega, by omega⟩, Int.toNat_natCast]
          have hsi : ∀ (sl : Nat → Int32), slI sl (nI c) = sl c := fun sl => by
            unfold slI
            rw [nI_toInt (by omega), if_pos ⟨by omega, by omega⟩, Int.toNat_natCast]
          have hx3 : pOpen ((pAdv q.2).2.2.2 + 1) (pSet (nI c) (nI (pAdv q.2).2.2.2) (pEmit T 12 (nI (pAdv q.2).2.2.2) (pAdv q.2))) = (q.2.1 + 1, q.2.2.1 ++ [(12, nI ls.length, (tk T (q.2.1 + 1)).2.2)], upd st.2.2.1 c (nI ls.length), ls.length + 1) := by
            rw [hx1]
            show (q.2.1 + 1, q.2.2.1 ++ [_], slU q.2.2.2.1 (nI c) (nI q.2.2.2.2), q.2.2.2.2 + 1) = _
            rw [hsu, hop9, hsl]
          have he6 : EnvOK T (q.2.1 + 1, q.2.2.1 ++ [(12, nI ls.length, (tk T (q.2.1 + 1)).2.2)], upd st.2.2.1 c (nI ls.length), ls.length + 1) (ls ++ [c]) := by
            refine ⟨he5.1, ?_, by rw [List.length_append]; rfl, ?_⟩
            · show (q.2.2.1 ++ [_]).length ≤ q.2.1 + 1
              rw [List.length_append, z1', List.length_append, List.length_singleton]
              omega
            · intro x hx
              rw [lix_app]
              show upd st.2.2.1 c (nI ls.length) x = _
              by_cases ex : x = c
              · rw [ex, upd_s, if_pos rfl]
              · rw [upd_o ex, if_neg ex]; exact he.2.2.2 x hx
          have hop2 : OpOK (upd op c (op c + 1)) (ls ++ [c]) := by
            intro x hx
            rw [List.count_append]
            by_cases ex : x = c
            · rw [ex, upd_s, hop c hc, nI_1, show List.count c [c] = 1 by simp]
            · rw [upd_o ex, hop x hx, show List.count x [c] = 0 by rw [List.count_eq_zero, List.mem_singleton]; exact ex, Nat.add_zero]
          have r2 : Rch T (.inr (q.2.1, (7, 0, nI c) :: (1, nI (12 - d), 0) :: (8, 0, nI c) :: S, O ++ mz Z, op)) (.inr (q.2.1 + 1, (1, nI (12 - d), 0) :: (8, 0, nI c) :: S, (O ++ mz Z) ++ [(20, nI c, 0)], upd op c (op c + 1))) := by
            refine Rch.st ?_
            show (if (tk T q.2.1).1 = 13 then _ else _) = _
            rw [if_pos h13, nI_clamp (by omega)]
          obtain ⟨u1, u2⟩ := HS _ (ls ++ [c]) n he6 (by rw [List.length_append, List.length_singleton]; omega) (by omega) ((8, 0, nI c) :: S) ((O ++ mz Z) ++ [(20, nI c, 0)]) (upd op c (op c + 1)) hop2
          unfold pBound
          rw [hx3]
          generalize pSum T (pTerm T d) (q.2.1 + 1, q.2.2.1 ++ [(12, nI ls.length, (tk T (q.2.1 + 1)).2.2)], upd st.2.2.1 c (nI ls.length), ls.length + 1) = w at *
          by_cases hw : w.1 = true
          · obtain ⟨W, ⟨w0, w1, w2, w3, w4⟩, rW⟩ := u1 hw
            have w1' : w.2.2.1 = (q.2.2.1 ++ [(12, nI ls.length, (tk T (q.2.1 + 1)).2.2)]) ++ cz W := w1
            have w2' : w.2.2.2 = (upd st.2.2.1 c (nI ls.length), ls.length + 1) := w2
            have w3' : q.2.1 + 1 + (cz W).length ≤ w.2.1 := w3
            refine ⟨fun _ => ⟨Z ++ [(some (12, nI ls.length, (tk T (q.2.1 + 1)).2.2), (20, nI c, 0))] ++ W ++ [(none, (21, nI c, 0))], ⟨w0, ?_, ?_, ?_, ?_⟩, ?_⟩, fun h => absurd hw h⟩
            · show w.2.2.1 = _
              rw [w1', z1', cz_app, cz_app, cz_app]
              show ((st.2.1 ++ cz Z) ++ [_]) ++ cz W = st.2.1 ++ (((cz Z ++ [_]) ++ cz W) ++ [])
              simp only [List.append_assoc, List.append_nil]
            · show (slU w.2.2.2.1 (nI c) (slI (pAdv q.2).2.2.1 (nI c)), w.2.2.2.2 - 1) = st.2.2
              rw [w2', hsi, hsu]
              show (upd (upd st.2.2.1 c (nI ls.length)) c (q.2.2.2.1 c), ls.length + 1 - 1) = _
              rw [hsl, upd_2 _ _ _ rfl, Nat.add_sub_cancel, ← he.2.2.1]
            · rw [cz_app, cz_app, cz_app, List.length_append, List.length_append, List.length_append]
              show st.1 + ((((cz Z).length + 1) + (cz W).length) + 0) ≤ w.2.1
              omega
            · refine zrun_app (zrun_app (zrun_app z4 (zrun_one (Or.inr (Or.inr (Or.inr (Or.inl ⟨?_, ?_, c, _, hc, ?_, rfl, rfl⟩)))))) w4) (zrun_one (Or.inr (Or.inr (Or.inr (Or.inr ⟨c, ls, hc, rfl, rfl, rfl⟩)))))
              · show 1 ≤ n + 1; omega
              · show n + 1 ≤ 24; omega
              · show ls.length < 12; omega
            · refine ((r1.tr r2).tr rW).tr (Rch.st ?_)
              show Sum.inr (w.2.1, S, ((O ++ mz Z) ++ [(20, nI c, 0)] ++ mz W) ++ [(21, nI c, 0)], upd (upd op c (op c + 1)) (nI c).toNatClampNeg (upd op c (op c + 1) (nI c).toNatClampNeg - 1)) = _
              rw [nI_clamp (by omega), upd_2 op c (op c + 1) (by rw [upd_s, hop c hc, nI_1, nI_pred]), mz_app, mz_app, mz_app]
              show Sum.inr (w.2.1, S, ((O ++ mz Z) ++ [(20, nI c, 0)] ++ mz W) ++ [(21, nI c, 0)], op) = Sum.inr (w.2.1, S, O ++ (mz Z ++ [(20, nI c, 0)] ++ mz W ++ [(21, nI c, 0)]), op)
              simp only [List.append_assoc]
          · exact ⟨fun h => absurd h hw, fun _ => (r1.tr r2).tr (u2 hw)⟩
        · rw [pTake_f h13]
          refine ⟨fun h => Bool.noConfusion h, fun _ => r1.tr (Rch.st ?_)⟩
          show (if (tk T q.2.1).1 = 13 then _ else _) = _
          rw [if_neg h13]
          rfl
      · rw [if_neg hq]
        exact ⟨fun h => Bool.noConfusion h, fun _ => r0.tr (t2 hq)⟩
    · rw [if_neg h61] at hm
      rw [pTake_f (st := pAdv (pAdv st)) h61]
      exact ⟨fun h => Bool.noConfusion h, fun _ => Rch.st hm⟩
  · rw [if_neg h3] at hm
    rw [pTake_f (st := pAdv st) h3]
    exact ⟨fun h => Bool.noConfusion h, fun _ => Rch.st hm⟩
theorem term_ok {T : List Tok} (hT : TW T) : ∀ d, TermOK T d := by
  intro d
  induction d with
  | zero =>
    intro st ls n he hl hn S O op hop
    exact ⟨fun h => Bool.noConfusion (show false = true from h), fun _ => Rch.st (show mTerm T (nI 12) st.1 S O op = _ from if_pos (Or.inl rfl))⟩
  | succ d ih =>
    intro st ls n he hl hn
    have HS := sum_ok hT ih
    rcases sw_term (tk T st.1).1 with h | h | h | h | h | h | h | h | h | h | h | hno
    · exact name_ok hT he hn (Or.inl h)
    · exact letter_ok hT he hl hn h
    · exact name_ok hT he hn (Or.inr h)
    · exact rounds_ok hT HS he hl hn (Or.inl h)
    · exact rounds_ok hT HS he hl hn (Or.inr h)
    · exact way_ok hT HS he hl hn h
    · exact kind_ok hT HS he hl hn h
    · exact plain_ok hT HS he hl hn (Or.inl h)
    · exact plain_ok hT HS he hl hn (Or.inr h)
    · exact let_ok hT HS he hl hn h
    · exact paren_ok HS he hl hn h
    · intro S O op hop
      rw [pTerm_no (T := T) (d := d) (st := st) rfl hno]
      obtain ⟨h2, h3, h5, h6, h7, h8, h9, h10, h11, h12, h40⟩ := hno
      refine ⟨fun h => Bool.noConfusion h, fun _ => Rch.st ?_⟩
      show mTerm T (nI (12 - (d + 1))) st.1 S O op = _
      unfold mTerm
      rw [if_neg, if_neg, if_neg h40, if_neg (not_or.mpr ⟨h6, h7⟩), if_neg (not_or.mpr ⟨h10, h11⟩), if_neg h8, if_neg h9, if_neg h12]
      · rfl
      · rintro (h | h | h)
        · exact h2 h
        · exact h3 h
        · exact h5 h
      · rintro (h | ⟨h, -⟩)
        · exact deep_n h
        · exact h3 h
/-- the whole text: both readers -/
theorem read_ok {T : List Tok} (hT : TW T) {sl : Nat → Int32} (hsl : ∀ c, c < 26 → sl c = -1) {op : Nat → Int32} (hop : ∀ c, c < 26 → op c = 0) :
    ((pSum T (pTerm T 12) (0, [], sl, 0)).1 = true → ∃ Z, Gd T Z (0, [], sl, 0) (pSum T (pTerm T 12) (0, [], sl, 0)).2 (0, []) (1, []) ∧ Rch T (.inr (0, [(1, 0, 0)], [], op)) (.inr ((pSum T (pTerm T 12) (0, [], sl, 0)).2.1, [], mz Z, op))) ∧
    (¬ (pSum T (pTerm T 12) (0, [], sl, 0)).1 = true → Rch T (.inr (0, [(1, 0, 0)], [], op)) (.inl (tkAt T (pSum T (pTerm T 12) (0, [], sl, 0)).2).2.2)) :=
  sum_ok hT (term_ok hT 12) (0, [], sl, 0) [] 0 ⟨Nat.zero_le _, Nat.le_refl _, rfl, hsl⟩ (by decide) (by decide) [] [] op hop
