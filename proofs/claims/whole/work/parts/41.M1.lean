-- ===== GraphQueryModel =====
def mlen (p : Nat) : Nat := match p with
  | 1 => 30
  | 2 => 30
  | 3 => 30
  | 4 => 30
  | 5 => 240
  | 6 => 80
  | 7 => 400
  | 8 => 400
  | 9 => 400
  | 10 => 26
  | 11 => 200
  | 12 => 200
  | 13 => 200
  | 14 => 1800
  | 15 => 60
  | 16 => 600
  | 17 => 20
  | 18 => 20
  | 19 => 30
  | 20 => 30
  | 21 => 30
  | 22 => 8
  | 23 => 8
  | _ => 0
def setV (v : Nat → Int32) (j : Nat) (x : Int32) : Nat → Int32 := fun i => if i = j then x else v i
/-- the fields of the model -/
abbrev mfs (ad : Nat → Nat) (km : Nat) (v : Nat → Int32) : List Value := [.int (v 0), .int (v 1), .ref (ad (km + 1)), .ref (ad (km + 2)), .ref (ad (km + 3)), .ref (ad (km + 4)), .ref (ad (km + 5)), .ref (ad (km + 6)), .int (v 8), .int (v 9), .int (v 10), .int (v 11), .int (v 12), .int (v 13), .ref (ad (km + 7)), .ref (ad (km + 8)), .ref (ad (km + 9)), .ref (ad (km + 10)), .int (v 18), .ref (ad (km + 11)), .ref (ad (km + 12)), .ref (ad (km + 13)), .int (v 22), .ref (ad (km + 14)), .ref (ad (km + 15)), .ref (ad (km + 16)), .ref (ad (km + 17)), .ref (ad (km + 18)), .int (v 28), .int (v 29), .int (v 30), .ref (ad (km + 19)), .ref (ad (km + 20)), .ref (ad (km + 21)), .int (v 34), .int (v 35), .int (v 36), .ref (ad (km + 22)), .ref (ad (km + 23))]
/-- the cells km .. km + 23 are a GraphQueryModel with these numbers and rows -/
def ModF (cI : ClassId) (ad : Nat → Nat) (ws : va_W) (km : Nat) (v : Nat → Int32) (F : Nat → Nat → Int32) : Prop :=
  ws[km]? = some (ad km, .inr (7, mfs ad km v)) ∧ ∀ p, 1 ≤ p → p ≤ 23 → ws[km + p]? = some (ad (km + p), .inl (cI, mlen p, .inl (F p)))
theorem ModF.a {cI : ClassId} {ad : Nat → Nat} {ws : va_W} {km : Nat} {v : Nat → Int32} {F : Nat → Nat → Int32} (h : ModF cI ad ws km v F) (p n : Nat) (hn : mlen p = n) (h1 : 1 ≤ p) (h2 : p ≤ 23) : ws[km + p]? = some (ad (km + p), .inl (cI, n, .inl (F p))) := by
  rw [← hn]; exact h.2 p h1 h2
theorem ModF.arr {cI : ClassId} {ad : Nat → Nat} {ws ws1 : va_W} {km : Nat} {v : Nat → Int32} {F : Nat → Nat → Int32} {f : Nat → Int32} (h : ModF cI ad ws km v F) (p n : Nat) (hn : mlen p = n) (h1 : 1 ≤ p) (h2 : p ≤ 23) (u : x_upd ws (km + p) (ad (km + p), .inl (cI, n, .inl f)) ws1) : ModF cI ad ws1 km v (setF F p f) := by
  refine ⟨(u.2 km (by omega)).trans h.1, fun q q1 q2 => ?_⟩
  unfold setF
  by_cases e : q = p
  · rw [if_pos e, e, hn]; exact u.1
  · rw [if_neg e]; exact (u.2 _ (by omega)).trans (h.2 q q1 q2)
theorem ModF.fld {cI : ClassId} {ad : Nat → Nat} {ws ws1 : va_W} {km : Nat} {v v1 : Nat → Int32} {F : Nat → Nat → Int32} (h : ModF cI ad ws km v F) (u : x_upd ws km (ad km, .inr (7, mfs ad km v1)) ws1) : ModF cI ad ws1 km v1 F :=
  ⟨u.1, fun q q1 q2 => (u.2 _ (by omega)).trans (h.2 q q1 q2)⟩
theorem ModF.keep {cI : ClassId} {ad : Nat → Nat} {ws ws1 : va_W} {km a b : Nat} {v : Nat → Int32} {F : Nat → Nat → Int32} (h : ModF cI ad ws km v F) (hf : x_fr a b ws ws1) (hd : km + 24 ≤ a ∨ b ≤ km) : ModF cI ad ws1 km v F :=
  ⟨(hf _ (by omega)).trans h.1, fun q q1 q2 => (hf _ (by omega)).trans (h.2 q q1 q2)⟩

theorem ModF.fld_0 {cI : ClassId} {ad : Nat → Nat} {ws ws1 : va_W} {km : Nat} {v : Nat → Int32} {F : Nat → Nat → Int32} {x : Int32} (h : ModF cI ad ws km v F) (u : x_upd ws km (ad km, .inr (7, [.int x, .int (v 1), .ref (ad (km + 1)), .ref (ad (km + 2)), .ref (ad (km + 3)), .ref (ad (km + 4)), .ref (ad (km + 5)), .ref (ad (km + 6)), .int (v 8), .int (v 9), .int (v 10), .int (v 11), .int (v 12), .int (v 13), .ref (ad (km + 7)), .ref (ad (km + 8)), .ref (ad (km + 9)), .ref (ad (km + 10)), .int (v 18), .ref (ad (km + 11)), .ref (ad (km + 12)), .ref (ad (km + 13)), .int (v 22), .ref (ad (km + 14)), .ref (ad (km + 15)), .ref (ad (km + 16)), .ref (ad (km + 17)), .ref (ad (km + 18)), .int (v 28), .int (v 29), .int (v 30), .ref (ad (km + 19)), .ref (ad (km + 20)), .ref (ad (km + 21)), .int (v 34), .int (v 35), .int (v 36), .ref (ad (km + 22)), .ref (ad (km + 23))])) ws1) : ModF cI ad ws1 km (setV v 0 x) F := h.fld u
theorem ModF.fld_1 {cI : ClassId} {ad : Nat → Nat} {ws ws1 : va_W} {km : Nat} {v : Nat → Int32} {F : Nat → Nat → Int32} {x : Int32} (h : ModF cI ad ws km v F) (u : x_upd ws km (ad km, .inr (7, [.int (v 0), .int x, .ref (ad (km + 1)), .ref (ad (km + 2)), .ref (ad (km + 3)), .ref (ad (km + 4)), .ref (ad (km + 5)), .ref (ad (km + 6)), .int (v 8), .int (v 9), .int (v 10), .int (v 11), .int (v 12), .int (v 13), .ref (ad (km + 7)), .ref (ad (km + 8)), .ref (ad (km + 9)), .ref (ad (km + 10)), .int (v 18), .ref (ad (km + 11)), .ref (ad (km + 12)), .ref (ad (km + 13)), .int (v 22), .ref (ad (km + 14)), .ref (ad (km + 15)), .ref (ad (km + 16)), .ref (ad (km + 17)), .ref (ad (km + 18)), .int (v 28), .int (v 29), .int (v 30), .ref (ad (km + 19)), .ref (ad (km + 20)), .ref (ad (km + 21)), .int (v 34), .int (v 35), .int (v 36), .ref (ad (km + 22)), .ref (ad (km + 23))])) ws1) : ModF cI ad ws1 km (setV v 1 x) F := h.fld u
theorem ModF.fld_8 {cI : ClassId} {ad : Nat → Nat} {ws ws1 : va_W} {km : Nat} {v : Nat → Int32} {F : Nat → Nat → Int32} {x : Int32} (h : ModF cI ad ws km v F) (u : x_upd ws km (ad km, .inr (7, [.int (v 0), .int (v 1), .ref (ad (km + 1)), .ref (ad (km + 2)), .ref (ad (km + 3)), .ref (ad (km + 4)), .ref (ad (km + 5)), .ref (ad (km + 6)), .int x, .int (v 9), .int (v 10), .int (v 11), .int (v 12), .int (v 13), .ref (ad (km + 7)), .ref (ad (km + 8)), .ref (ad (km + 9)), .ref (ad (km + 10)), .int (v 18), .ref (ad (km + 11)), .ref (ad (km + 12)), .ref (ad (km + 13)), .int (v 22), .ref (ad (km + 14)), .ref (ad (km + 15)), .ref (ad (km + 16)), .ref (ad (km + 17)), .ref (ad (km + 18)), .int (v 28), .int (v 29), .int (v 30), .ref (ad (km + 19)), .ref (ad (km + 20)), .ref (ad (km + 21)), .int (v 34), .int (v 35), .int (v 36), .ref (ad (km + 22)), .ref (ad (km + 23))])) ws1) : ModF cI ad ws1 km (setV v 8 x) F := h.fld u
theorem ModF.fld_9 {cI : ClassId} {ad : Nat → Nat} {ws ws1 : va_W} {km : Nat} {v : Nat → Int32} {F : Nat → Nat → Int32} {x : Int32} (h : ModF cI ad ws km v F) (u : x_upd ws km (ad km, .inr (7, [.int (v 0), .int (v 1), .ref (ad (km + 1)), .ref (ad (km + 2)), .ref (ad (km + 3)), .ref (ad (km + 4)), .ref (ad (km + 5)), .ref (ad (km + 6)), .int (v 8), .int x, .int (v 10), .int (v 11), .int (v 12), .int (v 13), .ref (ad (km + 7)), .ref (ad (km + 8)), .ref (ad (km + 9)), .ref (ad (km + 10)), .int (v 18), .ref (ad (km + 11)), .ref (ad (km + 12)), .ref (ad (km + 13)), .int (v 22), .ref (ad (km + 14)), .ref (ad (km + 15)), .ref (ad (km + 16)), .ref (ad (km + 17)), .ref (ad (km + 18)), .int (v 28), .int (v 29), .int (v 30), .ref (ad (km + 19)), .ref (ad (km + 20)), .ref (ad (km + 21)), .int (v 34), .int (v 35), .int (v 36), .ref (ad (km + 22)), .ref (ad (km + 23))])) ws1) : ModF cI ad ws1 km (setV v 9 x) F := h.fld u
theorem ModF.fld_10 {cI : ClassId} {ad : Nat → Nat} {ws ws1 : va_W} {km : Nat} {v : Nat → Int32} {F : Nat → Nat → Int32} {x : Int32} (h : ModF cI ad ws km v F) (u : x_upd ws km (ad km, .inr (7, [.int (v 0), .int (v 1), .ref (ad (km + 1)), .ref (ad (km + 2)), .ref (ad (km + 3)), .ref (ad (km + 4)), .ref (ad (km + 5)), .ref (ad (km + 6)), .int (v 8), .int (v 9), .int x, .int (v 11), .int (v 12), .int (v 13), .ref (ad (km + 7)), .ref (ad (km + 8)), .ref (ad (km + 9)), .ref (ad (km + 10)), .int (v 18), .ref (ad (km + 11)), .ref (ad (km + 12)), .ref (ad (km + 13)), .int (v 22), .ref (ad (km + 14)), .ref (ad (km + 15)), .ref (ad (km + 16)), .ref (ad (km + 17)), .ref (ad (km + 18)), .int (v 28), .int (v 29), .int (v 30), .ref (ad (km + 19)), .ref (ad (km + 20)), .ref (ad (km + 21)), .int (v 34), .int (v 35), .int (v 36), .ref (ad (km + 22)), .ref (ad (km + 23))])) ws1) : ModF cI ad ws1 km (setV v 10 x) F := h.fld u
theorem ModF.fld_11 {cI : ClassId} {ad : Nat → Nat} {ws ws1 : va_W} {km : Nat} {v : Nat → Int32} {F : Nat → Nat → Int32} {x : Int32} (h : ModF cI ad ws km v F) (u : x_upd ws km (ad km, .inr (7, [.int (v 0), .int (v 1), .ref (ad (km + 1)), .ref (ad (km + 2)), .ref (ad (km + 3)), .ref (ad (km + 4)), .ref (ad (km + 5)), .ref (ad (km + 6)), .int (v 8), .int (v 9), .int (v 10), .int x, .int (v 12), .int (v 13), .ref (ad (km + 7)), .ref (ad (km + 8)), .ref (ad (km + 9)), .ref (ad (km + 10)), .int (v 18), .ref (ad (km + 11)), .ref (ad (km + 12)), .ref (ad (km + 13)), .int (v 22), .ref (ad (km + 14)), .ref (ad (km + 15)), .ref (ad (km + 16)), .ref (ad (km + 17)), .ref (ad (km + 18)), .int (v 28), .int (v 29), .int (v 30), .ref (ad (km + 19)), .ref (ad (km + 20)), .ref (ad (km + 21)), .int (v 34), .int (v 35), .int (v 36), .ref (ad (km + 22)), .ref (ad (km + 23))])) ws1) : ModF cI ad ws1 km (setV v 11 x) F := h.fld u
theorem ModF.fld_12 {cI : ClassId} {ad : Nat → Nat} {ws ws1 : va_W} {km : Nat} {v : Nat → Int32} {F : Nat → Nat → Int32} {x : Int32} (h : ModF cI ad ws km v F) (u : x_upd ws km (ad km, .inr (7, [.int (v 0), .int (v 1), .ref (ad (km + 1)), .ref (ad (km + 2)), .ref (ad (km + 3)), .ref (ad (km + 4)), .ref (ad (km + 5)), .ref (ad (km + 6)), .int (v 8), .int (v 9), .int (v 10), .int (v 11), .int x, .int (v 13), .ref (ad (km + 7)), .ref (ad (km + 8)), .ref (ad (km + 9)), .ref (ad (km + 10)), .int (v 18), .ref (ad (km + 11)), .ref (ad (km + 12)), .ref (ad (km + 13)), .int (v 22), .ref (ad (km + 14)), .ref (ad (km + 15)), .ref (ad (km + 16)), .ref (ad (km + 17)), .ref (ad (km + 18)), .int (v 28), .int (v 29), .int (v 30), .ref (ad (km + 19)), .ref (ad (km + 20)), .ref (ad (km + 21)), .int (v 34), .int (v 35), .int (v 36), .ref (ad (km + 22)), .ref (ad (km + 23))])) ws1) : ModF cI ad ws1 km (setV v 12 x) F := h.fld u
theorem ModF.fld_13 {cI : ClassId} {ad : Nat → Nat} {ws ws1 : va_W} {km : Nat} {v : Nat → Int32} {F : Nat → Nat → Int32} {x : Int32} (h : ModF cI ad ws km v F) (u : x_upd ws km (ad km, .inr (7, [.int (v 0), .int (v 1), .ref (ad (km + 1)), .ref (ad (km + 2)), .ref (ad (km + 3)), .ref (ad (km + 4)), .ref (ad (km + 5)), .ref (ad (km + 6)), .int (v 8), .int (v 9), .int (v 10), .int (v 11), .int (v 12), .int x, .ref (ad (km + 7)), .ref (ad (km + 8)), .ref (ad (km + 9)), .ref (ad (km + 10)), .int (v 18), .ref (ad (km + 11)), .ref (ad (km + 12)), .ref (ad (km + 13)), .int (v 22), .ref (ad (km + 14)), .ref (ad (km + 15)), .ref (ad (km + 16)), .ref (ad (km + 17)), .ref (ad (km + 18)), .int (v 28), .int (v 29), .int (v 30), .ref (ad (km + 19)), .ref (ad (km + 20)), .ref (ad (km + 21)), .int (v 34), .int (v 35), .int (v 36), .ref (ad (km + 22)), .ref (ad (km + 23))])) ws1) : ModF cI ad ws1 km (setV v 13 x) F := h.fld u
theorem ModF.fld_18 {cI : ClassId} {ad : Nat → Nat} {ws ws1 : va_W} {km : Nat} {v : Nat → Int32} {F : Nat → Nat → Int32} {x : Int32} (h : ModF cI ad ws km v F) (u : x_upd ws km (ad km, .inr (7, [.int (v 0), .int (v 1), .ref (ad (km + 1)), .ref (ad (km + 2)), .ref (ad (km + 3)), .ref (ad (km + 4)), .ref (ad (km + 5)), .ref (ad (km + 6)), .int (v 8), .int (v 9), .int (v 10), .int (v 11), .int (v 12), .int (v 13), .ref (ad (km + 7)), .ref (ad (km + 8)), .ref (ad (km + 9)), .ref (ad (km + 10)), .int x, .ref (ad (km + 11)), .ref (ad (km + 12)), .ref (ad (km + 13)), .int (v 22), .ref (ad (km + 14)), .ref (ad (km + 15)), .ref (ad (km + 16)), .ref (ad (km + 17)), .ref (ad (km + 18)), .int (v 28), .int (v 29), .int (v 30), .ref (ad (km + 19)), .ref (ad (km + 20)), .ref (ad (km + 21)), .int (v 34), .int (v 35), .int (v 36), .ref (ad (km + 22)), .ref (ad (km + 23))])) ws1) : ModF cI ad ws1 km (setV v 18 x) F := h.fld u
theorem ModF.fld_22 {cI : ClassId} {ad : Nat → Nat} {ws ws1 : va_W} {km : Nat} {v : Nat → Int32} {F : Nat → Nat → Int32} {x : Int32} (h : ModF cI ad ws km v F) (u : x_upd ws km (ad km, .inr (7, [.int (v 0), .int (v 1), .ref (ad (km + 1)), .ref (ad (km + 2)), .ref (ad (km + 3)), .ref (ad (km + 4)), .ref (ad (km + 5)), .ref (ad (km + 6)), .int (v 8), .int (v 9), .int (v 10), .int (v 11), .int (v 12), .int (v 13), .ref (ad (km + 7)), .ref (ad (km + 8)), .ref (ad (km + 9)), .ref (ad (km + 10)), .int (v 18), .ref (ad (km + 11)), .ref (ad (km + 12)), .ref (ad (km + 13)), .int x, .ref (ad (km + 14)), .ref (ad (km + 15)), .ref (ad (km + 16)), .ref (ad (km + 17)), .ref (ad (km + 18)), .int (v 28), .int (v 29), .int (v 30), .ref (ad (km + 19)), .ref (ad (km + 20)), .ref (ad (km + 21)), .int (v 34), .int (v 35), .int (v 36), .ref (ad (km + 22)), .ref (ad (km + 23))])) ws1) : ModF cI ad ws1 km (setV v 22 x) F := h.fld u
theorem ModF.fld_28 {cI : ClassId} {ad : Nat → Nat} {ws ws1 : va_W} {km : Nat} {v : Nat → Int32} {F : Nat → Nat → Int32} {x : Int32} (h : ModF cI ad ws km v F) (u : x_upd ws km (ad km, .inr (7, [.int (v 0), .int (v 1), .ref (ad (km + 1)), .ref (ad (km + 2)), .ref (ad (km + 3)), .ref (ad (km + 4)), .ref (ad (km + 5)), .ref (ad (km + 6)), .int (v 8), .int (v 9), .int (v 10), .int (v 11), .int (v 12), .int (v 13), .ref (ad (km + 7)), .ref (ad (km + 8)), .ref (ad (km + 9)), .ref (ad (km + 10)), .int (v 18), .ref (ad (km + 11)), .ref (ad (km + 12)), .ref (ad (km + 13)), .int (v 22), .ref (ad (km + 14)), .ref (ad (km + 15)), .ref (ad (km + 16)), .ref (ad (km + 17)), .ref (ad (km + 18)), .int x, .int (v 29), .int (v 30), .ref (ad (km + 19)), .ref (ad (km + 20)), .ref (ad (km + 21)), .int (v 34), .int (v 35), .int (v 36), .ref (ad (km + 22)), .ref (ad (km + 23))])) ws1) : ModF cI ad ws1 km (setV v 28 x) F := h.fld u
theorem ModF.fld_29 {cI : ClassId} {ad : Nat → Nat} {ws ws1 : va_W} {km : Nat} {v : Nat → Int32} {F : Nat → Nat → Int32} {x : Int32} (h : ModF cI ad ws km v F) (u : x_upd ws km (ad km, .inr (7, [.int (v 0), .int (v 1), .ref (ad (km + 1)), .ref (ad (km + 2)), .ref (ad (km + 3)), .ref (ad (km + 4)), .ref (ad (km + 5)), .ref (ad (km + 6)), .int (v 8), .int (v 9), .int (v 10), .int (v 11), .int (v 12), .int (v 13), .ref (ad (km + 7)), .ref (ad (km + 8)), .ref (ad (km + 9)), .ref (ad (km + 10)), .int (v 18), .ref (ad (km + 11)), .ref (ad (km + 12)), .ref (ad (km + 13)), .int (v 22), .ref (ad (km + 14)), .ref (ad (km + 15)), .ref (ad (km + 16)), .ref (ad (km + 17)), .ref (ad (km + 18)), .int (v 28), .int x, .int (v 30), .ref (ad (km + 19)), .ref (ad (km + 20)), .ref (ad (km + 21)), .int (v 34), .int (v 35), .int (v 36), .ref (ad (km + 22)), .ref (ad (km + 23))])) ws1) : ModF cI ad ws1 km (setV v 29 x) F := h.fld u
theorem ModF.fld_30 {cI : ClassId} {ad : Nat → Nat} {ws ws1 : va_W} {km : Nat} {v : Nat → Int32} {F : Nat → Nat → Int32} {x : Int32} (h : ModF cI ad ws km v F) (u : x_upd ws km (ad km, .inr (7, [.int (v 0), .int (v 1), .ref (ad (km + 1)), .ref (ad (km + 2)), .ref (ad (km + 3)), .ref (ad (km + 4)), .ref (ad (km + 5)), .ref (ad (km + 6)), .int (v 8), .int (v 9), .int (v 10), .int (v 11), .int (v 12), .int (v 13), .ref (ad (km + 7)), .ref (ad (km + 8)), .ref (ad (km + 9)), .ref (ad (km + 10)), .int (v 18), .ref (ad (km + 11)), .ref (ad (km + 12)), .ref (ad (km + 13)), .int (v 22), .ref (ad (km + 14)), .ref (ad (km + 15)), .ref (ad (km + 16)), .ref (ad (km + 17)), .ref (ad (km + 18)), .int (v 28), .int (v 29), .int x, .ref (ad (km + 19)), .ref (ad (km + 20)), .ref (ad (km + 21)), .int (v 34), .int (v 35), .int (v 36), .ref (ad (km + 22)), .ref (ad (km + 23))])) ws1) : ModF cI ad ws1 km (setV v 30 x) F := h.fld u
theorem ModF.fld_34 {cI : ClassId} {ad : Nat → Nat} {ws ws1 : va_W} {km : Nat} {v : Nat → Int32} {F : Nat → Nat → Int32} {x : Int32} (h : ModF cI ad ws km v F) (u : x_upd ws km (ad km, .inr (7, [.int (v 0), .int (v 1), .ref (ad (km + 1)), .ref (ad (km + 2)), .ref (ad (km + 3)), .ref (ad (km + 4)), .ref (ad (km + 5)), .ref (ad (km + 6)), .int (v 8), .int (v 9), .int (v 10), .int (v 11), .int (v 12), .int (v 13), .ref (ad (km + 7)), .ref (ad (km + 8)), .ref (ad (km + 9)), .ref (ad (km + 10)), .int (v 18), .ref (ad (km + 11)), .ref (ad (km + 12)), .ref (ad (km + 13)), .int (v 22), .ref (ad (km + 14)), .ref (ad (km + 15)), .ref (ad (km + 16)), .ref (ad (km + 17)), .ref (ad (km + 18)), .int (v 28), .int (v 29), .int (v 30), .ref (ad (km + 19)), .ref (ad (km + 20)), .ref (ad (km + 21)), .int x, .int (v 35), .int (v 36), .ref (ad (km + 22)), .ref (ad (km + 23))])) ws1) : ModF cI ad ws1 km (setV v 34 x) F := h.fld u
theorem ModF.fld_35 {cI : ClassId} {ad : Nat → Nat} {ws ws1 : va_W} {km : Nat} {v : Nat → Int32} {F : Nat → Nat → Int32} {x : Int32} (h : ModF cI ad ws km v F) (u : x_upd ws km (ad km, .inr (7, [.int (v 0), .int (v 1), .ref (ad (km + 1)), .ref (ad (km + 2)), .ref (ad (km + 3)), .ref (ad (km + 4)), .ref (ad (km + 5)), .ref (ad (km + 6)), .int (v 8), .int (v 9), .int (v 10), .int (v 11), .int (v 12), .int (v 13), .ref (ad (km + 7)), .ref (ad (km + 8)), .ref (ad (km + 9)), .ref (ad (km + 10)), .int (v 18), .ref (ad (km + 11)), .ref (ad (km + 12)), .ref (ad (km + 13)), .int (v 22), .ref (ad (km + 14)), .ref (ad (km + 15)), .ref (ad (km + 16)), .ref (ad (km + 17)), .ref (ad (km + 18)), .int (v 28), .int (v 29), .int (v 30), .ref (ad (km + 19)), .ref (ad (km + 20)), .ref (ad (km + 21)), .int (v 34), .int x, .int (v 36), .ref (ad (km + 22)), .ref (ad (km + 23))])) ws1) : ModF cI ad ws1 km (setV v 35 x) F := h.fld u
theorem ModF.fld_36 {cI : ClassId} {ad : Nat → Nat} {ws ws1 : va_W} {km : Nat} {v : Nat → Int32} {F : Nat → Nat → Int32} {x : Int32} (h : ModF cI ad ws km v F) (u : x_upd ws km (ad km, .inr (7, [.int (v 0), .int (v 1), .ref (ad (km + 1)), .ref (ad (km + 2)), .ref (ad (km + 3)), .ref (ad (km + 4)), .ref (ad (km + 5)), .ref (ad (km + 6)), .int (v 8), .int (v 9), .int (v 10), .int (v 11), .int (v 12), .int (v 13), .ref (ad (km + 7)), .ref (ad (km + 8)), .ref (ad (km + 9)), .ref (ad (km + 10)), .int (v 18), .ref (ad (km + 11)), .ref (ad (km + 12)), .ref (ad (km + 13)), .int (v 22), .ref (ad (km + 14)), .ref (ad (km + 15)), .ref (ad (km + 16)), .ref (ad (km + 17)), .ref (ad (km + 18)), .int (v 28), .int (v 29), .int (v 30), .ref (ad (km + 19)), .ref (ad (km + 20)), .ref (ad (km + 21)), .int (v 34), .int (v 35), .int x, .ref (ad (km + 22)), .ref (ad (km + 23))])) ws1) : ModF cI ad ws1 km (setV v 36 x) F := h.fld u
/-- the targets in the model's rows -/
def MGr (g : Gr) (v : Nat → Int32) (F : Nat → Nat → Int32) : Prop := GrOK g ∧ v 1 = nI g.length ∧ (∀ t, t < g.length → F 1 t = nI (gN g t / 10) ∧ F 2 t = nI (gN g t % 10) ∧ F 3 t = nI (gK g t)) ∧ (∀ t, t < 30 → F 4 t = nI (gD g t).length) ∧ ∀ t i, t < 30 → i < (gD g t).length → F 5 (8 * t + i) = nI ((gD g t).getD i 0)
/-- the model's state -/
def MR (q : QS) (v : Nat → Int32) (F : Nat → Nat → Int32) : Prop := MGr q.1 v F ∧ (v 8 = nI q.2.1.length ∧ q.2.1.length ≤ 80 ∧ (∀ (i : Nat) (h : i < q.2.1.length), F 6 i = nI q.2.1[i]) ∧ ∀ c ∈ q.2.1, 32 ≤ c ∧ c ≤ 126) ∧ (v 34 = nI q.2.2.1.length ∧ q.2.2.1.length ≤ 30 ∧ ∀ (i : Nat) (h : i < q.2.2.1.length), F 19 i = nI q.2.2.1[i]) ∧ v 35 = nI q.2.2.2.1 ∧ v 36 = q.2.2.2.2 ∧ (q.2.2.2.2 = -1 ∨ ∃ n : Nat, n < 60 ∧ q.2.2.2.2 = nI n)
def ModelAt (cI : ClassId) (ad : Nat → Nat) (ws : va_W) (km : Nat) (q : QS) : Prop := ∃ v F, ModF cI ad ws km v F ∧ MR q v F

set_option maxHeartbeats 4000000 in
set_option maxRecDepth 100000 in
theorem cM_isTarget (l : Launch) (D : va_G) (tys : List (ClassId × FieldType)) (A : Nat → Prop) (ws : va_W) (cI : ClassId) (hI : tys[0]? = some (cI, .int)) (ad : Nat → Nat) (km : Nat) (v : Nat → Int32) (F : Nat → Nat → Int32) (n : Nat) (tt : Int32) (hv1 : v 1 = nI n) (hM : ModF cI ad ws km v F) : x_Mi l yM_isTarget wM_isTarget (xR 0) D xCl tys A [.ref (ad km), .int tt] ws (fun r ws1 => r = b2i (blw tt (nI n)) ∧ ws = ws1) := by
  have hF : x_fr km (km + 24) ws ws := x_fr.rf
  refine x_enter (by decide) rfl (Nat.le_of_ble_eq_true rfl) (fun p e s m args below meth c ls hx hb hr hlk hml hown hnm hts hK hP hD hS hA hN hl => ?_)
  have hl : lv_has ls 2 [(0, .ref (ad km)), (1, .int tt)] := hl
  refine lv_iload_n hx hb dM_isTarget_0 rfl (lv_at hl 1 rfl) ?_
  refine lv_if_lt (tgt := 16) hx hb dM_isTarget_1 (by decide) (fun c1 => ?_) (fun c1 => ?_)
  · refine lv_iconst (v := 0) hx hb dM_isTarget_16 (by decide) ?_
    exact x_zret hx hb hr rfl hlk hK hP hD hS dM_isTarget_17 ⟨by rw [blw_neg c1]; rfl, rfl⟩
  · refine lv_iload_n hx hb dM_isTarget_4 rfl (lv_at hl 1 rfl) ?_
    refine lv_aload_n hx hb dM_isTarget_5 rfl (lv_at hl 0 rfl) ?_
    refine va_get (D := D) (cl := xCl) (ci := 7) (v := .int (v 1)) (C := rnM) (T := tbM) (N := 39) hx hb hts inM hown hK hP km hM.1 rfl 1 (by decide) (hts _ tw_618) (fun _ h9 => h9) rfl dM_isTarget_6 ?_
    refine lv_icmp_ge (tgt := 16) hx hb dM_isTarget_9 (by decide) (fun c9 => ?_) (fun c9 => ?_)
    · refine lv_iconst (v := 0) hx hb dM_isTarget_16 (by decide) ?_
      exact x_zret hx hb hr rfl hlk hK hP hD hS dM_isTarget_17 ⟨by rw [hv1] at c9; rw [blw_ge c9]; rfl, rfl⟩
    · refine lv_iconst (v := 1) hx hb dM_isTarget_12 (by decide) ?_
      refine lv_goto (tgt := 17) hx hb dM_isTarget_13 (by decide) ?_
      exact x_zret hx hb hr rfl hlk hK hP hD hS dM_isTarget_17 ⟨by rw [hv1] at c9; rw [blw_in c1 c9]; rfl, rfl⟩

set_option maxHeartbeats 4000000 in
set_option maxRecDepth 100000 in
theorem cM_work (l : Launch) (D : va_G) (tys : List (ClassId × FieldType)) (A : Nat → Prop) (ws : va_W) (cI : ClassId) (hI : tys[0]? = some (cI, .int)) (ad : Nat → Nat) (km : Nat) (v : Nat → Int32) (F : Nat → Nat → Int32) (q : QS) (hR : MR q v F) (hM : ModF cI ad ws km v F) : x_Mi l yM_work wM_work (xR 0) D xCl tys A [.ref (ad km)] ws (fun r ws1 => r = nI q.2.2.2.1 ∧ x_fr km (km + 24) ws ws1 ∧ ModelAt cI ad ws1 km q) := by
  have hF : x_fr km (km + 24) ws ws := x_fr.rf
  refine x_enter (by decide) rfl (Nat.le_of_ble_eq_true rfl) (fun p e s m args below meth c ls hx hb hr hlk hml hown hnm hts hK hP hD hS hA hN hl => ?_)
  have hl : lv_has ls 1 [(0, .ref (ad km))] := hl
  refine lv_aload_n hx hb dM_work_0 rfl (lv_at hl 0 rfl) ?_
  refine lv_iconst (v := 0) hx hb dM_work_1 (by decide) ?_
  refine va_put (D := D) (cl := xCl) (ci := 7) (v := .int 0) (ty := .int) (C := rnM) (T := tbM) (N := 39) hx hb hts inM tyM toM nmM hown hK hP hD hS km hM.1 rfl 0 (by decide) (hts _ tw_617) (fun _ h9 => h9) rfl (by decide +kernel) rfl rfl (Nat.le_of_ble_eq_true rfl) dM_work_2 (fun H locs hP hD hS => ?_)
  obtain ⟨ws_2, hu_1, hP, hD⟩ := x_gen hM.1 hP hD
  have hM : ModF cI ad ws_2 km (setV v 0 0) F := hM.fld_0 hu_1
  have hF := hF.tr (hu_1.fr (a := km) (b := km + 24) (by omega) (by omega))
  refine lv_aload_n hx hb dM_work_5 rfl (lv_at hl 0 rfl) ?_
  refine va_get (D := D) (cl := xCl) (ci := 7) (v := .int (v 35)) (C := rnM) (T := tbM) (N := 39) hx hb hts inM hown hK hP km hM.1 rfl 35 (by decide) (hts _ tw_652) (fun _ h9 => h9) rfl dM_work_6 ?_
  exact x_iret hx hb hr hlk hK hP hD hS dM_work_9 ⟨hR.2.2.2.1, hF, _, _, hM, hR⟩

set_option maxHeartbeats 4000000 in
set_option maxRecDepth 100000 in
theorem cM_answer (l : Launch) (D : va_G) (tys : List (ClassId × FieldType)) (A : Nat → Prop) (ws : va_W) (cI : ClassId) (hI : tys[0]? = some (cI, .int)) (ad : Nat → Nat) (km : Nat) (v : Nat → Int32) (F : Nat → Nat → Int32) (q : QS) (hR : MR q v F) (i : Int32) (hM : ModF cI ad ws km v F) : x_Mi l yM_answer wM_answer (xR 0) D xCl tys A [.ref (ad km), .int i] ws (fun r ws1 => r = atI q.2.2.1 i ∧ x_fr km (km + 24) ws ws1 ∧ ModelAt cI ad ws1 km q) := by
  have hF : x_fr km (km + 24) ws ws := x_fr.rf
  have hle := hR.2.2.1.2.1
  refine x_enter (by decide) rfl (Nat.le_of_ble_eq_true rfl) (fun p e s m args below meth c ls hx hb hr hlk hml hown hnm hts hK hP hD hS hA hN hl => ?_)
  have hl : lv_has ls 2 [(0, .ref (ad km)), (1, .int i)] := hl
  refine lv_aload_n hx hb dM_answer_0 rfl (lv_at hl 0 rfl) ?_
  refine lv_iconst (v := 0) hx hb dM_answer_1 (by decide) ?_
  refine va_put (D := D) (cl := xCl) (ci := 7) (v := .int 0) (ty := .int) (C := rnM) (T := tbM) (N := 39) hx hb hts inM tyM toM nmM hown hK hP hD hS km hM.1 rfl 0 (by decide) (hts _ tw_617) (fun _ h9 => h9) rfl (by decide +kernel) rfl rfl (Nat.le_of_ble_eq_true rfl) dM_answer_2 (fun H locs hP hD hS => ?_)
  obtain ⟨ws_2, hu_1, hP, hD⟩ := x_gen hM.1 hP hD
  have hM : ModF cI ad ws_2 km (setV v 0 0) F := hM.fld_0 hu_1
  have hF := hF.tr (hu_1.fr (a := km) (b := km + 24) (by omega) (by omega))
  refine lv_iload_n hx hb dM_answer_5 rfl (lv_at hl 1 rfl) ?_
  refine lv_if_lt (tgt := 17) hx hb dM_answer_6 (by decide) (fun c6 => ?_) (fun c6 => ?_)
  · refine lv_iconst (v := (-1)) hx hb dM_answer_17 (by decide) ?_
    refine lv_goto (tgt := 27) hx hb dM_answer_18 (by decide) ?_
    exact x_iret hx hb hr hlk hK hP hD hS dM_answer_27 ⟨(atI_neg c6).symm, hF, _, _, hM, hR⟩
  · refine lv_iload_n hx hb dM_answer_9 rfl (lv_at hl 1 rfl) ?_
    refine lv_aload_n hx hb dM_answer_10 rfl (lv_at hl 0 rfl) ?_
    refine va_get (D := D) (cl := xCl) (ci := 7) (v := .int (v 34)) (C := rnM) (T := tbM) (N := 39) hx hb hts inM hown hK hP km hM.1 rfl 34 (by decide) (hts _ tw_651) (fun _ h9 => h9) rfl dM_answer_11 ?_
    refine lv_icmp_lt (tgt := 21) hx hb dM_answer_14 (by decide) (fun c14 => ?_) (fun c14 => ?_)
    · obtain ⟨j, hj, ej⟩ : ∃ j : Nat, j < q.2.2.1.length ∧ i = nI j := ix_of (by omega) c6 (by rw [hR.2.2.1.1] at c14; rw [i32_le]; rw [i32_lt] at c14; omega)
      refine lv_aload_n hx hb dM_answer_21 rfl (lv_at hl 0 rfl) ?_
      refine va_get (D := D) (cl := xCl) (ci := 7) (v := .ref (ad (km + 19))) (C := rnM) (T := tbM) (N := 39) hx hb hts inM hown hK hP km hM.1 rfl 31 (by decide) (hts _ tw_648) (fun _ h9 => h9) rfl dM_answer_22 ?_
      refine lv_iload_n hx hb dM_answer_25 rfl (lv_at hl 1 rfl) ?_
      refine va_iald hx hb hK hP (km + 19) 0 (hM.a 19 30 rfl (by omega) (by omega)) hI (by rw [ej]; exact vp_in_nI (by omega) (by omega)) dM_answer_26 ?_
      refine lv_topi (fun v_3 ev_3 => ?_)
      exact x_iret hx hb hr hlk hK hP hD hS dM_answer_27 ⟨by rw [ev_3, ej, nI_clamp (by omega), atI_nI hj (by omega)]; exact hR.2.2.1.2.2 j hj, hF, _, _, hM, hR⟩
    · refine lv_iconst (v := (-1)) hx hb dM_answer_17 (by decide) ?_
      refine lv_goto (tgt := 27) hx hb dM_answer_18 (by decide) ?_
      exact x_iret hx hb hr hlk hK hP hD hS dM_answer_27 ⟨by rw [hR.2.2.1.1] at c14; rw [atI_big (by omega) (by rw [i32_le]; rw [i32_lt] at c14; omega)], hF, _, _, hM, hR⟩

theorem MR.typ {q : QS} {v v1 : Nat → Int32} {F F1 : Nat → Nat → Int32} {w : Nat} (h : MR q v F) (hw : 32 ≤ w ∧ w ≤ 126) (hlt : q.2.1.length < 80) (e0 : v1 = setV (setV v 0 0) 8 (v 8 + 1) := by rfl) (e1 : F1 = setF F 6 (upd (F 6) (v 8).toNatClampNeg (nI w)) := by rfl) : MR (q.1, typS q.2.1 w, q.2.2) v1 F1 := by
  subst e0 e1
  obtain ⟨hg, ⟨h1, h2, h3, h4⟩, hr⟩ := h
  have e : typS q.2.1 w = q.2.1 ++ [w] := if_pos (decide_eq_true ⟨hw.1, hw.2, hlt⟩)
  refine ⟨hg, ?_, hr⟩
  show (v 8 + 1 = nI (typS q.2.1 w).length ∧ _)
  rw [e, h1]
  refine ⟨by rw [nI_1, List.length_append]; rfl, by rw [List.length_append]; exact hlt, ?_, ?_⟩
  · intro i hi
    show upd (F 6) (nI q.2.1.length).toNatClampNeg (nI w) i = nI (q.2.1 ++ [w])[i]
    rw [nI_clamp (by omega)]
    unfold upd
    by_cases z : i = q.2.1.length
    · rw [if_pos z]; subst z; simp
    · have hi2 : i < q.2.1.length := by
        have : i < (q.2.1 ++ [w]).length := hi
        rw [List.length_append] at this
        simp only [List.length_singleton] at this
        omega
      rw [if_neg z, List.getElem_append_left hi2]
      exact h3 i hi2
  · intro c hc
    rcases List.mem_append.mp hc with z | z
    · exact h4 c z
    · rw [List.mem_singleton] at z; omega

set_option maxHeartbeats 4000000 in
set_option maxRecDepth 100000 in
theorem cM_type (l : Launch) (D : va_G) (tys : List (ClassId × FieldType)) (A : Nat → Prop) (ws : va_W) (cI : ClassId) (hI : tys[0]? = some (cI, .int)) (ad : Nat → Nat) (km : Nat) (v : Nat → Int32) (F : Nat → Nat → Int32) (q : QS) (hR : MR q v F) (w : Nat) (hw : w < 65536) (hM : ModF cI ad ws km v F) : x_Mi l yM_type wM_type (xR 0) D xCl tys A [.ref (ad km), .int (nI w)] ws (fun r ws1 => r = b2i (typC q.2.1 w) ∧ x_fr km (km + 24) ws ws1 ∧ ModelAt cI ad ws1 km (q.1, typS q.2.1 w, q.2.2)) := by
  have hF : x_fr km (km + 24) ws ws := x_fr.rf
  have hle := hR.2.1.2.1
  refine x_enter (by decide) rfl (Nat.le_of_ble_eq_true rfl) (fun p e s m args below meth c ls hx hb hr hlk hml hown hnm hts hK hP hD hS hA hN hl => ?_)
  have hl : lv_has ls 2 [(0, .ref (ad km)), (1, .int (nI w))] := hl
  refine lv_aload_n hx hb dM_type_0 rfl (lv_at hl 0 rfl) ?_
  refine lv_iconst (v := 0) hx hb dM_type_1 (by decide) ?_
  refine va_put (D := D) (cl := xCl) (ci := 7) (v := .int 0) (ty := .int) (C := rnM) (T := tbM) (N := 39) hx hb hts inM tyM toM nmM hown hK hP hD hS km hM.1 rfl 0 (by decide) (hts _ tw_617) (fun _ h9 => h9) rfl (by decide +kernel) rfl rfl (Nat.le_of_ble_eq_true rfl) dM_type_2 (fun H locs hP hD hS => ?_)
  obtain ⟨ws_2, hu_1, hP, hD⟩ := x_gen hM.1 hP hD
  have hM : ModF cI ad ws_2 km (setV v 0 0) F := hM.fld_0 hu_1
  have hF := hF.tr (hu_1.fr (a := km) (b := km + 24) (by omega) (by omega))
  refine lv_iload_n hx hb dM_type_5 rfl (lv_at hl 1 rfl) ?_
  refine lv_bipush (v := 32) hx hb dM_type_6 (by decide) ?_
  refine lv_icmp_lt (tgt := 26) hx hb dM_type_8 (by decide) (fun c8 => ?_) (fun c8 => ?_)
  · refine lv_iconst (v := 0) hx hb dM_type_26 (by decide) ?_
    exact x_zret hx hb hr rfl hlk hK hP hD hS dM_type_27 ⟨(by have nc8 : w < 32 := (by have q : nI w < nI 32 := c8; rw [nI_ltI (by omega) (by omega)] at q; exact q); have e : typC q.2.1 w = false := (by unfold typC; exact decide_eq_false (by omega)); rw [e]; rfl), hF, _, _, hM, (by have nc8 : w < 32 := (by have q : nI w < nI 32 := c8; rw [nI_ltI (by omega) (by omega)] at q; exact q); have e : typC q.2.1 w = false := (by unfold typC; exact decide_eq_false (by omega)); have e2 : typS q.2.1 w = q.2.1 := (by unfold typS; rw [e]; rfl); rw [e2]; exact hR)⟩
  · refine lv_iload_n hx hb dM_type_11 rfl (lv_at hl 1 rfl) ?_
    refine lv_bipush (v := 126) hx hb dM_type_12 (by decide) ?_
    refine lv_icmp_gt (tgt := 26) hx hb dM_type_14 (by decide) (fun c14 => ?_) (fun c14 => ?_)
    · refine lv_iconst (v := 0) hx hb dM_type_26 (by decide) ?_
      exact x_zret hx hb hr rfl hlk hK hP hD hS dM_type_27 ⟨(by have nc8 : ¬ w < 32 := (by have q : ¬ nI w < nI 32 := c8; rw [nI_ltI (by omega) (by omega)] at q; exact q); have nc14 : 126 < w := (by have q : nI 126 < nI w := c14; rw [nI_ltI (by omega) (by omega)] at q; exact q); have e : typC q.2.1 w = false := (by unfold typC; exact decide_eq_false (by omega)); rw [e]; rfl), hF, _, _, hM, (by have nc8 : ¬ w < 32 := (by have q : ¬ nI w < nI 32 := c8; rw [nI_ltI (by omega) (by omega)] at q; exact q); have nc14 : 126 < w := (by have q : nI 126 < nI w := c14; rw [nI_ltI (by omega) (by omega)] at q; exact q); have e : typC q.2.1 w = false := (by unfold typC; exact decide_eq_false (by omega)); have e2 : typS q.2.1 w = q.2.1 := (by unfold typS; rw [e]; rfl); rw [e2]; exact hR)⟩
    · refine lv_aload_n hx hb dM_type_17 rfl (lv_at hl 0 rfl) ?_
      refine va_get (D := D) (cl := xCl) (ci := 7) (v := .int (v 8)) (C := rnM) (T := tbM) (N := 39) hx hb hts inM hown hK hP km hM.1 rfl 8 (by decide) (hts _ tw_625) (fun _ h9 => h9) rfl dM_type_18 ?_
      refine lv_bipush (v := 80) hx hb dM_type_21 (by decide) ?_
      refine lv_icmp_ne (tgt := 28) hx hb dM_type_23 (by decide) (fun c23 => ?_) (fun c23 => ?_)
      · have hlt : q.2.1.length < 80 := by rw [hR.2.1.1] at c23; have z : ¬ nI q.2.1.length = nI 80 := c23; rw [nI_eq (by omega) (by omega)] at z; omega
        have hv8 := hR.2.1.1
        refine lv_aload_n hx hb dM_type_28 rfl (lv_at hl 0 rfl) ?_
        refine va_get (D := D) (cl := xCl) (ci := 7) (v := .ref (ad (km + 6))) (C := rnM) (T := tbM) (N := 39) hx hb hts inM hown hK hP km hM.1 rfl 7 (by decide) (hts _ tw_624) (fun _ h9 => h9) rfl dM_type_29 ?_
        refine lv_aload_n hx hb dM_type_32 rfl (lv_at hl 0 rfl) ?_
        refine va_get (D := D) (cl := xCl) (ci := 7) (v := .int (v 8)) (C := rnM) (T := tbM) (N := 39) hx hb hts inM hown hK hP km hM.1 rfl 8 (by decide) (hts _ tw_625) (fun _ h9 => h9) rfl dM_type_33 ?_
        refine lv_iload_n hx hb dM_type_36 rfl (lv_at hl 1 rfl) ?_
        refine va_iast hx hb hK hP hD hS (km + 6) 0 (hM.a 6 80 rfl (by omega) (by omega)) hI (by rw [hv8]; exact vp_in_nI (by omega) (by omega)) dM_type_37 (fun H locs hP hD hS => ?_)
        obtain ⟨ws_4, hu_3, hP, hD⟩ := x_gen (hM.a 6 80 rfl (by omega) (by omega)) hP hD
        have hM : ModF cI ad ws_4 km (setV v 0 0) (setF F 6 ((upd (F 6) ((v 8)).toNatClampNeg ((nI w))))) := hM.arr 6 80 rfl (by omega) (by omega) hu_3
        have hF := hF.tr (hu_3.fr (a := km) (b := km + 24) (by omega) (by omega))
        refine lv_aload_n hx hb dM_type_38 rfl (lv_at hl 0 rfl) ?_
        refine lv_dup hx hb dM_type_39 rfl ?_
        refine va_get (D := D) (cl := xCl) (ci := 7) (v := .int (v 8)) (C := rnM) (T := tbM) (N := 39) hx hb hts inM hown hK hP km hM.1 rfl 8 (by decide) (hts _ tw_625) (fun _ h9 => h9) rfl dM_type_40 ?_
        refine lv_iconst (v := 1) hx hb dM_type_43 (by decide) ?_
        refine lv_iadd hx hb dM_type_44 ?_
        refine lv_topi (fun v_5 ev_5 => ?_)
        obtain rfl := ev_5
        refine va_put (D := D) (cl := xCl) (ci := 7) (v := .int (v 8 + 1)) (ty := .int) (C := rnM) (T := tbM) (N := 39) hx hb hts inM tyM toM nmM hown hK hP hD hS km hM.1 rfl 8 (by decide) (hts _ tw_625) (fun _ h9 => h9) rfl (by decide +kernel) rfl rfl (Nat.le_of_ble_eq_true rfl) dM_type_45 (fun H locs hP hD hS => ?_)
        obtain ⟨ws_7, hu_6, hP, hD⟩ := x_gen hM.1 hP hD
        have hM : ModF cI ad ws_7 km (setV (setV v 0 0) 8 ((v 8 + 1))) (setF F 6 ((upd (F 6) ((v 8)).toNatClampNeg ((nI w))))) := hM.fld_8 hu_6
        have hF := hF.tr (hu_6.fr (a := km) (b := km + 24) (by omega) (by omega))
        refine lv_iconst (v := 1) hx hb dM_type_48 (by decide) ?_
        exact x_zret hx hb hr rfl hlk hK hP hD hS dM_type_49 ⟨(by have nc8 : ¬ w < 32 := (by have q : ¬ nI w < nI 32 := c8; rw [nI_ltI (by omega) (by omega)] at q; exact q); have nc14 : ¬ 126 < w := (by have q : ¬ nI 126 < nI w := c14; rw [nI_ltI (by omega) (by omega)] at q; exact q); rw [show typC q.2.1 w = true from decide_eq_true (by omega)]; rfl), hF, _, _, hM, (by have nc8 : ¬ w < 32 := (by have q : ¬ nI w < nI 32 := c8; rw [nI_ltI (by omega) (by omega)] at q; exact q); have nc14 : ¬ 126 < w := (by have q : ¬ nI 126 < nI w := c14; rw [nI_ltI (by omega) (by omega)] at q; exact q); exact MR.typ hR (by omega) hlt)⟩
      · refine lv_iconst (v := 0) hx hb dM_type_26 (by decide) ?_
        exact x_zret hx hb hr rfl hlk hK hP hD hS dM_type_27 ⟨(by have nc8 : ¬ w < 32 := (by have q : ¬ nI w < nI 32 := c8; rw [nI_ltI (by omega) (by omega)] at q; exact q); have nc14 : ¬ 126 < w := (by have q : ¬ nI 126 < nI w := c14; rw [nI_ltI (by omega) (by omega)] at q; exact q); rw [hR.2.1.1] at c23; have nc23 : q.2.1.length = 80 := (by have z : nI q.2.1.length = nI 80 := c23; rw [nI_eq (by omega) (by omega)] at z; exact z); have e : typC q.2.1 w = false := (by unfold typC; exact decide_eq_false (by omega)); rw [e]; rfl), hF, _, _, hM, (by have nc8 : ¬ w < 32 := (by have q : ¬ nI w < nI 32 := c8; rw [nI_ltI (by omega) (by omega)] at q; exact q); have nc14 : ¬ 126 < w := (by have q : ¬ nI 126 < nI w := c14; rw [nI_ltI (by omega) (by omega)] at q; exact q); rw [hR.2.1.1] at c23; have nc23 : q.2.1.length = 80 := (by have z : nI q.2.1.length = nI 80 := c23; rw [nI_eq (by omega) (by omega)] at z; exact z); have e : typC q.2.1 w = false := (by unfold typC; exact decide_eq_false (by omega)); have e2 : typS q.2.1 w = q.2.1 := (by unfold typS; rw [e]; rfl); rw [e2]; exact hR)⟩
