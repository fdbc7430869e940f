/-! ===== Int32 by its bits: bt x i ===== -/
def bt (x : Int32) (i : Nat) : Bool := x.toBitVec.getLsbD i
theorem b_ext {x y : Int32} (h : ∀ i, i < 32 → bt x i = bt y i) : x = y := Int32.toBitVec_inj.mp (BitVec.eq_of_getLsbD_eq (fun i hi => h i hi))
theorem b_or (x y : Int32) (i : Nat) : bt (x ||| y) i = (bt x i || bt y i) := by unfold bt; rw [Int32.toBitVec_or, BitVec.getLsbD_or]
theorem b_and (x y : Int32) (i : Nat) : bt (x &&& y) i = (bt x i && bt y i) := by unfold bt; rw [Int32.toBitVec_and, BitVec.getLsbD_and]
theorem b_xor (x y : Int32) (i : Nat) : bt (x ^^^ y) i = (bt x i ^^ bt y i) := by unfold bt; rw [Int32.toBitVec_xor, BitVec.getLsbD_xor]
theorem b_big {x : Int32} {i : Nat} (h : 32 ≤ i) : bt x i = false := BitVec.getLsbD_of_ge _ _ h
theorem b_255 (i : Nat) : bt 255 i = decide (i < 8) := by
  rcases Nat.lt_or_ge i 32 with h | h
  · exact (by decide +kernel : ∀ i, i < 32 → bt 255 i = decide (i < 8)) i h
  · rw [b_big h, decide_eq_false (by omega)]
theorem b_65535 (i : Nat) : bt 65535 i = decide (i < 16) := by
  rcases Nat.lt_or_ge i 32 with h | h
  · exact (by decide +kernel : ∀ i, i < 32 → bt 65535 i = decide (i < 16)) i h
  · rw [b_big h, decide_eq_false (by omega)]
theorem b_m1 : ∀ i, i < 32 → bt (-1) i = true := by decide +kernel
theorem b_0 (i : Nat) : bt 0 i = false := BitVec.getLsbD_zero
theorem s_l : ∀ n, n < 32 → ((nI n &&& 31).toBitVec.smod 32).toNat = n := by decide +kernel
theorem s_u : ∀ n, n < 32 → (((nI n).toUInt32 &&& Int32.toUInt32 31).toBitVec % 32).toNat = n := by decide +kernel
theorem b_shl (n : Nat) (hn : n < 32) (x : Int32) {i : Nat} (hi : i < 32) : bt (x <<< (nI n &&& 31)) i = (decide (n ≤ i) && bt x (i - n)) := by
  unfold bt
  rw [Int32.toBitVec_shiftLeft]
  show (x.toBitVec <<< ((nI n &&& 31).toBitVec.smod 32).toNat).getLsbD i = _
  rw [s_l n hn, BitVec.getLsbD_shiftLeft]
  rcases Nat.lt_or_ge i n with h | h
  · simp [h, Nat.not_le.mpr h]
  · simp [hi, h, Nat.not_lt.mpr h]
theorem b_ushr (n : Nat) (hn : n < 32) (x : Int32) (i : Nat) : bt ((x.toUInt32 >>> ((nI n).toUInt32 &&& Int32.toUInt32 31)).toInt32) i = bt x (n + i) := by
  show (x.toUInt32 >>> ((nI n).toUInt32 &&& Int32.toUInt32 31)).toBitVec.getLsbD i = x.toUInt32.toBitVec.getLsbD (n + i)
  rw [UInt32.toBitVec_shiftRight]
  show (x.toUInt32.toBitVec >>> (((nI n).toUInt32 &&& Int32.toUInt32 31).toBitVec % 32).toNat).getLsbD i = _
  rw [s_u n hn, BitVec.getLsbD_ushiftRight]
theorem b_sshr (n : Nat) (hn : n < 32) (x : Int32) {i : Nat} (hi : i < 32) : bt (x >>> (nI n &&& 31)) i = if n + i < 32 then bt x (n + i) else bt x 31 := by
  unfold bt
  rw [Int32.toBitVec_shiftRight]
  show (x.toBitVec.sshiftRight ((nI n &&& 31).toBitVec.smod 32).toNat).getLsbD i = _
  rw [s_l n hn, BitVec.getLsbD_sshiftRight, BitVec.msb_eq_getLsbD_last]
  simp [hi]
theorem b_shl8 (x : Int32) {i : Nat} (hi : i < 32) : bt (x <<< ((8 : Int32) &&& 31)) i = (decide (8 ≤ i) && bt x (i - 8)) := b_shl 8 (by omega) x hi
theorem b_shl16 (x : Int32) {i : Nat} (hi : i < 32) : bt (x <<< ((16 : Int32) &&& 31)) i = (decide (16 ≤ i) && bt x (i - 16)) := b_shl 16 (by omega) x hi
theorem b_shl24 (x : Int32) {i : Nat} (hi : i < 32) : bt (x <<< ((24 : Int32) &&& 31)) i = (decide (24 ≤ i) && bt x (i - 24)) := b_shl 24 (by omega) x hi
theorem b_sshr8 (x : Int32) {i : Nat} (hi : i < 32) : bt (x >>> ((8 : Int32) &&& 31)) i = if 8 + i < 32 then bt x (8 + i) else bt x 31 := b_sshr 8 (by omega) x hi
-- ===== bits of masks =====
theorem b_1 : ∀ i, i < 32 → bt 1 i = decide (i = 0) := by decide +kernel
theorem b_sh1 {t i : Nat} (ht : t < 32) (hi : i < 32) : bt ((1 : Int32) <<< (nI t &&& 31)) i = decide (i = t) := by
  rw [b_shl t ht 1 hi]
  by_cases h : t ≤ i
  · rw [b_1 (i - t) (by omega)]
    simp only [h, decide_true, Bool.true_and]
    by_cases e : i = t
    · rw [decide_eq_true e, decide_eq_true (by omega)]
    · rw [decide_eq_false e, decide_eq_false (by omega)]
  · rw [decide_eq_false h, decide_eq_false (by omega)]; rfl
theorem b_not (x : Int32) {i : Nat} (hi : i < 32) : bt (x ^^^ (-1)) i = !(bt x i) := by
  rw [b_xor, b_m1 i hi]; cases bt x i <;> rfl
theorem b_lsb (x : Int32) : x &&& 1 = 0 ↔ bt x 0 = false := by
  constructor
  · intro h
    have h1 : bt (x &&& 1) 0 = bt 0 0 := by rw [h]
    rw [b_and, b_0, b_1 0 (by omega)] at h1
    simpa using h1
  · intro h
    apply b_ext
    intro i hi
    rw [b_and, b_0, b_1 i hi]
    by_cases e : i = 0
    · subst e; rw [h]; rfl
    · rw [decide_eq_false e]; cases bt x i <;> rfl
/-- (m >>> t & 1) is 0 just where bit t isn't set -/
theorem b_test (m : Int32) {t : Nat} (ht : t < 32) : ((m.toUInt32 >>> ((nI t).toUInt32 &&& Int32.toUInt32 31)).toInt32 &&& 1) = 0 ↔ bt m t = false := by
  rw [b_lsb, b_ushr t ht]; rfl
def b2i (b : Bool) : Int32 := if b = true then 1 else 0
theorem b2i_t : b2i true = 1 := rfl
theorem b2i_f : b2i false = 0 := rfl
theorem b2i_0 {b : Bool} : b2i b = 0 ↔ b = false := by cases b <;> decide
theorem b2i_n0 {b : Bool} : ¬ b2i b = 0 ↔ b = true := by cases b <;> decide
theorem b2i_nar (b : Bool) : narrow .boolean (.int (b2i b)) = .int (b2i b) := by cases b <;> rfl
theorem i32_lt (x y : Int32) : x < y ↔ x.toInt < y.toInt := Int32.lt_iff_toInt_lt
theorem i32_le (x y : Int32) : x ≤ y ↔ x.toInt ≤ y.toInt := Int32.le_iff_toInt_le
theorem i32_eq (x y : Int32) : x = y ↔ x.toInt = y.toInt := ⟨fun h => by rw [h], fun h => Int32.toInt_inj.mp h⟩
theorem i32_30 : (30 : Int32).toInt = 30 := rfl
theorem i32_0 : (0 : Int32).toInt = 0 := rfl
/-- is t a target's number, and its bit set -/
def isInB (m t : Int32) : Bool := decide (0 ≤ t.toInt) && decide (t.toInt < 30) && bt m t.toInt.toNat
theorem isIn_neg {m t : Int32} (h : t < 0) : isInB m t = false := by
  rw [i32_lt, i32_0] at h
  unfold isInB
  rw [decide_eq_false (by omega)]; rfl
theorem isIn_big {m t : Int32} (h : 30 ≤ t) : isInB m t = false := by
  rw [i32_le, i32_30] at h
  unfold isInB
  rw [decide_eq_false (p := t.toInt < 30) (by omega)]
  cases decide (0 ≤ t.toInt) <;> rfl
theorem isIn_nI (m : Int32) {t : Nat} (h : t < 30) : isInB m (nI t) = bt m t := by
  unfold isInB
  rw [nI_toInt (by omega), decide_eq_true (by omega), decide_eq_true (by omega)]
  simp
theorem isIn_bit {m t : Int32} (h1 : ¬ t < 0) (h2 : ¬ 30 ≤ t) : ((m.toUInt32 >>> (t.toUInt32 &&& Int32.toUInt32 31)).toInt32 &&& 1) = 0 ↔ isInB m t = false := by
  obtain ⟨j, hj, rfl⟩ := nI_of h1
  have h3 : j < 30 := by
    rw [i32_le, i32_30, nI_toInt hj] at h2
    omega
  rw [isIn_nI m h3]
  exact b_test m (by omega)
theorem i30_of {t : Int32} (h1 : ¬ t < 0) (h2 : ¬ 30 ≤ t) : ∃ j : Nat, j < 30 ∧ t = nI j := by
  obtain ⟨j, hj, rfl⟩ := nI_of h1
  refine ⟨j, ?_, rfl⟩
  rw [i32_le, i32_30, nI_toInt hj] at h2
  omega
/-- no more than n different numbers below n -/
theorem nodup_len : ∀ (n : Nat) (L : List Nat), L.Nodup → (∀ t ∈ L, t < n) → L.length ≤ n := by
  intro n
  induction n with
  | zero =>
    intro L _ h
    cases L with
    | nil => exact Nat.le_refl _
    | cons a t => exact absurd (h a List.mem_cons_self) (by omega)
  | succ n ih =>
    intro L hn h
    have h2 := ih (L.erase n) (hn.erase n) (fun t ht => by
      have h3 := (hn.mem_erase_iff).mp ht
      have h4 := h t h3.2
      omega)
    have h5 : L.length ≤ (L.erase n).length + 1 := by
      by_cases hm : n ∈ L
      · rw [List.length_erase_of_mem hm]; omega
      · rw [List.erase_of_not_mem hm]; omega
    omega
-- ===== the pure picture of a Row =====
/-- the list behind add(t) -/
def addI (L : List Nat) (t : Int32) : List Nat := if 0 ≤ t.toInt ∧ t.toInt < 30 ∧ t.toInt.toNat ∉ L then L ++ [t.toInt.toNat] else L
theorem addI_neg {L : List Nat} {t : Int32} (h : t < 0) : addI L t = L := by
  rw [i32_lt, i32_0] at h
  unfold addI
  rw [if_neg (by omega)]
theorem addI_big {L : List Nat} {t : Int32} (h : 30 ≤ t) : addI L t = L := by
  rw [i32_le, i32_30] at h
  unfold addI
  rw [if_neg (by omega)]
theorem addI_nI (L : List Nat) {t : Nat} (h : t < 30) : addI L (nI t) = if t ∈ L then L else L ++ [t] := by
  unfold addI
  rw [nI_toInt (by omega)]
  by_cases hm : t ∈ L
  · rw [if_pos hm, if_neg (by simp [hm])]
  · rw [if_neg hm, if_pos (by simp [hm]; omega)]; simp
/-- the cells k, k + 1 are a Row with the list L, its array being f -/
def RowF (cI : ClassId) (ad : Nat → Nat) (ws : va_W) (k : Nat) (L : List Nat) (f : Nat → Int32) : Prop :=
  ∃ mk : Int32, ws[k]? = some (ad k, .inr (2, [.ref (ad (k + 1)), .int (nI L.length), .int mk])) ∧ ws[k + 1]? = some (ad (k + 1), .inl (cI, 30, .inl f)) ∧
    (∀ (i : Nat) (h : i < L.length), f i = nI L[i]) ∧ (∀ i, i < 32 → bt mk i = decide (i ∈ L)) ∧ L.Nodup ∧ ∀ t ∈ L, t < 30
def RowAt (cI : ClassId) (ad : Nat → Nat) (ws : va_W) (k : Nat) (L : List Nat) : Prop := ∃ f, RowF cI ad ws k L f
theorem RowF.le {cI : ClassId} {ad : Nat → Nat} {ws : va_W} {k : Nat} {L : List Nat} {f : Nat → Int32} (h : RowF cI ad ws k L f) : L.length ≤ 30 := by
  obtain ⟨mk, -, -, -, -, h1, h2⟩ := h
  exact nodup_len 30 L h1 h2
theorem RowAt.le {cI : ClassId} {ad : Nat → Nat} {ws : va_W} {k : Nat} {L : List Nat} (h : RowAt cI ad ws k L) : L.length ≤ 30 := h.elim fun _ h => h.le
theorem RowAt.lt {cI : ClassId} {ad : Nat → Nat} {ws : va_W} {k : Nat} {L : List Nat} (h : RowAt cI ad ws k L) : ∀ t ∈ L, t < 30 := by
  obtain ⟨f, mk, -, -, -, -, h1, h2⟩ := h
  exact h2
theorem RowAt.nd {cI : ClassId} {ad : Nat → Nat} {ws : va_W} {k : Nat} {L : List Nat} (h : RowAt cI ad ws k L) : L.Nodup := by
  obtain ⟨f, mk, -, -, -, -, h1, h2⟩ := h
  exact h1
theorem RowAt.obj {cI : ClassId} {ad : Nat → Nat} {ws : va_W} {k : Nat} {L : List Nat} (h : RowAt cI ad ws k L) : ∃ fs, ws[k]? = some (ad k, .inr (2, fs)) := by
  obtain ⟨f, mk, h0, -⟩ := h
  exact ⟨_, h0⟩
/-- nothing changed but the cells k, k + 1 -/
def x_two (k : Nat) (ws ws1 : va_W) : Prop := ∀ j, j ≠ k → j ≠ k + 1 → ws1[j]? = ws[j]?
theorem x_two.rf {k : Nat} {ws : va_W} : x_two k ws ws := fun _ _ _ => rfl
theorem x_two.tr {k : Nat} {a b c : va_W} (h1 : x_two k a b) (h2 : x_two k b c) : x_two k a c := fun j h h' => (h2 j h h').trans (h1 j h h')
theorem RowAt.keep {cI : ClassId} {ad : Nat → Nat} {ws ws1 : va_W} {k k2 : Nat} {L : List Nat} (h : RowAt cI ad ws k L) (h2 : x_two k2 ws ws1) (a1 : k ≠ k2) (a2 : k ≠ k2 + 1) (a3 : k + 1 ≠ k2) : RowAt cI ad ws1 k L := by
  obtain ⟨f, mk, h0, h1, r⟩ := h
  exact ⟨f, mk, (h2 k a1 a2).trans h0, (h2 (k + 1) a3 (by omega)).trans h1, r⟩
def addN (L : List Nat) (t : Nat) : List Nat := if t ∈ L then L else L ++ [t]
theorem addI_N (L : List Nat) {t : Nat} (h : t < 30) : addI L (nI t) = addN L t := addI_nI L h
theorem addI_m1 (L : List Nat) : addI L (-1) = L := addI_neg (by decide)
def addL (L M : List Nat) : List Nat := M.foldl addN L
theorem take_foldl {α β : Type} (g : β → α → β) (b : β) (M : List α) {i : Nat} (h : i < M.length) : (M.take (i + 1)).foldl g b = g ((M.take i).foldl g b) M[i] := by
  rw [List.take_succ_eq_append_getElem h, List.foldl_append]; rfl
