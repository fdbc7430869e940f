-- ===== the value of a word, as the model reads it =====
def wv (cs : List Nat) (a : Nat) : Nat → Nat
  | 0 => 0
  | n + 1 => wv cs a n * 256 + chN cs (a + n)
theorem wv_l (x c : Nat) (h : c < 256) : (Int64.ofNat x <<< (8 : Int64)) ||| Int64.ofNat c = Int64.ofNat (x * 256 + c) := by
  apply Int64.toBitVec_inj.mp
  rw [Int64.toBitVec_or, Int64.toBitVec_shiftLeft]
  show (BitVec.ofNat 64 x <<< (8 : Nat)) ||| BitVec.ofNat 64 c = BitVec.ofNat 64 (x * 256 + c)
  apply BitVec.eq_of_getLsbD_eq
  intro i hi
  rw [BitVec.getLsbD_or, BitVec.getLsbD_shiftLeft, BitVec.getLsbD_ofNat, BitVec.getLsbD_ofNat, BitVec.getLsbD_ofNat, show x * 256 + c = 2 ^ 8 * x + c by omega, Nat.testBit_two_pow_mul_add x (show c < 2 ^ 8 from h)]
  by_cases h8 : i < 8
  · rw [if_pos h8]; simp [h8, hi]
  · rw [if_neg h8]
    have : c.testBit i = false := Nat.testBit_lt_two_pow (Nat.lt_of_lt_of_le h (Nat.le_trans (by decide : 256 ≤ 2 ^ 8) (Nat.pow_le_pow_right (by omega) (by omega))))
    simp [h8, hi, this]
    intro _; omega
theorem chq {w c : Nat} (hw : w < 1000) (hc : c < 1000) {x : Int32} (h : x = nI c) : nI w = x ↔ w = c := by rw [h, nI_eq (by omega) (by omega)]

theorem sp_0 {cs : List Nat} {a z : Nat} (hc : ∀ j, 32 ≤ chN cs j ∧ chN cs j ≤ 126) : spB cs 0 a z = true ↔ (z = 3 ∧ chN cs (a + 0) = 97 ∧ chN cs (a + 1) = 108 ∧ chN cs (a + 2) = 108) := by
  show (decide (3 = z) && (((true && decide (nI (chN cs (a + 0)) = sch 0 0)) && decide (nI (chN cs (a + 1)) = sch 0 1)) && decide (nI (chN cs (a + 2)) = sch 0 2))) = true ↔ _
  have hx : ∀ j, chN cs j < 1000 := fun j => by have := hc j; omega
  simp only [Bool.and_eq_true, decide_eq_true_eq, chq (hx (a + 0)) (show 97 < 1000 by omega) (show sch 0 0 = nI 97 by decide), chq (hx (a + 1)) (show 108 < 1000 by omega) (show sch 0 1 = nI 108 by decide), chq (hx (a + 2)) (show 108 < 1000 by omega) (show sch 0 2 = nI 108 by decide)]
  constructor
  · rintro ⟨h0, ⟨⟨⟨_, q0⟩, q1⟩, q2⟩⟩
    exact ⟨h0.symm, q0, q1, q2⟩
  · rintro ⟨h0, q0, q1, q2⟩
    exact ⟨h0.symm, ⟨⟨⟨trivial, q0⟩, q1⟩, q2⟩⟩
theorem sp_1 {cs : List Nat} {a z : Nat} (hc : ∀ j, 32 ≤ chN cs j ∧ chN cs j ≤ 126) : spB cs 1 a z = true ↔ (z = 4 ∧ chN cs (a + 0) = 100 ∧ chN cs (a + 1) = 101 ∧ chN cs (a + 2) = 112 ∧ chN cs (a + 3) = 115) := by
  show (decide (4 = z) && ((((true && decide (nI (chN cs (a + 0)) = sch 1 0)) && decide (nI (chN cs (a + 1)) = sch 1 1)) && decide (nI (chN cs (a + 2)) = sch 1 2)) && decide (nI (chN cs (a + 3)) = sch 1 3))) = true ↔ _
  have hx : ∀ j, chN cs j < 1000 := fun j => by have := hc j; omega
  simp only [Bool.and_eq_true, decide_eq_true_eq, chq (hx (a + 0)) (show 100 < 1000 by omega) (show sch 1 0 = nI 100 by decide), chq (hx (a + 1)) (show 101 < 1000 by omega) (show sch 1 1 = nI 101 by decide), chq (hx (a + 2)) (show 112 < 1000 by omega) (show sch 1 2 = nI 112 by decide), chq (hx (a + 3)) (show 115 < 1000 by omega) (show sch 1 3 = nI 115 by decide)]
  constructor
  · rintro ⟨h0, ⟨⟨⟨⟨_, q0⟩, q1⟩, q2⟩, q3⟩⟩
    exact ⟨h0.symm, q0, q1, q2, q3⟩
  · rintro ⟨h0, q0, q1, q2, q3⟩
    exact ⟨h0.symm, ⟨⟨⟨⟨trivial, q0⟩, q1⟩, q2⟩, q3⟩⟩
theorem sp_2 {cs : List Nat} {a z : Nat} (hc : ∀ j, 32 ≤ chN cs j ∧ chN cs j ≤ 126) : spB cs 2 a z = true ↔ (z = 5 ∧ chN cs (a + 0) = 117 ∧ chN cs (a + 1) = 115 ∧ chN cs (a + 2) = 101 ∧ chN cs (a + 3) = 114 ∧ chN cs (a + 4) = 115) := by
  show (decide (5 = z) && (((((true && decide (nI (chN cs (a + 0)) = sch 2 0)) && decide (nI (chN cs (a + 1)) = sch 2 1)) && decide (nI (chN cs (a + 2)) = sch 2 2)) && decide (nI (chN cs (a + 3)) = sch 2 3)) && decide (nI (chN cs (a + 4)) = sch 2 4))) = true ↔ _
  have hx : ∀ j, chN cs j < 1000 := fun j => by have := hc j; omega
  simp only [Bool.and_eq_true, decide_eq_true_eq, chq (hx (a + 0)) (show 117 < 1000 by omega) (show sch 2 0 = nI 117 by decide), chq (hx (a + 1)) (show 115 < 1000 by omega) (show sch 2 1 = nI 115 by decide), chq (hx (a + 2)) (show 101 < 1000 by omega) (show sch 2 2 = nI 101 by decide), chq (hx (a + 3)) (show 114 < 1000 by omega) (show sch 2 3 = nI 114 by decide), chq (hx (a + 4)) (show 115 < 1000 by omega) (show sch 2 4 = nI 115 by decide)]
  constructor
  · rintro ⟨h0, ⟨⟨⟨⟨⟨_, q0⟩, q1⟩, q2⟩, q3⟩, q4⟩⟩
    exact ⟨h0.symm, q0, q1, q2, q3, q4⟩
  · rintro ⟨h0, q0, q1, q2, q3, q4⟩
    exact ⟨h0.symm, ⟨⟨⟨⟨⟨trivial, q0⟩, q1⟩, q2⟩, q3⟩, q4⟩⟩
theorem sp_3 {cs : List Nat} {a z : Nat} (hc : ∀ j, 32 ≤ chN cs j ∧ chN cs j ≤ 126) : spB cs 3 a z = true ↔ (z = 3 ∧ chN cs (a + 0) = 119 ∧ chN cs (a + 1) = 97 ∧ chN cs (a + 2) = 121) := by
  show (decide (3 = z) && (((true && decide (nI (chN cs (a + 0)) = sch 3 0)) && decide (nI (chN cs (a + 1)) = sch 3 1)) && decide (nI (chN cs (a + 2)) = sch 3 2))) = true ↔ _
  have hx : ∀ j, chN cs j < 1000 := fun j => by have := hc j; omega
  simp only [Bool.and_eq_true, decide_eq_true_eq, chq (hx (a + 0)) (show 119 < 1000 by omega) (show sch 3 0 = nI 119 by decide), chq (hx (a + 1)) (show 97 < 1000 by omega) (show sch 3 1 = nI 97 by decide), chq (hx (a + 2)) (show 121 < 1000 by omega) (show sch 3 2 = nI 121 by decide)]
  constructor
  · rintro ⟨h0, ⟨⟨⟨_, q0⟩, q1⟩, q2⟩⟩
    exact ⟨h0.symm, q0, q1, q2⟩
  · rintro ⟨h0, q0, q1, q2⟩
    exact ⟨h0.symm, ⟨⟨⟨trivial, q0⟩, q1⟩, q2⟩⟩
theorem sp_4 {cs : List Nat} {a z : Nat} (hc : ∀ j, 32 ≤ chN cs j ∧ chN cs j ≤ 126) : spB cs 4 a z = true ↔ (z = 4 ∧ chN cs (a + 0) = 107 ∧ chN cs (a + 1) = 105 ∧ chN cs (a + 2) = 110 ∧ chN cs (a + 3) = 100) := by
  show (decide (4 = z) && ((((true && decide (nI (chN cs (a + 0)) = sch 4 0)) && decide (nI (chN cs (a + 1)) = sch 4 1)) && decide (nI (chN cs (a + 2)) = sch 4 2)) && decide (nI (chN cs (a + 3)) = sch 4 3))) = true ↔ _
  have hx : ∀ j, chN cs j < 1000 := fun j => by have := hc j; omega
  simp only [Bool.and_eq_true, decide_eq_true_eq, chq (hx (a + 0)) (show 107 < 1000 by omega) (show sch 4 0 = nI 107 by decide), chq (hx (a + 1)) (show 105 < 1000 by omega) (show sch 4 1 = nI 105 by decide), chq (hx (a + 2)) (show 110 < 1000 by omega) (show sch 4 2 = nI 110 by decide), chq (hx (a + 3)) (show 100 < 1000 by omega) (show sch 4 3 = nI 100 by decide)]
  constructor
  · rintro ⟨h0, ⟨⟨⟨⟨_, q0⟩, q1⟩, q2⟩, q3⟩⟩
    exact ⟨h0.symm, q0, q1, q2, q3⟩
  · rintro ⟨h0, q0, q1, q2, q3⟩
    exact ⟨h0.symm, ⟨⟨⟨⟨trivial, q0⟩, q1⟩, q2⟩, q3⟩⟩
theorem sp_5 {cs : List Nat} {a z : Nat} (hc : ∀ j, 32 ≤ chN cs j ∧ chN cs j ≤ 126) : spB cs 5 a z = true ↔ (z = 5 ∧ chN cs (a + 0) = 116 ∧ chN cs (a + 1) = 101 ∧ chN cs (a + 2) = 115 ∧ chN cs (a + 3) = 116 ∧ chN cs (a + 4) = 115) := by
  show (decide (5 = z) && (((((true && decide (nI (chN cs (a + 0)) = sch 5 0)) && decide (nI (chN cs (a + 1)) = sch 5 1)) && decide (nI (chN cs (a + 2)) = sch 5 2)) && decide (nI (chN cs (a + 3)) = sch 5 3)) && decide (nI (chN cs (a + 4)) = sch 5 4))) = true ↔ _
  have hx : ∀ j, chN cs j < 1000 := fun j => by have := hc j; omega
  simp only [Bool.and_eq_true, decide_eq_true_eq, chq (hx (a + 0)) (show 116 < 1000 by omega) (show sch 5 0 = nI 116 by decide), chq (hx (a + 1)) (show 101 < 1000 by omega) (show sch 5 1 = nI 101 by decide), chq (hx (a + 2)) (show 115 < 1000 by omega) (show sch 5 2 = nI 115 by decide), chq (hx (a + 3)) (show 116 < 1000 by omega) (show sch 5 3 = nI 116 by decide), chq (hx (a + 4)) (show 115 < 1000 by omega) (show sch 5 4 = nI 115 by decide)]
  constructor
  · rintro ⟨h0, ⟨⟨⟨⟨⟨_, q0⟩, q1⟩, q2⟩, q3⟩, q4⟩⟩
    exact ⟨h0.symm, q0, q1, q2, q3, q4⟩
  · rintro ⟨h0, q0, q1, q2, q3, q4⟩
    exact ⟨h0.symm, ⟨⟨⟨⟨⟨trivial, q0⟩, q1⟩, q2⟩, q3⟩, q4⟩⟩
theorem sp_6 {cs : List Nat} {a z : Nat} (hc : ∀ j, 32 ≤ chN cs j ∧ chN cs j ≤ 126) : spB cs 6 a z = true ↔ (z = 4 ∧ chN cs (a + 0) = 115 ∧ chN cs (a + 1) = 97 ∧ chN cs (a + 2) = 109 ∧ chN cs (a + 3) = 101) := by
  show (decide (4 = z) && ((((true && decide (nI (chN cs (a + 0)) = sch 6 0)) && decide (nI (chN cs (a + 1)) = sch 6 1)) && decide (nI (chN cs (a + 2)) = sch 6 2)) && decide (nI (chN cs (a + 3)) = sch 6 3))) = true ↔ _
  have hx : ∀ j, chN cs j < 1000 := fun j => by have := hc j; omega
  simp only [Bool.and_eq_true, decide_eq_true_eq, chq (hx (a + 0)) (show 115 < 1000 by omega) (show sch 6 0 = nI 115 by decide), chq (hx (a + 1)) (show 97 < 1000 by omega) (show sch 6 1 = nI 97 by decide), chq (hx (a + 2)) (show 109 < 1000 by omega) (show sch 6 2 = nI 109 by decide), chq (hx (a + 3)) (show 101 < 1000 by omega) (show sch 6 3 = nI 101 by decide)]
  constructor
  · rintro ⟨h0, ⟨⟨⟨⟨_, q0⟩, q1⟩, q2⟩, q3⟩⟩
    exact ⟨h0.symm, q0, q1, q2, q3⟩
  · rintro ⟨h0, q0, q1, q2, q3⟩
    exact ⟨h0.symm, ⟨⟨⟨⟨trivial, q0⟩, q1⟩, q2⟩, q3⟩⟩
theorem sp_7 {cs : List Nat} {a z : Nat} (hc : ∀ j, 32 ≤ chN cs j ∧ chN cs j ≤ 126) : spB cs 7 a z = true ↔ (z = 3 ∧ chN cs (a + 0) = 108 ∧ chN cs (a + 1) = 101 ∧ chN cs (a + 2) = 116) := by
  show (decide (3 = z) && (((true && decide (nI (chN cs (a + 0)) = sch 7 0)) && decide (nI (chN cs (a + 1)) = sch 7 1)) && decide (nI (chN cs (a + 2)) = sch 7 2))) = true ↔ _
  have hx : ∀ j, chN cs j < 1000 := fun j => by have := hc j; omega
  simp only [Bool.and_eq_true, decide_eq_true_eq, chq (hx (a + 0)) (show 108 < 1000 by omega) (show sch 7 0 = nI 108 by decide), chq (hx (a + 1)) (show 101 < 1000 by omega) (show sch 7 1 = nI 101 by decide), chq (hx (a + 2)) (show 116 < 1000 by omega) (show sch 7 2 = nI 116 by decide)]
  constructor
  · rintro ⟨h0, ⟨⟨⟨_, q0⟩, q1⟩, q2⟩⟩
    exact ⟨h0.symm, q0, q1, q2⟩
  · rintro ⟨h0, q0, q1, q2⟩
    exact ⟨h0.symm, ⟨⟨⟨trivial, q0⟩, q1⟩, q2⟩⟩
theorem sp_8 {cs : List Nat} {a z : Nat} (hc : ∀ j, 32 ≤ chN cs j ∧ chN cs j ≤ 126) : spB cs 8 a z = true ↔ (z = 2 ∧ chN cs (a + 0) = 105 ∧ chN cs (a + 1) = 110) := by
  show (decide (2 = z) && ((true && decide (nI (chN cs (a + 0)) = sch 8 0)) && decide (nI (chN cs (a + 1)) = sch 8 1))) = true ↔ _
  have hx : ∀ j, chN cs j < 1000 := fun j => by have := hc j; omega
  simp only [Bool.and_eq_true, decide_eq_true_eq, chq (hx (a + 0)) (show 105 < 1000 by omega) (show sch 8 0 = nI 105 by decide), chq (hx (a + 1)) (show 110 < 1000 by omega) (show sch 8 1 = nI 110 by decide)]
  constructor
  · rintro ⟨h0, ⟨⟨_, q0⟩, q1⟩⟩
    exact ⟨h0.symm, q0, q1⟩
  · rintro ⟨h0, q0, q1⟩
    exact ⟨h0.symm, ⟨⟨trivial, q0⟩, q1⟩⟩
theorem wv_0 {cs : List Nat} {a z : Nat} (hc : ∀ j, 32 ≤ chN cs j ∧ chN cs j ≤ 126) (hz : z ≤ 5) : wv cs a z = 6384748 ↔ spB cs 0 a z = true := by
  rw [sp_0 hc]
  have h0 := hc (a + 0); have h1 := hc (a + 1); have h2 := hc (a + 2); have h3 := hc (a + 3); have h4 := hc (a + 4)
  rcases (show z = 0 ∨ z = 1 ∨ z = 2 ∨ z = 3 ∨ z = 4 ∨ z = 5 by omega) with rfl | rfl | rfl | rfl | rfl | rfl <;> (try simp only [wv, true_and, false_and, iff_false]) <;> omega
theorem wv_1 {cs : List Nat} {a z : Nat} (hc : ∀ j, 32 ≤ chN cs j ∧ chN cs j ≤ 126) (hz : z ≤ 5) : wv cs a z = 1684369523 ↔ spB cs 1 a z = true := by
  rw [sp_1 hc]
  have h0 := hc (a + 0); have h1 := hc (a + 1); have h2 := hc (a + 2); have h3 := hc (a + 3); have h4 := hc (a + 4)
  rcases (show z = 0 ∨ z = 1 ∨ z = 2 ∨ z = 3 ∨ z = 4 ∨ z = 5 by omega) with rfl | rfl | rfl | rfl | rfl | rfl <;> (try simp only [wv, true_and, false_and, iff_false]) <;> omega
theorem wv_2 {cs : List Nat} {a z : Nat} (hc : ∀ j, 32 ≤ chN cs j ∧ chN cs j ≤ 126) (hz : z ≤ 5) : wv cs a z = 504447201907 ↔ spB cs 2 a z = true := by
  rw [sp_2 hc]
  have h0 := hc (a + 0); have h1 := hc (a + 1); have h2 := hc (a + 2); have h3 := hc (a + 3); have h4 := hc (a + 4)
  rcases (show z = 0 ∨ z = 1 ∨ z = 2 ∨ z = 3 ∨ z = 4 ∨ z = 5 by omega) with rfl | rfl | rfl | rfl | rfl | rfl <;> (try simp only [wv, true_and, false_and, iff_false]) <;> omega
theorem wv_3 {cs : List Nat} {a z : Nat} (hc : ∀ j, 32 ≤ chN cs j ∧ chN cs j ≤ 126) (hz : z ≤ 5) : wv cs a z = 7823737 ↔ spB cs 3 a z = true := by
  rw [sp_3 hc]
  have h0 := hc (a + 0); have h1 := hc (a + 1); have h2 := hc (a + 2); have h3 := hc (a + 3); have h4 := hc (a + 4)
  rcases (show z = 0 ∨ z = 1 ∨ z = 2 ∨ z = 3 ∨ z = 4 ∨ z = 5 by omega) with rfl | rfl | rfl | rfl | rfl | rfl <;> (try simp only [wv, true_and, false_and, iff_false]) <;> omega
theorem wv_4 {cs : List Nat} {a z : Nat} (hc : ∀ j, 32 ≤ chN cs j ∧ chN cs j ≤ 126) (hz : z ≤ 5) : wv cs a z = 1802071652 ↔ spB cs 4 a z = true := by
  rw [sp_4 hc]
  have h0 := hc (a + 0); have h1 := hc (a + 1); have h2 := hc (a + 2); have h3 := hc (a + 3); have h4 := hc (a + 4)
  rcases (show z = 0 ∨ z = 1 ∨ z = 2 ∨ z = 3 ∨ z = 4 ∨ z = 5 by omega) with rfl | rfl | rfl | rfl | rfl | rfl <;> (try simp only [wv, true_and, false_and, iff_false]) <;> omega
theorem wv_5 {cs : List Nat} {a z : Nat} (hc : ∀ j, 32 ≤ chN cs j ∧ chN cs j ≤ 126) (hz : z ≤ 5) : wv cs a z = 499918271603 ↔ spB cs 5 a z = true := by
  rw [sp_5 hc]
  have h0 := hc (a + 0); have h1 := hc (a + 1); have h2 := hc (a + 2); have h3 := hc (a + 3); have h4 := hc (a + 4)
  rcases (show z = 0 ∨ z = 1 ∨ z = 2 ∨ z = 3 ∨ z = 4 ∨ z = 5 by omega) with rfl | rfl | rfl | rfl | rfl | rfl <;> (try simp only [wv, true_and, false_and, iff_false]) <;> omega
theorem wv_6 {cs : List Nat} {a z : Nat} (hc : ∀ j, 32 ≤ chN cs j ∧ chN cs j ≤ 126) (hz : z ≤ 5) : wv cs a z = 1935764837 ↔ spB cs 6 a z = true := by
  rw [sp_6 hc]
  have h0 := hc (a + 0); have h1 := hc (a + 1); have h2 := hc (a + 2); have h3 := hc (a + 3); have h4 := hc (a + 4)
  rcases (show z = 0 ∨ z = 1 ∨ z = 2 ∨ z = 3 ∨ z = 4 ∨ z = 5 by omega) with rfl | rfl | rfl | rfl | rfl | rfl <;> (try simp only [wv, true_and, false_and, iff_false]) <;> omega
theorem wv_7 {cs : List Nat} {a z : Nat} (hc : ∀ j, 32 ≤ chN cs j ∧ chN cs j ≤ 126) (hz : z ≤ 5) : wv cs a z = 7103860 ↔ spB cs 7 a z = true := by
  rw [sp_7 hc]
  have h0 := hc (a + 0); have h1 := hc (a + 1); have h2 := hc (a + 2); have h3 := hc (a + 3); have h4 := hc (a + 4)
  rcases (show z = 0 ∨ z = 1 ∨ z = 2 ∨ z = 3 ∨ z = 4 ∨ z = 5 by omega) with rfl | rfl | rfl | rfl | rfl | rfl <;> (try simp only [wv, true_and, false_and, iff_false]) <;> omega
theorem wv_8 {cs : List Nat} {a z : Nat} (hc : ∀ j, 32 ≤ chN cs j ∧ chN cs j ≤ 126) (hz : z ≤ 5) : wv cs a z = 26990 ↔ spB cs 8 a z = true := by
  rw [sp_8 hc]
  have h0 := hc (a + 0); have h1 := hc (a + 1); have h2 := hc (a + 2); have h3 := hc (a + 3); have h4 := hc (a + 4)
  rcases (show z = 0 ∨ z = 1 ∨ z = 2 ∨ z = 3 ∨ z = 4 ∨ z = 5 by omega) with rfl | rfl | rfl | rfl | rfl | rfl <;> (try simp only [wv, true_and, false_and, iff_false]) <;> omega
theorem wv_lt {cs : List Nat} {a : Nat} (hc : ∀ j, 32 ≤ chN cs j ∧ chN cs j ≤ 126) {z : Nat} (hz : z ≤ 5) : wv cs a z < 2 ^ 40 := by
  have h0 := hc (a + 0); have h1 := hc (a + 1); have h2 := hc (a + 2); have h3 := hc (a + 3); have h4 := hc (a + 4)
  rcases (show z = 0 ∨ z = 1 ∨ z = 2 ∨ z = 3 ∨ z = 4 ∨ z = 5 by omega) with rfl | rfl | rfl | rfl | rfl | rfl <;> (try simp only [wv, true_and, false_and, iff_false]) <;> omega
theorem l_eq {x y : Nat} (hx : x < 2 ^ 62) (hy : y < 2 ^ 62) : Int64.ofNat x = Int64.ofNat y ↔ x = y := by
  constructor
  · intro h
    have := congrArg Int64.toInt h
    rw [Int64.toInt_ofNat_of_lt (by omega), Int64.toInt_ofNat_of_lt (by omega)] at this
    omega
  · intro h; rw [h]
theorem spB_len {cs : List Nat} {i a z : Nat} (h : spB cs i a z = true) : sLen.getD i 0 = z := by
  unfold spB at h
  rw [Bool.and_eq_true, decide_eq_true_eq] at h
  exact h.1
theorem wkF_big {cs : List Nat} {a z : Nat} (hz : 5 < z) : wkF cs a z = 1 := by
  have hn : ∀ i, sLen.getD i 0 ≤ 5 → ¬ spB cs i a z = true := fun i hi h => by have := spB_len h; omega
  unfold wkF
  rw [if_neg (hn 0 (by decide)), if_neg (hn 1 (by decide)), if_neg (hn 2 (by decide)), if_neg (hn 3 (by decide)), if_neg (hn 4 (by decide)), if_neg (hn 5 (by decide)), if_neg (hn 6 (by decide)), if_neg (hn 7 (by decide)), if_neg (hn 8 (by decide))]

