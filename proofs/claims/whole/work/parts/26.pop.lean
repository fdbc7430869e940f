-- ===== Integer.bitCount =====
theorem and_split {k a b c d : Nat} (ha : a < 2 ^ k) (hc : c < 2 ^ k) : (a + 2 ^ k * b) &&& (c + 2 ^ k * d) = (a &&& c) + 2 ^ k * (b &&& d) := by
  apply Nat.eq_of_testBit_eq
  intro i
  have hac : a &&& c < 2 ^ k := Nat.and_lt_two_pow _ hc
  rw [Nat.testBit_and, Nat.add_comm a, Nat.add_comm c, Nat.add_comm (a &&& c), Nat.testBit_two_pow_mul_add _ ha, Nat.testBit_two_pow_mul_add _ hc, Nat.testBit_two_pow_mul_add _ hac]
  by_cases h : i < k
  · rw [if_pos h, if_pos h, if_pos h, Nat.testBit_and]
  · rw [if_neg h, if_neg h, if_neg h, Nat.testBit_and]
theorem and_256 {a b c d : Nat} (ha : a < 256) (hc : c < 256) : (a + 256 * b) &&& (c + 256 * d) = (a &&& c) + 256 * (b &&& d) := and_split (k := 8) ha hc
def pc1 (y : Nat) : Nat := y - ((y / 2) &&& 85)
def pc2 (y : Nat) : Nat := (pc1 y &&& 51) + ((pc1 y / 4) &&& 51)
def pc3 (y : Nat) : Nat := (pc2 y + pc2 y / 16) &&& 15
theorem pcA : ∀ y, y < 256 → ∀ e, e < 2 → (y / 2 + 128 * e) &&& 85 = (y / 2) &&& 85 := by decide +kernel
theorem pcB : ∀ y, y < 256 → ∀ e, e < 4 → (y / 4 + 64 * e) &&& 51 = (y / 4) &&& 51 := by decide +kernel
theorem pcC : ∀ y, y < 69 → ∀ e, e < 5 → (y + y / 16 + 16 * e) &&& 15 = (y + y / 16) &&& 15 := by decide +kernel
theorem pcD : ∀ y, y < 256 → pc1 y < 256 ∧ ((y / 2) &&& 85) ≤ y ∧ pc2 y < 69 ∧ pc2 y % 16 < 5 ∧ pc3 y ≤ 8 := by decide +kernel
theorem st1 {y Y m : Nat} (hy : y < 256) : (y + 256 * Y) - (((y + 256 * Y) / 2) &&& (85 + 256 * m)) = pc1 y + 256 * (Y - ((Y / 2) &&& m)) := by
  have e : (y + 256 * Y) / 2 = (y / 2 + 128 * (Y % 2)) + 256 * (Y / 2) := by omega
  rw [e, and_256 (by omega) (by omega), pcA y hy (Y % 2) (by omega)]
  have h1 := (pcD y hy).2.1
  have h2 : (Y / 2) &&& m ≤ Y := Nat.le_trans Nat.and_le_left (Nat.div_le_self _ _)
  unfold pc1
  omega
theorem st2 {s N m : Nat} (hs : s < 256) : ((s + 256 * N) &&& (51 + 256 * m)) + (((s + 256 * N) / 4) &&& (51 + 256 * m)) = ((s &&& 51) + ((s / 4) &&& 51)) + 256 * ((N &&& m) + ((N / 4) &&& m)) := by
  have e : (s + 256 * N) / 4 = (s / 4 + 64 * (N % 4)) + 256 * (N / 4) := by omega
  rw [e, and_256 hs (by omega), and_256 (by omega) (by omega), pcB s hs (N % 4) (by omega)]
  omega
theorem st3 {t N m : Nat} (ht : t < 69) (hN : N % 16 < 5) : ((t + 256 * N) + (t + 256 * N) / 16) &&& (15 + 256 * m) = ((t + t / 16) &&& 15) + 256 * ((N + N / 16) &&& m) := by
  have e : (t + 256 * N) + (t + 256 * N) / 16 = (t + t / 16 + 16 * (N % 16)) + 256 * (N + N / 16) := by omega
  rw [e, and_256 (by omega) (by omega), pcC t ht (N % 16) (by omega)]
theorem pop_end {a b c d N3 N4 N5 : Nat} (ha : a ≤ 8) (hb : b ≤ 8) (hc : c ≤ 8) (hd : d ≤ 8) (e3 : N3 = a + 256 * (b + 256 * (c + 256 * d))) (e4 : N4 = N3 + N3 / 256) (e5 : N5 = N4 + N4 / 65536) : N5 % 64 = a + b + c + d := by
  have f3 : N3 / 256 = b + 256 * (c + 256 * d) := by omega
  have f4 : N4 = (a + b + 256 * (b + c)) + 65536 * (c + d + 256 * d) := by rw [e4, f3, e3]; omega
  have f5 : N4 / 65536 = c + d + 256 * d := by rw [f4]; omega
  have f6 : N5 = (a + b + c + d) + 64 * (4 * (b + c) + 4 * d + 1024 * (c + d) + 262144 * d) := by rw [e5, f5, f4]; omega
  rw [f6]
  omega
/-- the whole of it, over four bytes -/
theorem pop4 {a b c d : Nat} (ha : a < 256) (hb : b < 256) (hc : c < 256) (hd : d < 256) {X N1 N2 N3 N4 N5 : Nat} (eX : X = a + 256 * (b + 256 * (c + 256 * d))) (e1 : N1 = X - ((X / 2) &&& 1431655765)) (e2 : N2 = (N1 &&& 858993459) + ((N1 / 4) &&& 858993459)) (e3 : N3 = (N2 + N2 / 16) &&& 252645135) (e4 : N4 = N3 + N3 / 256) (e5 : N5 = N4 + N4 / 65536) : N5 % 64 = pc3 a + pc3 b + pc3 c + pc3 d ∧ N1 ≤ X ∧ N1 = pc1 a + 256 * (pc1 b + 256 * (pc1 c + 256 * pc1 d)) ∧ N2 < 2 ^ 31 ∧ N3 < 2 ^ 30 ∧ (X / 2) &&& 1431655765 ≤ X := by
  have q1 : N1 = pc1 a + 256 * (pc1 b + 256 * (pc1 c + 256 * pc1 d)) := by
    rw [e1, eX, show 1431655765 = 85 + 256 * (85 + 256 * (85 + 256 * 85)) from rfl, st1 ha, st1 hb, st1 hc]
    rfl
  have q2 : N2 = pc2 a + 256 * (pc2 b + 256 * (pc2 c + 256 * pc2 d)) := by
    rw [e2, q1, show 858993459 = 51 + 256 * (51 + 256 * (51 + 256 * 51)) from rfl, st2 (pcD a ha).1, st2 (pcD b hb).1, st2 (pcD c hc).1]
    rfl
  obtain ⟨a1, a2, a3, a4, a5⟩ := pcD a ha
  obtain ⟨b1, b2, b3, b4, b5⟩ := pcD b hb
  obtain ⟨c1, c2, c3, c4, c5⟩ := pcD c hc
  obtain ⟨d1, d2, d3, d4, d5⟩ := pcD d hd
  have q3 : N3 = pc3 a + 256 * (pc3 b + 256 * (pc3 c + 256 * pc3 d)) := by
    rw [e3, q2, show 252645135 = 15 + 256 * (15 + 256 * (15 + 256 * 15)) from rfl, st3 a3 (by omega), st3 b3 (by omega), st3 c3 d4]
    rfl
  refine ⟨pop_end a5 b5 c5 d5 q3 e4 e5, by rw [e1]; exact Nat.sub_le _ _, q1, by omega, by omega, Nat.le_trans Nat.and_le_left (Nat.div_le_self _ _)⟩
/-- how many bits are set -/
def pcnt (x : Int32) : Nat := ((List.range 32).filter (fun i => bt x i)).length
def pcb (y : Nat) : Nat := ((List.range 8).filter (fun i => y.testBit i)).length
theorem pc3_b : ∀ y, y < 256 → pc3 y = pcb y := by decide +kernel
theorem nx_and' (a b : Nat) : nI a &&& nI b = nI (a &&& b) := by
  apply Int32.toBitVec_inj.1
  show BitVec.ofNat 32 a &&& BitVec.ofNat 32 b = BitVec.ofNat 32 (a &&& b)
  apply BitVec.eq_of_getLsbD_eq
  intro i hi
  simp [hi]
theorem nI_tn (x : Int32) : x = nI x.toBitVec.toNat := by
  apply Int32.toBitVec_inj.1
  show x.toBitVec = BitVec.ofNat 32 x.toBitVec.toNat
  simp
theorem pcnt_4 {a b c d : Nat} (ha : a < 256) (hb : b < 256) (hc : c < 256) (hd : d < 256) {x : Int32} (e : x.toBitVec.toNat = a + 256 * (b + 256 * (c + 256 * d))) : pcnt x = pcb a + pcb b + pcb c + pcb d := by
  have key : ∀ i, bt x i = (a + 256 * (b + 256 * (c + 256 * d))).testBit i := fun i => by
    unfold bt
    rw [BitVec.getLsbD, e]
  have t0 : ∀ i, i < 8 → bt x i = a.testBit i := fun i hi => by
    rw [key, Nat.add_comm, show 256 = 2 ^ 8 from rfl, Nat.testBit_two_pow_mul_add _ ha, if_pos hi]
  have t1 : ∀ i, i < 8 → bt x (8 + i) = b.testBit i := fun i hi => by
    rw [key, Nat.add_comm, show 256 = 2 ^ 8 from rfl, Nat.testBit_two_pow_mul_add _ ha, if_neg (by omega), Nat.add_comm b, Nat.testBit_two_pow_mul_add _ hb, if_pos (by omega)]
    congr 1; omega
  have t2 : ∀ i, i < 8 → bt x (16 + i) = c.testBit i := fun i hi => by
    rw [key, Nat.add_comm, show 256 = 2 ^ 8 from rfl, Nat.testBit_two_pow_mul_add _ ha, if_neg (by omega), Nat.add_comm b, Nat.testBit_two_pow_mul_add _ hb, if_neg (by omega), Nat.add_comm c, Nat.testBit_two_pow_mul_add _ hc, if_pos (by omega)]
    congr 1; omega
  have t3 : ∀ i, i < 8 → bt x (24 + i) = d.testBit i := fun i hi => by
    rw [key, Nat.add_comm, show 256 = 2 ^ 8 from rfl, Nat.testBit_two_pow_mul_add _ ha, if_neg (by omega), Nat.add_comm b, Nat.testBit_two_pow_mul_add _ hb, if_neg (by omega), Nat.add_comm c, Nat.testBit_two_pow_mul_add _ hc, if_neg (by omega)]
    congr 1; omega
  have sp : List.range 32 = List.range 8 ++ ((List.range 8).map (8 + ·) ++ ((List.range 8).map (16 + ·) ++ (List.range 8).map (24 + ·))) := by decide
  unfold pcnt pcb
  rw [sp]
  simp only [List.filter_append, List.length_append, List.filter_map, List.length_map]
  have f0 : (List.range 8).filter (fun i => bt x i) = (List.range 8).filter (fun i => a.testBit i) := List.filter_congr (fun i hi => t0 i (List.mem_range.mp hi))
  have f1 : (List.range 8).filter ((fun i => bt x i) ∘ (8 + ·)) = (List.range 8).filter (fun i => b.testBit i) := List.filter_congr (fun i hi => t1 i (List.mem_range.mp hi))
  have f2 : (List.range 8).filter ((fun i => bt x i) ∘ (16 + ·)) = (List.range 8).filter (fun i => c.testBit i) := List.filter_congr (fun i hi => t2 i (List.mem_range.mp hi))
  have f3 : (List.range 8).filter ((fun i => bt x i) ∘ (24 + ·)) = (List.range 8).filter (fun i => d.testBit i) := List.filter_congr (fun i hi => t3 i (List.mem_range.mp hi))
  rw [f0, f1, f2, f3]
  omega
theorem ush_nI {n : Nat} (hn : n < 2 ^ 32) (s k : Nat) (hs : k < 32) (e : s = k) : ((nI n).toUInt32 >>> ((nI s).toUInt32 &&& Int32.toUInt32 31)).toInt32 = nI (n / 2 ^ k) := by
  subst e
  exact pk_ushrN hn (nI s) s (s_u s hs)
theorem pcnt_val {x v1 v2 v3 v4 v5 : Int32} (e1 : v1 = x - ((x.toUInt32 >>> ((1 : Int32).toUInt32 &&& Int32.toUInt32 31)).toInt32 &&& 1431655765)) (e2 : v2 = (v1 &&& 858993459) + ((v1.toUInt32 >>> ((2 : Int32).toUInt32 &&& Int32.toUInt32 31)).toInt32 &&& 858993459)) (e3 : v3 = (v2 + (v2.toUInt32 >>> ((4 : Int32).toUInt32 &&& Int32.toUInt32 31)).toInt32) &&& 252645135) (e4 : v4 = v3 + (v3.toUInt32 >>> ((8 : Int32).toUInt32 &&& Int32.toUInt32 31)).toInt32) (e5 : v5 = v4 + (v4.toUInt32 >>> ((16 : Int32).toUInt32 &&& Int32.toUInt32 31)).toInt32) : v5 &&& 63 = nI (pcnt x) := by
  obtain ⟨X, hX⟩ : ∃ X, X = x.toBitVec.toNat := ⟨_, rfl⟩
  have hlt : X < 2 ^ 32 := by rw [hX]; exact x.toBitVec.isLt
  have ex : x = nI X := by rw [hX]; exact nI_tn x
  have ha : X % 256 < 256 := by omega
  have hb : X / 256 % 256 < 256 := by omega
  have hc : X / 65536 % 256 < 256 := by omega
  have hd : X / 16777216 < 256 := by omega
  have eX : X = X % 256 + 256 * (X / 256 % 256 + 256 * (X / 65536 % 256 + 256 * (X / 16777216))) := by omega
  obtain ⟨p1, p2, p3, p4, p5, p6⟩ := pop4 ha hb hc hd eX rfl rfl rfl rfl rfl
  have n1 : v1 = nI (X - ((X / 2) &&& 1431655765)) := by
    rw [e1, ex, show (1 : Int32) = nI 1 from rfl, ush_nI hlt 1 1 (by omega) rfl, show (1431655765 : Int32) = nI 1431655765 from rfl, nx_and', pk_sub p6]
  generalize hN1 : X - ((X / 2) &&& 1431655765) = N1 at *
  have n2 : v2 = nI ((N1 &&& 858993459) + ((N1 / 4) &&& 858993459)) := by
    rw [e2, n1, show (2 : Int32) = nI 2 from rfl, ush_nI (by omega) 2 2 (by omega) rfl, show (858993459 : Int32) = nI 858993459 from rfl, nx_and', nx_and', nI_add]
  generalize hN2 : (N1 &&& 858993459) + ((N1 / 4) &&& 858993459) = N2 at *
  have n3 : v3 = nI ((N2 + N2 / 16) &&& 252645135) := by
    rw [e3, n2, show (4 : Int32) = nI 4 from rfl, ush_nI (by omega) 4 4 (by omega) rfl, nI_add, show (252645135 : Int32) = nI 252645135 from rfl, nx_and']
  generalize hN3 : (N2 + N2 / 16) &&& 252645135 = N3 at *
  have n4 : v4 = nI (N3 + N3 / 256) := by
    rw [e4, n3, show (8 : Int32) = nI 8 from rfl, ush_nI (by omega) 8 8 (by omega) rfl, nI_add]
  have n5 : v5 = nI ((N3 + N3 / 256) + (N3 + N3 / 256) / 65536) := by
    rw [e5, n4, show (16 : Int32) = nI 16 from rfl, ush_nI (by omega) 16 16 (by omega) rfl, nI_add]
  rw [n5, pk_andN (by omega) (m := 63) 6 rfl, show (2 : Nat) ^ 6 = 64 from rfl, p1, pcnt_4 ha hb hc hd (by rw [← hX]; exact eX), pc3_b _ ha, pc3_b _ hb, pc3_b _ hc, pc3_b _ hd]
