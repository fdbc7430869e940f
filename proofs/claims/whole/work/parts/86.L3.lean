set_option maxHeartbeats 4000000 in
set_option maxRecDepth 100000 in
theorem law_target {p : Program} {l : Launch} {e : Env} {s : State} {m : MethodId} {below : List Frame} {meth : Method} {c : Code} {b L : Nat} {xs : Nat → Int32} {D : va_G} {tys : List (ClassId × FieldType)} {A : Nat → Prop} {adK adV : Nat → Nat} {zf : Value} {cI cC cR : ClassId} {ad : Nat → Nat} {Q : State → Prop} (hLF : LF p s m c b L xs D tys A adK adV zf cI cC cR) (i : Nat) (hi : i + 4 ≤ L) (q : QS) (ws1 : va_W) (H : Heap) (locs : List Loc) (ls : Array Slot) (hQ : QAt cI cC cR ad ws1 0 q) (hM : ModelAt cI ad ws1 99 q) (hP : va_P D xCl ws1 H) (hD : va_D A ws1) (hS : va_S A s.heap H locs) (hl : lv_has ls 4 [(0, .ref b), (1, .ref (ad 0)), (2, .ref (ad 99)), (3, .int (nI i))])
    (kk : ∀ (q1 : QS) (ws2 : va_W) (H : Heap) (locs : List Loc), QAt cI cC cR ad ws2 0 q1 → ModelAt cI ad ws2 99 q1 → va_P D xCl ws2 H → va_D A ws2 → va_S A s.heap H locs → W p l e room_1 s m #[Value.ref b] below meth c H locs 123 7274 Q (F0 m 360 ls [])) : W p l e room_1 s m #[Value.ref b] below meth c H locs 123 7274 Q (F0 m 88 ls []) := by
  obtain ⟨hx, hb, hml, hown, hts, hK, hA, hN, hE, hzf, hX, hbl, hbA, hI, hC, hCR, hL⟩ := hLF
  obtain ⟨v, F, hF, hR⟩ := hM
  have hi1 : vp_in (nI i + 1) L := by rw [show nI i + 1 = nI (i + 1) from nI_add i 1]; exact vp_in_nI (by omega) (by omega)
  have hi2 : vp_in (nI i + 2) L := by rw [show nI i + 2 = nI (i + 2) from nI_add i 2]; exact vp_in_nI (by omega) (by omega)
  have hi3 : vp_in (nI i + 3) L := by rw [show nI i + 3 = nI (i + 3) from nI_add i 3]; exact vp_in_nI (by omega) (by omega)
  refine lv_aload_n hx hb dL_law_88 rfl (lv_at hl 1 rfl) ?_
  refine lv_aload_n hx hb dL_law_89 rfl (lv_at hl 0 rfl) ?_
  refine lv_iload_n hx hb dL_law_90 rfl (lv_at hl 3 rfl) ?_
  refine lv_iconst (v := 1) hx hb dL_law_91 (by decide) ?_
  refine lv_iadd hx hb dL_law_92 ?_
  refine va_sld hx hb hX hbl hbA hS hi1 dL_law_93 ?_
  refine lv_aload_n hx hb dL_law_94 rfl (lv_at hl 0 rfl) ?_
  refine lv_iload_n hx hb dL_law_95 rfl (lv_at hl 3 rfl) ?_
  refine lv_iconst (v := 2) hx hb dL_law_96 (by decide) ?_
  refine lv_iadd hx hb dL_law_97 ?_
  refine va_sld hx hb hX hbl hbA hS hi2 dL_law_98 ?_
  refine lv_aload_n hx hb dL_law_99 rfl (lv_at hl 0 rfl) ?_
  refine lv_iload_n hx hb dL_law_100 rfl (lv_at hl 3 rfl) ?_
  refine lv_iconst (v := 3) hx hb dL_law_101 (by decide) ?_
  refine lv_iadd hx hb dL_law_102 ?_
  refine va_sld hx hb hX hbl hbA hS hi3 dL_law_103 ?_
  refine x_calli (x_runV (n := 3) (As := [.int (xs (nI i + 1).toNatClampNeg), .int (xs (nI i + 2).toNatClampNeg), .int (xs (nI i + 3).toNatClampNeg)]) (rest := []) ⟨hx, hb, hml, hown, hts⟩ (cQ_target l D tys A ws1 cI hI cC hC cR hCR ad 0 q (xs (nI i + 1).toNatClampNeg) (xs (nI i + 2).toNatClampNeg) (xs (nI i + 3).toNatClampNeg) hQ) tw_170 tw_171 tw_172 tw_1 tw_173 (by decide +kernel) rfl rfl ⟨Nat.le_of_ble_eq_true rfl, Nat.le_of_ble_eq_true rfl⟩ ⟨Nat.le_of_ble_eq_true rfl, Nat.le_of_ble_eq_true rfl⟩ (va_recv hK hP (ci := 6) (q0 := 0) rfl hQ.1) hK hP hD hS hA hN rfl hl.1 rfl (lv_room (Nat.le_of_ble_eq_true rfl)) dL_law_104) hS (fun r1 ws2 H locs h1 hP hD hS => ?_)
  obtain ⟨h1, hf1, hQ⟩ := h1
  have hF := hF.keep hf1 (Or.inr (by decide))
  refine lv_aload_n hx hb dL_law_107 rfl (lv_at hl 2 rfl) ?_
  refine lv_aload_n hx hb dL_law_108 rfl (lv_at hl 0 rfl) ?_
  refine lv_iload_n hx hb dL_law_109 rfl (lv_at hl 3 rfl) ?_
  refine lv_iconst (v := 1) hx hb dL_law_110 (by decide) ?_
  refine lv_iadd hx hb dL_law_111 ?_
  refine va_sld hx hb hX hbl hbA hS hi1 dL_law_112 ?_
  refine lv_aload_n hx hb dL_law_113 rfl (lv_at hl 0 rfl) ?_
  refine lv_iload_n hx hb dL_law_114 rfl (lv_at hl 3 rfl) ?_
  refine lv_iconst (v := 2) hx hb dL_law_115 (by decide) ?_
  refine lv_iadd hx hb dL_law_116 ?_
  refine va_sld hx hb hX hbl hbA hS hi2 dL_law_117 ?_
  refine lv_aload_n hx hb dL_law_118 rfl (lv_at hl 0 rfl) ?_
  refine lv_iload_n hx hb dL_law_119 rfl (lv_at hl 3 rfl) ?_
  refine lv_iconst (v := 3) hx hb dL_law_120 (by decide) ?_
  refine lv_iadd hx hb dL_law_121 ?_
  refine va_sld hx hb hX hbl hbA hS hi3 dL_law_122 ?_
  refine x_calli (x_runV (n := 3) (As := [.int (xs (nI i + 1).toNatClampNeg), .int (xs (nI i + 2).toNatClampNeg), .int (xs (nI i + 3).toNatClampNeg)]) (rest := [.int r1]) ⟨hx, hb, hml, hown, hts⟩ (cM_target l D tys A ws2 cI hI ad 99 v F q hR (xs (nI i + 1).toNatClampNeg) (xs (nI i + 2).toNatClampNeg) (xs (nI i + 3).toNatClampNeg) hF) tw_735 tw_736 tw_737 tw_8 tw_738 (by decide +kernel) rfl rfl ⟨Nat.le_of_ble_eq_true rfl, Nat.le_of_ble_eq_true rfl⟩ ⟨Nat.le_of_ble_eq_true rfl, Nat.le_of_ble_eq_true rfl⟩ (va_recv hK hP (ci := 7) (q0 := 99) rfl hF.1) hK hP hD hS hA hN rfl hl.1 rfl (lv_room (Nat.le_of_ble_eq_true rfl)) dL_law_123) hS (fun r2 ws3 H locs h2 hP hD hS => ?_)
  obtain ⟨h2, hf2, hM⟩ := h2
  have hQ := hQ.keep hf2 (Or.inl (by decide))
  refine lv_icmp_eq (tgt := 360) hx hb dL_law_126 (by decide) (fun ce => ?_) (fun ce => ?_)
  · exact kk _ _ _ _ hQ hM hP hD hS
  · exact absurd (h1.trans h2.symm) ce

set_option maxHeartbeats 4000000 in
set_option maxRecDepth 100000 in
theorem law_needs {p : Program} {l : Launch} {e : Env} {s : State} {m : MethodId} {below : List Frame} {meth : Method} {c : Code} {b L : Nat} {xs : Nat → Int32} {D : va_G} {tys : List (ClassId × FieldType)} {A : Nat → Prop} {adK adV : Nat → Nat} {zf : Value} {cI cC cR : ClassId} {ad : Nat → Nat} {Q : State → Prop} (hLF : LF p s m c b L xs D tys A adK adV zf cI cC cR) (i : Nat) (hi : i + 4 ≤ L) (q : QS) (ws1 : va_W) (H : Heap) (locs : List Loc) (ls : Array Slot) (hQ : QAt cI cC cR ad ws1 0 q) (hM : ModelAt cI ad ws1 99 q) (hP : va_P D xCl ws1 H) (hD : va_D A ws1) (hS : va_S A s.heap H locs) (hl : lv_has ls 4 [(0, .ref b), (1, .ref (ad 0)), (2, .ref (ad 99)), (3, .int (nI i))])
    (kk : ∀ (q1 : QS) (ws2 : va_W) (H : Heap) (locs : List Loc), QAt cI cC cR ad ws2 0 q1 → ModelAt cI ad ws2 99 q1 → va_P D xCl ws2 H → va_D A ws2 → va_S A s.heap H locs → W p l e room_1 s m #[Value.ref b] below meth c H locs 123 7274 Q (F0 m 360 ls [])) : W p l e room_1 s m #[Value.ref b] below meth c H locs 123 7274 Q (F0 m 131 ls []) := by
  obtain ⟨hx, hb, hml, hown, hts, hK, hA, hN, hE, hzf, hX, hbl, hbA, hI, hC, hCR, hL⟩ := hLF
  obtain ⟨v, F, hF, hR⟩ := hM
  have hi1 : vp_in (nI i + 1) L := by rw [show nI i + 1 = nI (i + 1) from nI_add i 1]; exact vp_in_nI (by omega) (by omega)
  have hi2 : vp_in (nI i + 2) L := by rw [show nI i + 2 = nI (i + 2) from nI_add i 2]; exact vp_in_nI (by omega) (by omega)
  have hi3 : vp_in (nI i + 3) L := by rw [show nI i + 3 = nI (i + 3) from nI_add i 3]; exact vp_in_nI (by omega) (by omega)
  refine lv_aload_n hx hb dL_law_131 rfl (lv_at hl 1 rfl) ?_
  refine lv_aload_n hx hb dL_law_132 rfl (lv_at hl 0 rfl) ?_
  refine lv_iload_n hx hb dL_law_133 rfl (lv_at hl 3 rfl) ?_
  refine lv_iconst (v := 1) hx hb dL_law_134 (by decide) ?_
  refine lv_iadd hx hb dL_law_135 ?_
  refine va_sld hx hb hX hbl hbA hS hi1 dL_law_136 ?_
  refine lv_aload_n hx hb dL_law_137 rfl (lv_at hl 0 rfl) ?_
  refine lv_iload_n hx hb dL_law_138 rfl (lv_at hl 3 rfl) ?_
  refine lv_iconst (v := 2) hx hb dL_law_139 (by decide) ?_
  refine lv_iadd hx hb dL_law_140 ?_
  refine va_sld hx hb hX hbl hbA hS hi2 dL_law_141 ?_
  refine x_calli (x_runV (n := 2) (As := [.int (xs (nI i + 1).toNatClampNeg), .int (xs (nI i + 2).toNatClampNeg)]) (rest := []) ⟨hx, hb, hml, hown, hts⟩ (cQ_needs l D tys A ws1 cI hI cC hC cR hCR ad 0 q (xs (nI i + 1).toNatClampNeg) (xs (nI i + 2).toNatClampNeg) hQ) tw_181 tw_182 tw_183 tw_1 tw_184 (by decide +kernel) rfl rfl ⟨Nat.le_of_ble_eq_true rfl, Nat.le_of_ble_eq_true rfl⟩ ⟨Nat.le_of_ble_eq_true rfl, Nat.le_of_ble_eq_true rfl⟩ (va_recv hK hP (ci := 6) (q0 := 0) rfl hQ.1) hK hP hD hS hA hN rfl hl.1 rfl (lv_room (Nat.le_of_ble_eq_true rfl)) dL_law_142) hS (fun r1 ws2 H locs h1 hP hD hS => ?_)
  obtain ⟨h1, hf1, hQ⟩ := h1
  have hF := hF.keep hf1 (Or.inr (by decide))
  refine lv_aload_n hx hb dL_law_145 rfl (lv_at hl 2 rfl) ?_
  refine lv_aload_n hx hb dL_law_146 rfl (lv_at hl 0 rfl) ?_
  refine lv_iload_n hx hb dL_law_147 rfl (lv_at hl 3 rfl) ?_
  refine lv_iconst (v := 1) hx hb dL_law_148 (by decide) ?_
  refine lv_iadd hx hb dL_law_149 ?_
  refine va_sld hx hb hX hbl hbA hS hi1 dL_law_150 ?_
  refine lv_aload_n hx hb dL_law_151 rfl (lv_at hl 0 rfl) ?_
  refine lv_iload_n hx hb dL_law_152 rfl (lv_at hl 3 rfl) ?_
  refine lv_iconst (v := 2) hx hb dL_law_153 (by decide) ?_
  refine lv_iadd hx hb dL_law_154 ?_
  refine va_sld hx hb hX hbl hbA hS hi2 dL_law_155 ?_
  refine x_calli (x_runV (n := 2) (As := [.int (xs (nI i + 1).toNatClampNeg), .int (xs (nI i + 2).toNatClampNeg)]) (rest := [.int r1]) ⟨hx, hb, hml, hown, hts⟩ (cM_needs l D tys A ws2 cI hI ad 99 v F q hR (xs (nI i + 1).toNatClampNeg) (xs (nI i + 2).toNatClampNeg) hF) tw_743 tw_744 tw_745 tw_8 tw_746 (by decide +kernel) rfl rfl ⟨Nat.le_of_ble_eq_true rfl, Nat.le_of_ble_eq_true rfl⟩ ⟨Nat.le_of_ble_eq_true rfl, Nat.le_of_ble_eq_true rfl⟩ (va_recv hK hP (ci := 7) (q0 := 99) rfl hF.1) hK hP hD hS hA hN rfl hl.1 rfl (lv_room (Nat.le_of_ble_eq_true rfl)) dL_law_156) hS (fun r2 ws3 H locs h2 hP hD hS => ?_)
  obtain ⟨h2, hf2, hM⟩ := h2
  have hQ := hQ.keep hf2 (Or.inl (by decide))
  refine lv_icmp_eq (tgt := 360) hx hb dL_law_159 (by decide) (fun ce => ?_) (fun ce => ?_)
  · exact kk _ _ _ _ hQ hM hP hD hS
  · exact absurd (h1.trans h2.symm) ce

set_option maxHeartbeats 4000000 in
set_option maxRecDepth 100000 in
theorem law_need {p : Program} {l : Launch} {e : Env} {s : State} {m : MethodId} {below : List Frame} {meth : Method} {c : Code} {b L : Nat} {xs : Nat → Int32} {D : va_G} {tys : List (ClassId × FieldType)} {A : Nat → Prop} {adK adV : Nat → Nat} {zf : Value} {cI cC cR : ClassId} {ad : Nat → Nat} {Q : State → Prop} (hLF : LF p s m c b L xs D tys A adK adV zf cI cC cR) (i : Nat) (hi : i + 4 ≤ L) (q : QS) (ws1 : va_W) (H : Heap) (locs : List Loc) (ls : Array Slot) (hQ : QAt cI cC cR ad ws1 0 q) (hM : ModelAt cI ad ws1 99 q) (hP : va_P D xCl ws1 H) (hD : va_D A ws1) (hS : va_S A s.heap H locs) (hl : lv_has ls 4 [(0, .ref b), (1, .ref (ad 0)), (2, .ref (ad 99)), (3, .int (nI i))])
    (kk : ∀ (q1 : QS) (ws2 : va_W) (H : Heap) (locs : List Loc), QAt cI cC cR ad ws2 0 q1 → ModelAt cI ad ws2 99 q1 → va_P D xCl ws2 H → va_D A ws2 → va_S A s.heap H locs → W p l e room_1 s m #[Value.ref b] below meth c H locs 123 7274 Q (F0 m 360 ls [])) : W p l e room_1 s m #[Value.ref b] below meth c H locs 123 7274 Q (F0 m 164 ls []) := by
  obtain ⟨hx, hb, hml, hown, hts, hK, hA, hN, hE, hzf, hX, hbl, hbA, hI, hC, hCR, hL⟩ := hLF
  obtain ⟨v, F, hF, hR⟩ := hM
  have hi1 : vp_in (nI i + 1) L := by rw [show nI i + 1 = nI (i + 1) from nI_add i 1]; exact vp_in_nI (by omega) (by omega)
  have hi2 : vp_in (nI i + 2) L := by rw [show nI i + 2 = nI (i + 2) from nI_add i 2]; exact vp_in_nI (by omega) (by omega)
  have hi3 : vp_in (nI i + 3) L := by rw [show nI i + 3 = nI (i + 3) from nI_add i 3]; exact vp_in_nI (by omega) (by omega)
  refine lv_aload_n hx hb dL_law_164 rfl (lv_at hl 1 rfl) ?_
  refine lv_aload_n hx hb dL_law_165 rfl (lv_at hl 0 rfl) ?_
  refine lv_iload_n hx hb dL_law_166 rfl (lv_at hl 3 rfl) ?_
  refine lv_iconst (v := 1) hx hb dL_law_167 (by decide) ?_
  refine lv_iadd hx hb dL_law_168 ?_
  refine va_sld hx hb hX hbl hbA hS hi1 dL_law_169 ?_
  refine lv_aload_n hx hb dL_law_170 rfl (lv_at hl 0 rfl) ?_
  refine lv_iload_n hx hb dL_law_171 rfl (lv_at hl 3 rfl) ?_
  refine lv_iconst (v := 2) hx hb dL_law_172 (by decide) ?_
  refine lv_iadd hx hb dL_law_173 ?_
  refine va_sld hx hb hX hbl hbA hS hi2 dL_law_174 ?_
  refine x_calli (x_runV (n := 2) (As := [.int (xs (nI i + 1).toNatClampNeg), .int (xs (nI i + 2).toNatClampNeg)]) (rest := []) ⟨hx, hb, hml, hown, hts⟩ (cQ_need l D tys A ws1 cI hI cC hC cR hCR ad 0 q (xs (nI i + 1).toNatClampNeg) (xs (nI i + 2).toNatClampNeg) hQ) tw_192 tw_193 tw_194 tw_1 tw_195 (by decide +kernel) rfl rfl ⟨Nat.le_of_ble_eq_true rfl, Nat.le_of_ble_eq_true rfl⟩ ⟨Nat.le_of_ble_eq_true rfl, Nat.le_of_ble_eq_true rfl⟩ (va_recv hK hP (ci := 6) (q0 := 0) rfl hQ.1) hK hP hD hS hA hN rfl hl.1 rfl (lv_room (Nat.le_of_ble_eq_true rfl)) dL_law_175) hS (fun r1 ws2 H locs h1 hP hD hS => ?_)
  obtain ⟨h1, rfl⟩ := h1
  refine lv_aload_n hx hb dL_law_178 rfl (lv_at hl 2 rfl) ?_
  refine lv_aload_n hx hb dL_law_179 rfl (lv_at hl 0 rfl) ?_
  refine lv_iload_n hx hb dL_law_180 rfl (lv_at hl 3 rfl) ?_
  refine lv_iconst (v := 1) hx hb dL_law_181 (by decide) ?_
  refine lv_iadd hx hb dL_law_182 ?_
  refine va_sld hx hb hX hbl hbA hS hi1 dL_law_183 ?_
  refine lv_aload_n hx hb dL_law_184 rfl (lv_at hl 0 rfl) ?_
  refine lv_iload_n hx hb dL_law_185 rfl (lv_at hl 3 rfl) ?_
  refine lv_iconst (v := 2) hx hb dL_law_186 (by decide) ?_
  refine lv_iadd hx hb dL_law_187 ?_
  refine va_sld hx hb hX hbl hbA hS hi2 dL_law_188 ?_
  refine x_calli (x_runV (n := 2) (As := [.int (xs (nI i + 1).toNatClampNeg), .int (xs (nI i + 2).toNatClampNeg)]) (rest := [.int r1]) ⟨hx, hb, hml, hown, hts⟩ (cM_need l D tys A ws1 cI hI ad 99 v F q hR (xs (nI i + 1).toNatClampNeg) (xs (nI i + 2).toNatClampNeg) hF) tw_755 tw_756 tw_757 tw_8 tw_758 (by decide +kernel) rfl rfl ⟨Nat.le_of_ble_eq_true rfl, Nat.le_of_ble_eq_true rfl⟩ ⟨Nat.le_of_ble_eq_true rfl, Nat.le_of_ble_eq_true rfl⟩ (va_recv hK hP (ci := 7) (q0 := 99) rfl hF.1) hK hP hD hS hA hN rfl hl.1 rfl (lv_room (Nat.le_of_ble_eq_true rfl)) dL_law_189) hS (fun r2 ws3 H locs h2 hP hD hS => ?_)
  obtain ⟨h2, hf2, hM⟩ := h2
  have hQ := hQ.keep hf2 (Or.inl (by decide))
  refine lv_icmp_eq (tgt := 360) hx hb dL_law_192 (by decide) (fun ce => ?_) (fun ce => ?_)
  · exact kk _ _ _ _ hQ hM hP hD hS
  · exact absurd (h1.trans h2.symm) ce

set_option maxHeartbeats 4000000 in
set_option maxRecDepth 100000 in
theorem law_type {p : Program} {l : Launch} {e : Env} {s : State} {m : MethodId} {below : List Frame} {meth : Method} {c : Code} {b L : Nat} {xs : Nat → Int32} {D : va_G} {tys : List (ClassId × FieldType)} {A : Nat → Prop} {adK adV : Nat → Nat} {zf : Value} {cI cC cR : ClassId} {ad : Nat → Nat} {Q : State → Prop} (hLF : LF p s m c b L xs D tys A adK adV zf cI cC cR) (i : Nat) (hi : i + 4 ≤ L) (q : QS) (ws1 : va_W) (H : Heap) (locs : List Loc) (ls : Array Slot) (hQ : QAt cI cC cR ad ws1 0 q) (hM : ModelAt cI ad ws1 99 q) (hP : va_P D xCl ws1 H) (hD : va_D A ws1) (hS : va_S A s.heap H locs) (hl : lv_has ls 4 [(0, .ref b), (1, .ref (ad 0)), (2, .ref (ad 99)), (3, .int (nI i))])
    (kk : ∀ (q1 : QS) (ws2 : va_W) (H : Heap) (locs : List Loc), QAt cI cC cR ad ws2 0 q1 → ModelAt cI ad ws2 99 q1 → va_P D xCl ws2 H → va_D A ws2 → va_S A s.heap H locs → W p l e room_1 s m #[Value.ref b] below meth c H locs 123 7274 Q (F0 m 360 ls [])) : W p l e room_1 s m #[Value.ref b] below meth c H locs 123 7274 Q (F0 m 197 ls []) := by
  obtain ⟨hx, hb, hml, hown, hts, hK, hA, hN, hE, hzf, hX, hbl, hbA, hI, hC, hCR, hL⟩ := hLF
  obtain ⟨v, F, hF, hR⟩ := hM
  have hi1 : vp_in (nI i + 1) L := by rw [show nI i + 1 = nI (i + 1) from nI_add i 1]; exact vp_in_nI (by omega) (by omega)
  have hi2 : vp_in (nI i + 2) L := by rw [show nI i + 2 = nI (i + 2) from nI_add i 2]; exact vp_in_nI (by omega) (by omega)
  have hi3 : vp_in (nI i + 3) L := by rw [show nI i + 3 = nI (i + 3) from nI_add i 3]; exact vp_in_nI (by omega) (by omega)
  refine lv_aload_n hx hb dL_law_197 rfl (lv_at hl 1 rfl) ?_
  refine lv_aload_n hx hb dL_law_198 rfl (lv_at hl 0 rfl) ?_
  refine lv_iload_n hx hb dL_law_199 rfl (lv_at hl 3 rfl) ?_
  refine lv_iconst (v := 1) hx hb dL_law_200 (by decide) ?_
  refine lv_iadd hx hb dL_law_201 ?_
  refine va_sld hx hb hX hbl hbA hS hi1 dL_law_202 ?_
  refine lv_i2c (v := (nI ((xs (nI i + 1).toNatClampNeg).toBitVec.toNat % 65536))) hx hb dL_law_203 (pk_char _) ?_
  refine x_calli (x_runV (n := 1) (As := [.int (nI ((xs (nI i + 1).toNatClampNeg).toBitVec.toNat % 65536))]) (rest := []) ⟨hx, hb, hml, hown, hts⟩ (cQ_type l D tys A ws1 cI hI cC hC cR hCR ad 0 q ((xs (nI i + 1).toNatClampNeg).toBitVec.toNat % 65536) (Nat.mod_lt _ (by decide)) hQ) tw_200 tw_201 tw_202 tw_1 tw_203 (by decide +kernel) rfl rfl ⟨Nat.le_of_ble_eq_true rfl, Nat.le_of_ble_eq_true rfl⟩ ⟨Nat.le_of_ble_eq_true rfl, Nat.le_of_ble_eq_true rfl⟩ (va_recv hK hP (ci := 6) (q0 := 0) rfl hQ.1) hK hP hD hS hA hN rfl hl.1 rfl (lv_room (Nat.le_of_ble_eq_true rfl)) dL_law_204) hS (fun r1 ws2 H locs h1 hP hD hS => ?_)
  obtain ⟨h1, hf1, hQ⟩ := h1
  have hF := hF.keep hf1 (Or.inr (by decide))
  refine lv_aload_n hx hb dL_law_207 rfl (lv_at hl 2 rfl) ?_
  refine lv_aload_n hx hb dL_law_208 rfl (lv_at hl 0 rfl) ?_
  refine lv_iload_n hx hb dL_law_209 rfl (lv_at hl 3 rfl) ?_
  refine lv_iconst (v := 1) hx hb dL_law_210 (by decide) ?_
  refine lv_iadd hx hb dL_law_211 ?_
  refine va_sld hx hb hX hbl hbA hS hi1 dL_law_212 ?_
  refine lv_i2c (v := (nI ((xs (nI i + 1).toNatClampNeg).toBitVec.toNat % 65536))) hx hb dL_law_213 (pk_char _) ?_
  refine x_calli (x_runV (n := 1) (As := [.int (nI ((xs (nI i + 1).toNatClampNeg).toBitVec.toNat % 65536))]) (rest := [.int r1]) ⟨hx, hb, hml, hown, hts⟩ (cM_type l D tys A ws2 cI hI ad 99 v F q hR ((xs (nI i + 1).toNatClampNeg).toBitVec.toNat % 65536) (Nat.mod_lt _ (by decide)) hF) tw_759 tw_760 tw_761 tw_8 tw_762 (by decide +kernel) rfl rfl ⟨Nat.le_of_ble_eq_true rfl, Nat.le_of_ble_eq_true rfl⟩ ⟨Nat.le_of_ble_eq_true rfl, Nat.le_of_ble_eq_true rfl⟩ (va_recv hK hP (ci := 7) (q0 := 99) rfl hF.1) hK hP hD hS hA hN rfl hl.1 rfl (lv_room (Nat.le_of_ble_eq_true rfl)) dL_law_214) hS (fun r2 ws3 H locs h2 hP hD hS => ?_)
  obtain ⟨h2, hf2, hM⟩ := h2
  have hQ := hQ.keep hf2 (Or.inl (by decide))
  refine lv_icmp_eq (tgt := 360) hx hb dL_law_217 (by decide) (fun ce => ?_) (fun ce => ?_)
  · exact kk _ _ _ _ hQ hM hP hD hS
  · exact absurd (h1.trans h2.symm) ce

set_option maxHeartbeats 4000000 in
set_option maxRecDepth 100000 in
theorem law_ask {p : Program} {l : Launch} {e : Env} {s : State} {m : MethodId} {below : List Frame} {meth : Method} {c : Code} {b L : Nat} {xs : Nat → Int32} {D : va_G} {tys : List (ClassId × FieldType)} {A : Nat → Prop} {adK adV : Nat → Nat} {zf : Value} {cI cC cR : ClassId} {ad : Nat → Nat} {Q : State → Prop} (hLF : LF p s m c b L xs D tys A adK adV zf cI cC cR) (i : Nat) (hi : i + 4 ≤ L) (q : QS) (ws1 : va_W) (H : Heap) (locs : List Loc) (ls : Array Slot) (hQ : QAt cI cC cR ad ws1 0 q) (hM : ModelAt cI ad ws1 99 q) (hP : va_P D xCl ws1 H) (hD : va_D A ws1) (hS : va_S A s.heap H locs) (hl : lv_has ls 4 [(0, .ref b), (1, .ref (ad 0)), (2, .ref (ad 99)), (3, .int (nI i))])
    (kk : ∀ (q1 : QS) (ws2 : va_W) (H : Heap) (locs : List Loc), QAt cI cC cR ad ws2 0 q1 → ModelAt cI ad ws2 99 q1 → va_P D xCl ws2 H → va_D A ws2 → va_S A s.heap H locs → W p l e room_1 s m #[Value.ref b] below meth c H locs 123 7274 Q (F0 m 360 ls [])) : W p l e room_1 s m #[Value.ref b] below meth c H locs 123 7274 Q (F0 m 222 ls []) := by
  obtain ⟨hx, hb, hml, hown, hts, hK, hA, hN, hE, hzf, hX, hbl, hbA, hI, hC, hCR, hL⟩ := hLF
  obtain ⟨v, F, hF, hR⟩ := hM
  have hi1 : vp_in (nI i + 1) L := by rw [show nI i + 1 = nI (i + 1) from nI_add i 1]; exact vp_in_nI (by omega) (by omega)
  have hi2 : vp_in (nI i + 2) L := by rw [show nI i + 2 = nI (i + 2) from nI_add i 2]; exact vp_in_nI (by omega) (by omega)
  have hi3 : vp_in (nI i + 3) L := by rw [show nI i + 3 = nI (i + 3) from nI_add i 3]; exact vp_in_nI (by omega) (by omega)
  refine lv_aload_n hx hb dL_law_222 rfl (lv_at hl 1 rfl) ?_
  refine x_calli (x_runVs (n := 0) (As := []) (rest := []) ⟨hx, hb, hml, hown, hts⟩ (cQ_ask l D tys A ws1 adK adV zf hzf cI hI cC hC cR hCR ad 0 q  hQ) tw_208 tw_209 tw_210 tw_1 tw_211 (by decide +kernel) rfl rfl ⟨Nat.le_of_ble_eq_true rfl, Nat.le_of_ble_eq_true rfl⟩ ⟨Nat.le_of_ble_eq_true rfl, Nat.le_of_ble_eq_true rfl⟩ (va_recv hK hP (ci := 6) (q0 := 0) rfl hQ.1) hK hP hD hS hA hN hE rfl hl.1 rfl (lv_room (Nat.le_of_ble_eq_true rfl)) dL_law_223) hS (fun r1 ws2 H locs h1 hP hD hS => ?_)
  obtain ⟨sl, J, B, hsl, h1, hf1, hQ⟩ := h1
  have hF := hF.keep hf1 (Or.inr (by decide))
  refine lv_aload_n hx hb dL_law_226 rfl (lv_at hl 2 rfl) ?_
  refine x_calli (x_runV (n := 0) (As := []) (rest := [.int r1]) ⟨hx, hb, hml, hown, hts⟩ (cM_ask l D tys A ws2 cI hI ad 99 v F q hR sl J B hsl  hF) tw_763 tw_764 tw_765 tw_8 tw_766 (by decide +kernel) rfl rfl ⟨Nat.le_of_ble_eq_true rfl, Nat.le_of_ble_eq_true rfl⟩ ⟨Nat.le_of_ble_eq_true rfl, Nat.le_of_ble_eq_true rfl⟩ (va_recv hK hP (ci := 7) (q0 := 99) rfl hF.1) hK hP hD hS hA hN rfl hl.1 rfl (lv_room (Nat.le_of_ble_eq_true rfl)) dL_law_227) hS (fun r2 ws3 H locs h2 hP hD hS => ?_)
  obtain ⟨h2, hf2, hM⟩ := h2
  have hQ := hQ.keep hf2 (Or.inl (by decide))
  refine lv_icmp_eq (tgt := 360) hx hb dL_law_230 (by decide) (fun ce => ?_) (fun ce => ?_)
  · exact kk _ _ _ _ hQ hM hP hD hS
  · exact absurd (h1.trans h2.symm) ce

set_option maxHeartbeats 4000000 in
set_option maxRecDepth 100000 in
theorem law_answer {p : Program} {l : Launch} {e : Env} {s : State} {m : MethodId} {below : List Frame} {meth : Method} {c : Code} {b L : Nat} {xs : Nat → Int32} {D : va_G} {tys : List (ClassId × FieldType)} {A : Nat → Prop} {adK adV : Nat → Nat} {zf : Value} {cI cC cR : ClassId} {ad : Nat → Nat} {Q : State → Prop} (hLF : LF p s m c b L xs D tys A adK adV zf cI cC cR) (i : Nat) (hi : i + 4 ≤ L) (q : QS) (ws1 : va_W) (H : Heap) (locs : List Loc) (ls : Array Slot) (hQ : QAt cI cC cR ad ws1 0 q) (hM : ModelAt cI ad ws1 99 q) (hP : va_P D xCl ws1 H) (hD : va_D A ws1) (hS : va_S A s.heap H locs) (hl : lv_has ls 4 [(0, .ref b), (1, .ref (ad 0)), (2, .ref (ad 99)), (3, .int (nI i))])
    (kk : ∀ (q1 : QS) (ws2 : va_W) (H : Heap) (locs : List Loc), QAt cI cC cR ad ws2 0 q1 → ModelAt cI ad ws2 99 q1 → va_P D xCl ws2 H → va_D A ws2 → va_S A s.heap H locs → W p l e room_1 s m #[Value.ref b] below meth c H locs 123 7274 Q (F0 m 360 ls [])) : W p l e room_1 s m #[Value.ref b] below meth c H locs 123 7274 Q (F0 m 235 ls []) := by
  obtain ⟨hx, hb, hml, hown, hts, hK, hA, hN, hE, hzf, hX, hbl, hbA, hI, hC, hCR, hL⟩ := hLF
  obtain ⟨v, F, hF, hR⟩ := hM
  have hi1 : vp_in (nI i + 1) L := by rw [show nI i + 1 = nI (i + 1) from nI_add i 1]; exact vp_in_nI (by omega) (by omega)
  have hi2 : vp_in (nI i + 2) L := by rw [show nI i + 2 = nI (i + 2) from nI_add i 2]; exact vp_in_nI (by omega) (by omega)
  have hi3 : vp_in (nI i + 3) L := by rw [show nI i + 3 = nI (i + 3) from nI_add i 3]; exact vp_in_nI (by omega) (by omega)
  refine lv_aload_n hx hb dL_law_235 rfl (lv_at hl 1 rfl) ?_
  refine lv_aload_n hx hb dL_law_236 rfl (lv_at hl 0 rfl) ?_
  refine lv_iload_n hx hb dL_law_237 rfl (lv_at hl 3 rfl) ?_
  refine lv_iconst (v := 1) hx hb dL_law_238 (by decide) ?_
  refine lv_iadd hx hb dL_law_239 ?_
  refine va_sld hx hb hX hbl hbA hS hi1 dL_law_240 ?_
  refine x_calli (x_runV (n := 1) (As := [.int (xs (nI i + 1).toNatClampNeg)]) (rest := []) ⟨hx, hb, hml, hown, hts⟩ (cQ_answer l D tys A ws1 cI hI cC hC cR hCR ad 0 q (xs (nI i + 1).toNatClampNeg) hQ) tw_560 tw_561 tw_562 tw_1 tw_563 (by decide +kernel) rfl rfl ⟨Nat.le_of_ble_eq_true rfl, Nat.le_of_ble_eq_true rfl⟩ ⟨Nat.le_of_ble_eq_true rfl, Nat.le_of_ble_eq_true rfl⟩ (va_recv hK hP (ci := 6) (q0 := 0) rfl hQ.1) hK hP hD hS hA hN rfl hl.1 rfl (lv_room (Nat.le_of_ble_eq_true rfl)) dL_law_241) hS (fun r1 ws2 H locs h1 hP hD hS => ?_)
  obtain ⟨h1, rfl⟩ := h1
  refine lv_aload_n hx hb dL_law_244 rfl (lv_at hl 2 rfl) ?_
  refine lv_aload_n hx hb dL_law_245 rfl (lv_at hl 0 rfl) ?_
  refine lv_iload_n hx hb dL_law_246 rfl (lv_at hl 3 rfl) ?_
  refine lv_iconst (v := 1) hx hb dL_law_247 (by decide) ?_
  refine lv_iadd hx hb dL_law_248 ?_
  refine va_sld hx hb hX hbl hbA hS hi1 dL_law_249 ?_
  refine x_calli (x_runV (n := 1) (As := [.int (xs (nI i + 1).toNatClampNeg)]) (rest := [.int r1]) ⟨hx, hb, hml, hown, hts⟩ (cM_answer l D tys A ws1 cI hI ad 99 v F q hR (xs (nI i + 1).toNatClampNeg) hF) tw_877 tw_878 tw_879 tw_8 tw_880 (by decide +kernel) rfl rfl ⟨Nat.le_of_ble_eq_true rfl, Nat.le_of_ble_eq_true rfl⟩ ⟨Nat.le_of_ble_eq_true rfl, Nat.le_of_ble_eq_true rfl⟩ (va_recv hK hP (ci := 7) (q0 := 99) rfl hF.1) hK hP hD hS hA hN rfl hl.1 rfl (lv_room (Nat.le_of_ble_eq_true rfl)) dL_law_250) hS (fun r2 ws3 H locs h2 hP hD hS => ?_)
  obtain ⟨h2, hf2, hM⟩ := h2
  have hQ := hQ.keep hf2 (Or.inl (by decide))
  refine lv_icmp_eq (tgt := 360) hx hb dL_law_253 (by decide) (fun ce => ?_) (fun ce => ?_)
  · exact kk _ _ _ _ hQ hM hP hD hS
  · exact absurd (h1.trans h2.symm) ce

set_option maxHeartbeats 4000000 in
set_option maxRecDepth 100000 in
theorem law_nearest {p : Program} {l : Launch} {e : Env} {s : State} {m : MethodId} {below : List Frame} {meth : Method} {c : Code} {b L : Nat} {xs : Nat → Int32} {D : va_G} {tys : List (ClassId × FieldType)} {A : Nat → Prop} {adK adV : Nat → Nat} {zf : Value} {cI cC cR : ClassId} {ad : Nat → Nat} {Q : State → Prop} (hLF : LF p s m c b L xs D tys A adK adV zf cI cC cR) (i : Nat) (hi : i + 4 ≤ L) (q : QS) (ws1 : va_W) (H : Heap) (locs : List Loc) (ls : Array Slot) (hQ : QAt cI cC cR ad ws1 0 q) (hM : ModelAt cI ad ws1 99 q) (hP : va_P D xCl ws1 H) (hD : va_D A ws1) (hS : va_S A s.heap H locs) (hl : lv_has ls 4 [(0, .ref b), (1, .ref (ad 0)), (2, .ref (ad 99)), (3, .int (nI i))])
    (kk : ∀ (q1 : QS) (ws2 : va_W) (H : Heap) (locs : List Loc), QAt cI cC cR ad ws2 0 q1 → ModelAt cI ad ws2 99 q1 → va_P D xCl ws2 H → va_D A ws2 → va_S A s.heap H locs → W p l e room_1 s m #[Value.ref b] below meth c H locs 123 7274 Q (F0 m 360 ls [])) : W p l e room_1 s m #[Value.ref b] below meth c H locs 123 7274 Q (F0 m 258 ls []) := by
  obtain ⟨hx, hb, hml, hown, hts, hK, hA, hN, hE, hzf, hX, hbl, hbA, hI, hC, hCR, hL⟩ := hLF
  obtain ⟨v, F, hF, hR⟩ := hM
  have hi1 : vp_in (nI i + 1) L := by rw [show nI i + 1 = nI (i + 1) from nI_add i 1]; exact vp_in_nI (by omega) (by omega)
  have hi2 : vp_in (nI i + 2) L := by rw [show nI i + 2 = nI (i + 2) from nI_add i 2]; exact vp_in_nI (by omega) (by omega)
  have hi3 : vp_in (nI i + 3) L := by rw [show nI i + 3 = nI (i + 3) from nI_add i 3]; exact vp_in_nI (by omega) (by omega)
  refine lv_aload_n hx hb dL_law_258 rfl (lv_at hl 1 rfl) ?_
  refine x_calli (x_runV (n := 0) (As := []) (rest := []) ⟨hx, hb, hml, hown, hts⟩ (cQ_nearest l D tys A ws1 cI hI cC hC cR hCR ad 0 q  hQ) tw_565 tw_566 tw_567 tw_1 tw_568 (by decide +kernel) rfl rfl ⟨Nat.le_of_ble_eq_true rfl, Nat.le_of_ble_eq_true rfl⟩ ⟨Nat.le_of_ble_eq_true rfl, Nat.le_of_ble_eq_true rfl⟩ (va_recv hK hP (ci := 6) (q0 := 0) rfl hQ.1) hK hP hD hS hA hN rfl hl.1 rfl (lv_room (Nat.le_of_ble_eq_true rfl)) dL_law_259) hS (fun r1 ws2 H locs h1 hP hD hS => ?_)
  obtain ⟨h1, rfl⟩ := h1
  refine lv_aload_n hx hb dL_law_262 rfl (lv_at hl 2 rfl) ?_
  refine x_calli (x_runV (n := 0) (As := []) (rest := [.int r1]) ⟨hx, hb, hml, hown, hts⟩ (cM_nearest l D tys A ws1 cI hI ad 99 v F q hR  hF) tw_881 tw_882 tw_883 tw_8 tw_884 (by decide +kernel) rfl rfl ⟨Nat.le_of_ble_eq_true rfl, Nat.le_of_ble_eq_true rfl⟩ ⟨Nat.le_of_ble_eq_true rfl, Nat.le_of_ble_eq_true rfl⟩ (va_recv hK hP (ci := 7) (q0 := 99) rfl hF.1) hK hP hD hS hA hN rfl hl.1 rfl (lv_room (Nat.le_of_ble_eq_true rfl)) dL_law_263) hS (fun r2 ws3 H locs h2 hP hD hS => ?_)
  obtain ⟨h2, hf2, hM⟩ := h2
  have hQ := hQ.keep hf2 (Or.inl (by decide))
  refine lv_icmp_eq (tgt := 360) hx hb dL_law_266 (by decide) (fun ce => ?_) (fun ce => ?_)
  · exact kk _ _ _ _ hQ hM hP hD hS
  · exact absurd (h1.trans ((near_same hR.1.1 hR.2.2.2.2.2).trans h2.symm)) ce

set_option maxHeartbeats 4000000 in
set_option maxRecDepth 100000 in
theorem law_far {p : Program} {l : Launch} {e : Env} {s : State} {m : MethodId} {below : List Frame} {meth : Method} {c : Code} {b L : Nat} {xs : Nat → Int32} {D : va_G} {tys : List (ClassId × FieldType)} {A : Nat → Prop} {adK adV : Nat → Nat} {zf : Value} {cI cC cR : ClassId} {ad : Nat → Nat} {Q : State → Prop} (hLF : LF p s m c b L xs D tys A adK adV zf cI cC cR) (i : Nat) (hi : i + 4 ≤ L) (q : QS) (ws1 : va_W) (H : Heap) (locs : List Loc) (ls : Array Slot) (hQ : QAt cI cC cR ad ws1 0 q) (hM : ModelAt cI ad ws1 99 q) (hP : va_P D xCl ws1 H) (hD : va_D A ws1) (hS : va_S A s.heap H locs) (hl : lv_has ls 4 [(0, .ref b), (1, .ref (ad 0)), (2, .ref (ad 99)), (3, .int (nI i))])
    (kk : ∀ (q1 : QS) (ws2 : va_W) (H : Heap) (locs : List Loc), QAt cI cC cR ad ws2 0 q1 → ModelAt cI ad ws2 99 q1 → va_P D xCl ws2 H → va_D A ws2 → va_S A s.heap H locs → W p l e room_1 s m #[Value.ref b] below meth c H locs 123 7274 Q (F0 m 360 ls [])) : W p l e room_1 s m #[Value.ref b] below meth c H locs 123 7274 Q (F0 m 271 ls []) := by
  obtain ⟨hx, hb, hml, hown, hts, hK, hA, hN, hE, hzf, hX, hbl, hbA, hI, hC, hCR, hL⟩ := hLF
  obtain ⟨v, F, hF, hR⟩ := hM
  have hi1 : vp_in (nI i + 1) L := by rw [show nI i + 1 = nI (i + 1) from nI_add i 1]; exact vp_in_nI (by omega) (by omega)
  have hi2 : vp_in (nI i + 2) L := by rw [show nI i + 2 = nI (i + 2) from nI_add i 2]; exact vp_in_nI (by omega) (by omega)
  have hi3 : vp_in (nI i + 3) L := by rw [show nI i + 3 = nI (i + 3) from nI_add i 3]; exact vp_in_nI (by omega) (by omega)
  refine lv_aload_n hx hb dL_law_271 rfl (lv_at hl 1 rfl) ?_
  refine lv_aload_n hx hb dL_law_272 rfl (lv_at hl 0 rfl) ?_
  refine lv_iload_n hx hb dL_law_273 rfl (lv_at hl 3 rfl) ?_
  refine lv_iconst (v := 1) hx hb dL_law_274 (by decide) ?_
  refine lv_iadd hx hb dL_law_275 ?_
  refine va_sld hx hb hX hbl hbA hS hi1 dL_law_276 ?_
  refine lv_aload_n hx hb dL_law_277 rfl (lv_at hl 0 rfl) ?_
  refine lv_iload_n hx hb dL_law_278 rfl (lv_at hl 3 rfl) ?_
  refine lv_iconst (v := 2) hx hb dL_law_279 (by decide) ?_
  refine lv_iadd hx hb dL_law_280 ?_
  refine va_sld hx hb hX hbl hbA hS hi2 dL_law_281 ?_
  refine x_calli (x_runV (n := 2) (As := [.int (xs (nI i + 1).toNatClampNeg), .int (xs (nI i + 2).toNatClampNeg)]) (rest := []) ⟨hx, hb, hml, hown, hts⟩ (cQ_far l D tys A ws1 cI hI cC hC cR hCR ad 0 q (xs (nI i + 1).toNatClampNeg) (xs (nI i + 2).toNatClampNeg) hQ) tw_581 tw_582 tw_583 tw_1 tw_584 (by decide +kernel) rfl rfl ⟨Nat.le_of_ble_eq_true rfl, Nat.le_of_ble_eq_true rfl⟩ ⟨Nat.le_of_ble_eq_true rfl, Nat.le_of_ble_eq_true rfl⟩ (va_recv hK hP (ci := 6) (q0 := 0) rfl hQ.1) hK hP hD hS hA hN rfl hl.1 rfl (lv_room (Nat.le_of_ble_eq_true rfl)) dL_law_282) hS (fun r1 ws2 H locs h1 hP hD hS => ?_)
  obtain ⟨h1, rfl⟩ := h1
  refine lv_aload_n hx hb dL_law_285 rfl (lv_at hl 2 rfl) ?_
  refine lv_aload_n hx hb dL_law_286 rfl (lv_at hl 0 rfl) ?_
  refine lv_iload_n hx hb dL_law_287 rfl (lv_at hl 3 rfl) ?_
  refine lv_iconst (v := 1) hx hb dL_law_288 (by decide) ?_
  refine lv_iadd hx hb dL_law_289 ?_
  refine va_sld hx hb hX hbl hbA hS hi1 dL_law_290 ?_
  refine lv_aload_n hx hb dL_law_291 rfl (lv_at hl 0 rfl) ?_
  refine lv_iload_n hx hb dL_law_292 rfl (lv_at hl 3 rfl) ?_
  refine lv_iconst (v := 2) hx hb dL_law_293 (by decide) ?_
  refine lv_iadd hx hb dL_law_294 ?_
  refine va_sld hx hb hX hbl hbA hS hi2 dL_law_295 ?_
  refine x_calli (x_runV (n := 2) (As := [.int (xs (nI i + 1).toNatClampNeg), .int (xs (nI i + 2).toNatClampNeg)]) (rest := [.int r1]) ⟨hx, hb, hml, hown, hts⟩ (cM_far l D tys A ws1 cI hI ad 99 v F q hR (xs (nI i + 1).toNatClampNeg) (xs (nI i + 2).toNatClampNeg) hF) tw_885 tw_886 tw_887 tw_8 tw_888 (by decide +kernel) rfl rfl ⟨Nat.le_of_ble_eq_true rfl, Nat.le_of_ble_eq_true rfl⟩ ⟨Nat.le_of_ble_eq_true rfl, Nat.le_of_ble_eq_true rfl⟩ (va_recv hK hP (ci := 7) (q0 := 99) rfl hF.1) hK hP hD hS hA hN rfl hl.1 rfl (lv_room (Nat.le_of_ble_eq_true rfl)) dL_law_296) hS (fun r2 ws3 H locs h2 hP hD hS => ?_)
  obtain ⟨h2, hf2, hM⟩ := h2
  have hQ := hQ.keep hf2 (Or.inl (by decide))
  refine lv_icmp_eq (tgt := 360) hx hb dL_law_299 (by decide) (fun ce => ?_) (fun ce => ?_)
  · exact kk _ _ _ _ hQ hM hP hD hS
  · exact absurd (h1.trans h2.symm) ce

set_option maxHeartbeats 4000000 in
set_option maxRecDepth 100000 in
theorem law_ways {p : Program} {l : Launch} {e : Env} {s : State} {m : MethodId} {below : List Frame} {meth : Method} {c : Code} {b L : Nat} {xs : Nat → Int32} {D : va_G} {tys : List (ClassId × FieldType)} {A : Nat → Prop} {adK adV : Nat → Nat} {zf : Value} {cI cC cR : ClassId} {ad : Nat → Nat} {Q : State → Prop} (hLF : LF p s m c b L xs D tys A adK adV zf cI cC cR) (i : Nat) (hi : i + 4 ≤ L) (q : QS) (ws1 : va_W) (H : Heap) (locs : List Loc) (ls : Array Slot) (hQ : QAt cI cC cR ad ws1 0 q) (hM : ModelAt cI ad ws1 99 q) (hP : va_P D xCl ws1 H) (hD : va_D A ws1) (hS : va_S A s.heap H locs) (hl : lv_has ls 4 [(0, .ref b), (1, .ref (ad 0)), (2, .ref (ad 99)), (3, .int (nI i))])
    (kk : ∀ (q1 : QS) (ws2 : va_W) (H : Heap) (locs : List Loc), QAt cI cC cR ad ws2 0 q1 → ModelAt cI ad ws2 99 q1 → va_P D xCl ws2 H → va_D A ws2 → va_S A s.heap H locs → W p l e room_1 s m #[Value.ref b] below meth c H locs 123 7274 Q (F0 m 360 ls [])) : W p l e room_1 s m #[Value.ref b] below meth c H locs 123 7274 Q (F0 m 304 ls []) := by
  obtain ⟨hx, hb, hml, hown, hts, hK, hA, hN, hE, hzf, hX, hbl, hbA, hI, hC, hCR, hL⟩ := hLF
  obtain ⟨v, F, hF, hR⟩ := hM
  have hi1 : vp_in (nI i + 1) L := by rw [show nI i + 1 = nI (i + 1) from nI_add i 1]; exact vp_in_nI (by omega) (by omega)
  have hi2 : vp_in (nI i + 2) L := by rw [show nI i + 2 = nI (i + 2) from nI_add i 2]; exact vp_in_nI (by omega) (by omega)
  have hi3 : vp_in (nI i + 3) L := by rw [show nI i + 3 = nI (i + 3) from nI_add i 3]; exact vp_in_nI (by omega) (by omega)
  refine lv_aload_n hx hb dL_law_304 rfl (lv_at hl 1 rfl) ?_
  refine lv_aload_n hx hb dL_law_305 rfl (lv_at hl 0 rfl) ?_
  refine lv_iload_n hx hb dL_law_306 rfl (lv_at hl 3 rfl) ?_
  refine lv_iconst (v := 1) hx hb dL_law_307 (by decide) ?_
  refine lv_iadd hx hb dL_law_308 ?_
  refine va_sld hx hb hX hbl hbA hS hi1 dL_law_309 ?_
  refine lv_aload_n hx hb dL_law_310 rfl (lv_at hl 0 rfl) ?_
  refine lv_iload_n hx hb dL_law_311 rfl (lv_at hl 3 rfl) ?_
  refine lv_iconst (v := 2) hx hb dL_law_312 (by decide) ?_
  refine lv_iadd hx hb dL_law_313 ?_
  refine va_sld hx hb hX hbl hbA hS hi2 dL_law_314 ?_
  refine lv_aload_n hx hb dL_law_315 rfl (lv_at hl 0 rfl) ?_
  refine lv_iload_n hx hb dL_law_316 rfl (lv_at hl 3 rfl) ?_
  refine lv_iconst (v := 3) hx hb dL_law_317 (by decide) ?_
  refine lv_iadd hx hb dL_law_318 ?_
  refine va_sld hx hb hX hbl hbA hS hi3 dL_law_319 ?_
  refine x_calli (x_runV (n := 3) (As := [.int (xs (nI i + 1).toNatClampNeg), .int (xs (nI i + 2).toNatClampNeg), .int (xs (nI i + 3).toNatClampNeg)]) (rest := []) ⟨hx, hb, hml, hown, hts⟩ (cQ_ways l D tys A ws1 cI hI cC hC cR hCR ad 0 q (xs (nI i + 1).toNatClampNeg) (xs (nI i + 2).toNatClampNeg) (xs (nI i + 3).toNatClampNeg) hQ) tw_589 tw_590 tw_591 tw_1 tw_592 (by decide +kernel) rfl rfl ⟨Nat.le_of_ble_eq_true rfl, Nat.le_of_ble_eq_true rfl⟩ ⟨Nat.le_of_ble_eq_true rfl, Nat.le_of_ble_eq_true rfl⟩ (va_recv hK hP (ci := 6) (q0 := 0) rfl hQ.1) hK hP hD hS hA hN rfl hl.1 rfl (lv_room (Nat.le_of_ble_eq_true rfl)) dL_law_320) hS (fun r1 ws2 H locs h1 hP hD hS => ?_)
  obtain ⟨h1, rfl⟩ := h1
  refine lv_aload_n hx hb dL_law_323 rfl (lv_at hl 2 rfl) ?_
  refine lv_aload_n hx hb dL_law_324 rfl (lv_at hl 0 rfl) ?_
  refine lv_iload_n hx hb dL_law_325 rfl (lv_at hl 3 rfl) ?_
  refine lv_iconst (v := 1) hx hb dL_law_326 (by decide) ?_
  refine lv_iadd hx hb dL_law_327 ?_
  refine va_sld hx hb hX hbl hbA hS hi1 dL_law_328 ?_
  refine lv_aload_n hx hb dL_law_329 rfl (lv_at hl 0 rfl) ?_
  refine lv_iload_n hx hb dL_law_330 rfl (lv_at hl 3 rfl) ?_
  refine lv_iconst (v := 2) hx hb dL_law_331 (by decide) ?_
  refine lv_iadd hx hb dL_law_332 ?_
  refine va_sld hx hb hX hbl hbA hS hi2 dL_law_333 ?_
  refine lv_aload_n hx hb dL_law_334 rfl (lv_at hl 0 rfl) ?_
  refine lv_iload_n hx hb dL_law_335 rfl (lv_at hl 3 rfl) ?_
  refine lv_iconst (v := 3) hx hb dL_law_336 (by decide) ?_
  refine lv_iadd hx hb dL_law_337 ?_
  refine va_sld hx hb hX hbl hbA hS hi3 dL_law_338 ?_
  refine x_calli (x_runV (n := 3) (As := [.int (xs (nI i + 1).toNatClampNeg), .int (xs (nI i + 2).toNatClampNeg), .int (xs (nI i + 3).toNatClampNeg)]) (rest := [.int r1]) ⟨hx, hb, hml, hown, hts⟩ (cM_ways l D tys A ws1 cI hI ad 99 v F q hR (xs (nI i + 1).toNatClampNeg) (xs (nI i + 2).toNatClampNeg) (xs (nI i + 3).toNatClampNeg) hF) tw_889 tw_890 tw_891 tw_8 tw_892 (by decide +kernel) rfl rfl ⟨Nat.le_of_ble_eq_true rfl, Nat.le_of_ble_eq_true rfl⟩ ⟨Nat.le_of_ble_eq_true rfl, Nat.le_of_ble_eq_true rfl⟩ (va_recv hK hP (ci := 7) (q0 := 99) rfl hF.1) hK hP hD hS hA hN rfl hl.1 rfl (lv_room (Nat.le_of_ble_eq_true rfl)) dL_law_339) hS (fun r2 ws3 H locs h2 hP hD hS => ?_)
  obtain ⟨h2, hf2, hM⟩ := h2
  have hQ := hQ.keep hf2 (Or.inl (by decide))
  refine lv_icmp_eq (tgt := 360) hx hb dL_law_342 (by decide) (fun ce => ?_) (fun ce => ?_)
  · exact kk _ _ _ _ hQ hM hP hD hS
  · exact absurd (h1.trans h2.symm) ce

set_option maxHeartbeats 4000000 in
set_option maxRecDepth 100000 in
theorem law_work {p : Program} {l : Launch} {e : Env} {s : State} {m : MethodId} {below : List Frame} {meth : Method} {c : Code} {b L : Nat} {xs : Nat → Int32} {D : va_G} {tys : List (ClassId × FieldType)} {A : Nat → Prop} {adK adV : Nat → Nat} {zf : Value} {cI cC cR : ClassId} {ad : Nat → Nat} {Q : State → Prop} (hLF : LF p s m c b L xs D tys A adK adV zf cI cC cR) (i : Nat) (hi : i + 4 ≤ L) (q : QS) (ws1 : va_W) (H : Heap) (locs : List Loc) (ls : Array Slot) (hQ : QAt cI cC cR ad ws1 0 q) (hM : ModelAt cI ad ws1 99 q) (hP : va_P D xCl ws1 H) (hD : va_D A ws1) (hS : va_S A s.heap H locs) (hl : lv_has ls 4 [(0, .ref b), (1, .ref (ad 0)), (2, .ref (ad 99)), (3, .int (nI i))])
    (kk : ∀ (q1 : QS) (ws2 : va_W) (H : Heap) (locs : List Loc), QAt cI cC cR ad ws2 0 q1 → ModelAt cI ad ws2 99 q1 → va_P D xCl ws2 H → va_D A ws2 → va_S A s.heap H locs → W p l e room_1 s m #[Value.ref b] below meth c H locs 123 7274 Q (F0 m 360 ls [])) : W p l e room_1 s m #[Value.ref b] below meth c H locs 123 7274 Q (F0 m 347 ls []) := by
  obtain ⟨hx, hb, hml, hown, hts, hK, hA, hN, hE, hzf, hX, hbl, hbA, hI, hC, hCR, hL⟩ := hLF
  obtain ⟨v, F, hF, hR⟩ := hM
  have hi1 : vp_in (nI i + 1) L := by rw [show nI i + 1 = nI (i + 1) from nI_add i 1]; exact vp_in_nI (by omega) (by omega)
  have hi2 : vp_in (nI i + 2) L := by rw [show nI i + 2 = nI (i + 2) from nI_add i 2]; exact vp_in_nI (by omega) (by omega)
  have hi3 : vp_in (nI i + 3) L := by rw [show nI i + 3 = nI (i + 3) from nI_add i 3]; exact vp_in_nI (by omega) (by omega)
  refine lv_aload_n hx hb dL_law_347 rfl (lv_at hl 1 rfl) ?_
  refine x_calli (x_runV (n := 0) (As := []) (rest := []) ⟨hx, hb, hml, hown, hts⟩ (cQ_work l D tys A ws1 cI hI cC hC cR hCR ad 0 q  hQ) tw_607 tw_608 tw_609 tw_1 tw_610 (by decide +kernel) rfl rfl ⟨Nat.le_of_ble_eq_true rfl, Nat.le_of_ble_eq_true rfl⟩ ⟨Nat.le_of_ble_eq_true rfl, Nat.le_of_ble_eq_true rfl⟩ (va_recv hK hP (ci := 6) (q0 := 0) rfl hQ.1) hK hP hD hS hA hN rfl hl.1 rfl (lv_room (Nat.le_of_ble_eq_true rfl)) dL_law_348) hS (fun r1 ws2 H locs h1 hP hD hS => ?_)
  obtain ⟨h1, rfl⟩ := h1
  refine lv_aload_n hx hb dL_law_351 rfl (lv_at hl 2 rfl) ?_
  refine x_calli (x_runV (n := 0) (As := []) (rest := [.int r1]) ⟨hx, hb, hml, hown, hts⟩ (cM_work l D tys A ws1 cI hI ad 99 v F q hR  hF) tw_893 tw_894 tw_895 tw_8 tw_896 (by decide +kernel) rfl rfl ⟨Nat.le_of_ble_eq_true rfl, Nat.le_of_ble_eq_true rfl⟩ ⟨Nat.le_of_ble_eq_true rfl, Nat.le_of_ble_eq_true rfl⟩ (va_recv hK hP (ci := 7) (q0 := 99) rfl hF.1) hK hP hD hS hA hN rfl hl.1 rfl (lv_room (Nat.le_of_ble_eq_true rfl)) dL_law_352) hS (fun r2 ws3 H locs h2 hP hD hS => ?_)
  obtain ⟨h2, hf2, hM⟩ := h2
  have hQ := hQ.keep hf2 (Or.inl (by decide))
  refine lv_icmp_eq (tgt := 360) hx hb dL_law_355 (by decide) (fun ce => ?_) (fun ce => ?_)
  · exact kk _ _ _ _ hQ hM hP hD hS
  · exact absurd (h1.trans h2.symm) ce
