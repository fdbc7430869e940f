set_option maxHeartbeats 4000000 in
set_option maxRecDepth 100000 in
theorem law_loop {p : Program} {l : Launch} {e : Env} {s : State} {m : MethodId} {below : List Frame} {meth : Method} {c : Code} {b L : Nat} {xs : Nat → Int32} {D : va_G} {tys : List (ClassId × FieldType)} {adK adV : Nat → Nat} {zf : Value} {cI cC cR : ClassId} {ad : Nat → Nat} (hr : meth.sig.returnType = ret) (hlocks : meth.locks = false) (hLF : LF p s m c b L xs D tys (fun q : Nat => s.heap.size ≤ q) adK adV zf cI cC cR) :
    ∀ (n i : Nat), i ≤ L → L < i + n → ∀ (q : QS) (ws1 : va_W) (H : Heap) (locs : List Loc) (ls : Array Slot), QAt cI cC cR ad ws1 0 q → ModelAt cI ad ws1 99 q → va_P D xCl ws1 H → va_D (fun q : Nat => s.heap.size ≤ q) ws1 → va_S (fun q : Nat => s.heap.size ≤ q) s.heap H locs → lv_has ls 4 [(0, .ref b), (1, .ref (ad 0)), (2, .ref (ad 99)), (3, .int (nI i))] → W p l e room_1 s m #[Value.ref b] below meth c H locs 123 7274 (lw_Z below #[Value.ref b] s) (F0 m 18 ls []) := by
  obtain ⟨hx, hb, hml, hown, hts, hK, hA, hN, hE, hzf, hX, hbl, hbA, hI, hC, hCR, hL⟩ := id hLF
  intro n
  induction n with
  | zero => intro i h1 h2; exact absurd h2 (by omega)
  | succ n ih =>
    intro i hiL hn q ws1 H locs ls hQ hM hP hD hS hl
    have k360 : ∀ (q1 : QS) (ws2 : va_W) (H : Heap) (locs : List Loc), i + 4 ≤ L → QAt cI cC cR ad ws2 0 q1 → ModelAt cI ad ws2 99 q1 → va_P D xCl ws2 H → va_D (fun q : Nat => s.heap.size ≤ q) ws2 → va_S (fun q : Nat => s.heap.size ≤ q) s.heap H locs → W p l e room_1 s m #[Value.ref b] below meth c H locs 123 7274 (lw_Z below #[Value.ref b] s) (F0 m 360 ls []) := by
      intro q1 ws2 H locs hi hQ hM hP hD hS
      refine lv_iinc (v := nI (i + 4)) (lv' := [(3, .int (nI (i + 4))), (0, .ref b), (1, .ref (ad 0)), (2, .ref (ad 99))]) hx hb dL_law_360 hl (k := 3) rfl (nI_add i 4) (by decide) rfl (fun ls hl => ?_)
      refine lv_goto (tgt := 18) hx hb dL_law_363 (by decide) ?_
      exact ih (i + 4) hi (by omega) q1 ws2 H locs ls hQ hM hP hD hS (lv_sub hl [1, 2, 3, 0] rfl)
    refine lv_iload_n hx hb dL_law_18 rfl (lv_at hl 3 rfl) ?_
    refine lv_aload_n hx hb dL_law_19 rfl (lv_at hl 0 rfl) ?_
    refine va_slen hx hb hX hbl hbA hS dL_law_20 ?_
    refine lv_iconst (v := 4) hx hb dL_law_21 (by decide) ?_
    refine lv_isub hx hb dL_law_22 ?_
    have hsub : (Int32.ofNat L - 4 : Int32).toInt = (L : Int) - 4 := pk_sub_toInt (a := L) (b := 4) (by omega) (by decide)
    have hii : (nI i).toInt = (i : Int) := nI_toInt (by omega)
    refine lv_icmp_gt (tgt := 366) hx hb dL_law_23 (by decide) (fun ce => ?_) (fun ce => ?_)
    · refine lv_iconst (v := 1) hx hb dL_law_366 (by decide) ?_
      refine va_forget (fun q hq => hS.2.2 q hq) ?_
      refine W.widen (k := 600000) (n := 7302250) (Nat.le_of_ble_eq_true rfl) (Nat.le_of_ble_eq_true rfl) ?_
      exact lw_ret hx hb hr hlocks dL_law_367
    · have hi : i + 4 ≤ L := by rw [Int32.lt_iff_toInt_lt, hsub, hii] at ce; omega
      refine lv_aload_n hx hb dL_law_26 rfl (lv_at hl 0 rfl) ?_
      refine lv_iload_n hx hb dL_law_27 rfl (lv_at hl 3 rfl) ?_
      refine va_sld hx hb hX hbl hbA hS (vp_in_nI (by omega) (by omega)) dL_law_28 ?_
      refine lv_bipush (v := 15) hx hb dL_law_29 (by decide) ?_
      refine lv_iand hx hb dL_law_31 ?_
      obtain ⟨j, hj, ej⟩ := pk_andE (xs (nI i).toNatClampNeg) (m := 15) 4 (by decide)
      refine lv_topi (fun z ez => ?_)
      rw [ej] at ez
      subst ez
      rcases (show j = 0 ∨ j = 1 ∨ j = 2 ∨ j = 3 ∨ j = 4 ∨ j = 5 ∨ j = 6 ∨ j = 7 ∨ j = 8 ∨ j = 9 ∨ 10 ≤ j by omega) with rfl | rfl | rfl | rfl | rfl | rfl | rfl | rfl | rfl | rfl | h10
      · refine lv_tableIn (tgt := 88) hx hb dL_law_32 (by decide) (by decide) rfl (by decide) ?_
        exact law_target hLF i hi q ws1 H locs ls hQ hM hP hD hS hl (fun q1 ws2 H locs hQ hM hP hD hS => k360 q1 ws2 H locs hi hQ hM hP hD hS)
      · refine lv_tableIn (tgt := 131) hx hb dL_law_32 (by decide) (by decide) rfl (by decide) ?_
        exact law_needs hLF i hi q ws1 H locs ls hQ hM hP hD hS hl (fun q1 ws2 H locs hQ hM hP hD hS => k360 q1 ws2 H locs hi hQ hM hP hD hS)
      · refine lv_tableIn (tgt := 164) hx hb dL_law_32 (by decide) (by decide) rfl (by decide) ?_
        exact law_need hLF i hi q ws1 H locs ls hQ hM hP hD hS hl (fun q1 ws2 H locs hQ hM hP hD hS => k360 q1 ws2 H locs hi hQ hM hP hD hS)
      · refine lv_tableIn (tgt := 197) hx hb dL_law_32 (by decide) (by decide) rfl (by decide) ?_
        exact law_type hLF i hi q ws1 H locs ls hQ hM hP hD hS hl (fun q1 ws2 H locs hQ hM hP hD hS => k360 q1 ws2 H locs hi hQ hM hP hD hS)
      · refine lv_tableIn (tgt := 222) hx hb dL_law_32 (by decide) (by decide) rfl (by decide) ?_
        exact law_ask hLF i hi q ws1 H locs ls hQ hM hP hD hS hl (fun q1 ws2 H locs hQ hM hP hD hS => k360 q1 ws2 H locs hi hQ hM hP hD hS)
      · refine lv_tableIn (tgt := 235) hx hb dL_law_32 (by decide) (by decide) rfl (by decide) ?_
        exact law_answer hLF i hi q ws1 H locs ls hQ hM hP hD hS hl (fun q1 ws2 H locs hQ hM hP hD hS => k360 q1 ws2 H locs hi hQ hM hP hD hS)
      · refine lv_tableIn (tgt := 258) hx hb dL_law_32 (by decide) (by decide) rfl (by decide) ?_
        exact law_nearest hLF i hi q ws1 H locs ls hQ hM hP hD hS hl (fun q1 ws2 H locs hQ hM hP hD hS => k360 q1 ws2 H locs hi hQ hM hP hD hS)
      · refine lv_tableIn (tgt := 271) hx hb dL_law_32 (by decide) (by decide) rfl (by decide) ?_
        exact law_far hLF i hi q ws1 H locs ls hQ hM hP hD hS hl (fun q1 ws2 H locs hQ hM hP hD hS => k360 q1 ws2 H locs hi hQ hM hP hD hS)
      · refine lv_tableIn (tgt := 304) hx hb dL_law_32 (by decide) (by decide) rfl (by decide) ?_
        exact law_ways hLF i hi q ws1 H locs ls hQ hM hP hD hS hl (fun q1 ws2 H locs hQ hM hP hD hS => k360 q1 ws2 H locs hi hQ hM hP hD hS)
      · refine lv_tableIn (tgt := 347) hx hb dL_law_32 (by decide) (by decide) rfl (by decide) ?_
        exact law_work hLF i hi q ws1 H locs ls hQ hM hP hD hS hl (fun q1 ws2 H locs hQ hM hP hD hS => k360 q1 ws2 H locs hi hQ hM hP hD hS)
      · have hjj : (nI j).toInt = (j : Int) := nI_toInt (by omega)
        refine lv_tableOut (tgt := 360) hx hb dL_law_32 (Or.inr (by rw [hjj]; omega)) (by decide) ?_
        exact k360 q ws1 H locs hi hQ hM hP hD hS
set_option maxHeartbeats 4000000 in
set_option maxRecDepth 100000 in
theorem whole_start {p : Program} {e : Env} {s : State} {m : MethodId} {below : List Frame} {meth : Method} {c : Code} (l : Launch) {b L : Nat} {xs : Nat → Int32} (hL : L ≤ 2048) (C0 : lw_At p s m meth c b L xs) : W p l e room_1 s m #[Value.ref b] below meth c s.heap [] 0 0 (lw_Z below #[Value.ref b] s) (entryFrame m ([Value.ref b] : List Value).toArray 4) := by
  obtain ⟨D, tys, adK, adV, zf, cI, cC, cR, hLF⟩ := lw_LF hL C0
  obtain ⟨-, -, hr, -, -, hts0, -, -, hlocks, -⟩ := C0
  obtain ⟨hx, hb, hml, hown, hts, hK, hA, hN, hE, hzf, hX, hbl, hbA, hI, hC, hCR, hL⟩ := id hLF
  have hO9 : va_AO "GraphQuery$Row" s := va_AO.of (hts0 _ lt_120)
  have hS : va_S (fun q : Nat => s.heap.size ≤ q) s.heap s.heap [] := va_S.rf
  have hP : va_P D xCl [] s.heap := fun k q h => by simp at h
  have hD : va_D (fun q : Nat => s.heap.size ≤ q) [] := ⟨fun i j p q h => by simp at h, fun k q h => by simp at h⟩
  have hl := lv_entry ([.ref b]) (n := 4) (Nat.le_of_ble_eq_true rfl)
  rw [lg_entry_eq]
  generalize (lg_sl ([.ref b]) ++ List.replicate (4 - (lg_sl ([.ref b])).length) Slot.unset).toArray = ls at hl ⊢
  have hl : lv_has ls 4 [(0, .ref b)] := hl
  refine va_new (ci := 6) (fs := [.null, .null, .null, .null, .null, .int 0, .int 0]) (C := rnQ) (T := tbQ) (N := 7) hx hb hts inQ tyQ toQ hown (hts _ tw_15) (hts _ tw_16) (hts _ tw_1) hK hP hD hS hA rfl (fun j hj => by match j, hj with | 0, _ => rfl | 1, _ => rfl | 2, _ => rfl | 3, _ => rfl | 4, _ => rfl | 5, _ => rfl | 6, _ => rfl | n + 7, h => exact absurd h (by omega)) (Nat.le_of_ble_eq_true rfl) (Nat.le_of_ble_eq_true rfl) dL_law_0 (fun q1 H hP hD hS => ?_)
  obtain ⟨w1, w1l, w1o, w1n, hP, hD⟩ := x_app hP hD
  refine W.widen (k := 1) (n := 7) (Nat.le_of_ble_eq_true rfl) (Nat.le_of_ble_eq_true rfl) ?_
  refine lv_dup hx hb dL_law_3 rfl ?_
  refine x_callv (x_runIo (n := 0) (As := []) (rest := [.ref q1]) ⟨hx, hb, hml, hown, hts⟩ (cQ_init l D tys _ w1 cI hI cC hC cR hCR 0 q1 w1n w1l) tw_17 tw_18 tw_1 tw_19 rfl (by decide +kernel) rfl rfl ⟨Nat.le_of_ble_eq_true rfl, Nat.le_of_ble_eq_true rfl⟩ ⟨Nat.le_of_ble_eq_true rfl, Nat.le_of_ble_eq_true rfl⟩ hK hP hD hS hA hN hO9 rfl hl.1 rfl (lv_room (Nat.le_of_ble_eq_true rfl)) dL_law_4) hS (fun w2 H locs hq hP hD hS => ?_)
  obtain ⟨g2, hq⟩ := hq
  have hwl2 : w2.length = 99 := g2.1
  refine W.widen (k := 99) (n := 2363) (Nat.le_of_ble_eq_true rfl) (Nat.le_of_ble_eq_true rfl) ?_
  refine lv_astore_n (lv' := [(1, .ref q1), (0, .ref b)]) hx hb dL_law_7 rfl hl (by decide) rfl (fun ls hl => ?_)
  refine va_new (ci := 7) (fs := [.int 0, .int 0, .null, .null, .null, .null, .null, .null, .int 0, .int 0, .int 0, .int 0, .int 0, .int 0, .null, .null, .null, .null, .int 0, .null, .null, .null, .int 0, .null, .null, .null, .null, .null, .int 0, .int 0, .int 0, .null, .null, .null, .int 0, .int 0, .int 0, .null, .null]) (C := rnM) (T := tbM) (N := 39) hx hb hts inM tyM toM hown (hts _ tw_611) (hts _ tw_612) (hts _ tw_8) hK hP hD hS hA rfl (fun j hj => by match j, hj with | 0, _ => rfl | 1, _ => rfl | 2, _ => rfl | 3, _ => rfl | 4, _ => rfl | 5, _ => rfl | 6, _ => rfl | 7, _ => rfl | 8, _ => rfl | 9, _ => rfl | 10, _ => rfl | 11, _ => rfl | 12, _ => rfl | 13, _ => rfl | 14, _ => rfl | 15, _ => rfl | 16, _ => rfl | 17, _ => rfl | 18, _ => rfl | 19, _ => rfl | 20, _ => rfl | 21, _ => rfl | 22, _ => rfl | 23, _ => rfl | 24, _ => rfl | 25, _ => rfl | 26, _ => rfl | 27, _ => rfl | 28, _ => rfl | 29, _ => rfl | 30, _ => rfl | 31, _ => rfl | 32, _ => rfl | 33, _ => rfl | 34, _ => rfl | 35, _ => rfl | 36, _ => rfl | 37, _ => rfl | 38, _ => rfl | n + 39, h => exact absurd h (by omega)) (Nat.le_of_ble_eq_true rfl) (Nat.le_of_ble_eq_true rfl) dL_law_8 (fun q2 H hP hD hS => ?_)
  obtain ⟨w3, w3l, w3o, w3n, hP, hD⟩ := x_app hP hD
  rw [hwl2] at w3l w3o w3n
  refine W.widen (k := 100) (n := 2402) (Nat.le_of_ble_eq_true rfl) (Nat.le_of_ble_eq_true rfl) ?_
  refine lv_dup hx hb dL_law_11 rfl ?_
  refine x_callv (x_runI (n := 0) (As := []) (rest := [.ref q2]) ⟨hx, hb, hml, hown, hts⟩ (cM_init l D tys _ w3 cI hI 99 q2 w3n w3l) tw_613 tw_614 tw_8 tw_615 rfl (by decide +kernel) rfl rfl ⟨Nat.le_of_ble_eq_true rfl, Nat.le_of_ble_eq_true rfl⟩ ⟨Nat.le_of_ble_eq_true rfl, Nat.le_of_ble_eq_true rfl⟩ hK hP hD hS hA hN rfl hl.1 rfl (lv_room (Nat.le_of_ble_eq_true rfl)) dL_law_12) hS (fun w4 H locs hm hP hD hS => ?_)
  obtain ⟨g4, hm⟩ := hm
  refine W.widen (k := 123) (n := 7274) (Nat.le_of_ble_eq_true rfl) (Nat.le_of_ble_eq_true rfl) ?_
  refine lv_astore_n (lv' := [(2, .ref q2), (1, .ref q1), (0, .ref b)]) hx hb dL_law_15 rfl hl (by decide) rfl (fun ls hl => ?_)
  refine lv_iconst (v := 0) hx hb dL_law_16 (by decide) ?_
  refine lv_istore_n (lv' := [(3, .int 0), (2, .ref q2), (1, .ref q1), (0, .ref b)]) hx hb dL_law_17 rfl hl (by decide) rfl (fun ls hl => ?_)
  obtain ⟨ad, had⟩ := x_ad.ex w4
  have had3 : x_ad ad w3 := x_ad.gr w3n w3l g4 had
  have had2 : x_ad ad w2 := x_ad.app (by rw [hwl2]; exact w3o) had3
  have hM := hm ad had
  have hlen4 : w4.length = 123 := g4.1
  have hfr : x_fr 99 123 w2 w4 := fun j hj => hj.elim (fun z => (g4.2.1 j z).trans (w3o j z)) (fun z => by rw [List.getElem?_eq_none (by omega), List.getElem?_eq_none (by omega)])
  have hQ := (hq ad had2).keep hfr (Or.inl (by decide))
  obtain ⟨e2, he2⟩ := g2.2.2
  obtain ⟨e4, he4⟩ := g4.2.2
  have a0 : q1 = ad 0 := had2 0 _ he2
  have a99 : q2 = ad 99 := had 99 _ he4
  have hl : lv_has ls 4 [(3, .int (nI 0)), (2, .ref q2), (1, .ref q1), (0, .ref b)] := hl
  rw [a0, a99] at hl
  exact law_loop hr hlocks hLF (L + 1) 0 (Nat.zero_le _) (by omega) _ w4 H locs ls hQ hM hP hD hS (lv_sub hl [3, 2, 1, 0] rfl)
set_option maxHeartbeats 4000000 in
theorem lw_walk (l : Launch) (b : Addr) (xs : List Int32) : MetFree l x (headSpec (Jvm.Cond.code x code maxLocals ret :: tables_1) room_1) (lw_P b xs) (fun _ _ _ _ _ => True) lw_Q := by
  refine MetFree.of_bodyS (code := code) (maxLocals := maxLocals) (ret := ret) (by decide) ?_ ?_
  · intro args s m h hn
    obtain ⟨meth, c, h1, h2, h3, h4, h5, h6, -, -⟩ := Cond.code_spec hn (atoms_spec (ws := Jvm.Cond.code x code maxLocals ret :: tables_1) h _ List.mem_cons_self)
    exact ⟨meth, c, h1, h2, h3, h4, h5, h6⟩
  · intro p e s m args below meth c s₁ B hml0 hP _
    obtain ⟨rfl, hx, hbd, hgv⟩ := hP
    obtain ⟨scr, harrAt, hlist, hof, hsmall⟩ := hx
    obtain ⟨hcb, hkn, -, -⟩ := State.arrayAt?_spec harrAt
    have hown : s.vm.findClass R_law = some m.cls := findClass_of_methodNamed B.named
    have hts0 : ∀ c ∈ (Jvm.Cond.code x code maxLocals ret :: tables_1), c.before #[Value.ref b] s = true := atoms_spec (ws := Jvm.Cond.code x code maxLocals ret :: tables_1) B.pre
    have hts : ∀ w ∈ lw_tbl, w.before #[Value.ref b] s = true := k2_hts_sels lw_privs (fun w hw => hts0 w (List.mem_cons_of_mem _ hw)) lw_privs_ok
    have hml : c.maxLocals = 4 := B.maxLocals_eq (hts0 _ List.mem_cons_self)
    have X₀ : Stand p l e room_1 s m #[Value.ref b] below meth c s₁ [] 0 0 := Stand.of_body B
    have hh0 : s₁.heap = s.heap := by rw [B.state]; rfl
    have hsz : scr.slots.size = xs.length := by rw [← Array.length_toList, hlist, List.length_map]
    have hval : ∀ j : Nat, j < xs.length → scr.slots[j]? = some (.int (xs.getD j 0)) := fun j hj => by
      rw [← Array.getElem?_toList, hlist]
      simp [hj]
    have hbl : b < s.heap.size := (Array.getElem?_eq_some_iff.mp hcb).1
    have hX : va_X b xs.length (fun j => xs.getD j 0) s s.heap := ⟨scr, hcb, hof, hkn, hsz, hval⟩
    have K : W p l e room_1 s m #[Value.ref b] below meth c s₁.heap [] 0 0 (lw_Z below #[Value.ref b] s) (entryFrame m ([Value.ref b] : List Value).toArray 4) := by
      rw [hh0]
      exact whole_start l hbd ⟨B.exec, B.bytes, B.returns, hml, hown, hts, hX, hbl, B.notSynchronized, hgv⟩
    obtain ⟨t, a1, o, b1, b2, b3⟩ := K s₁ rfl X₀
    exact ⟨t, o, a1, b1, b2, b3⟩
theorem lw_pre_spec {args : Array Value} {s : State} (h : (Jvm.Cond.and given_1 narrow_1).before args s = true) (hr : rest_1_c.before args s = true) : ∃ (b : Addr) (xs : List Int32), lw_P b xs args s := by
  have hs := flat_of_before _ h
  have hq := flat_of_before _ hr
  have hc : (Cond.count 1).before args s = true := hs _ (by decide +kernel)
  have harr : (Cond.arrayOf (.arg 0) .int).before args s = true := hs _ (by decide +kernel)
  have hle : (Cond.le (.length (.arg 0)) (.int 2048)).before args s = true := hs _ (by decide +kernel)
  have hlen : (Cond.isInt (.length (.arg 0))).before args s = true := hq _ (by decide +kernel)
  have hall : (Cond.all (.arg 0) (.isInt (.elem (.arg 0) (.index 0)))).before args s = true := hq _ (by decide +kernel)
  obtain ⟨b, xs, hb, hx⟩ := State.ints_of_pre rfl harr hlen hall
  have hsm : xs.length < 2 ^ 31 := hx.choose_spec.2.2.2
  have hev : (Term.length (.arg 0)).eval args s none [] s = some (.int xs.length.toInt32) := hx.length_eval hb
  have hv := Cond.le_ints hev (show (Term.int 2048).eval args s none [] s = some (.int 2048) from rfl)
  have hd : xs.length.toInt32 ≤ 2048 := by
    simpa [Cond.before, Cond.holds, hv] using hle
  have hN : xs.length ≤ 2048 := (Int32.ofNat_le_ofNat hsm (by decide)).mp (show Int32.ofNat xs.length ≤ Int32.ofNat 2048 from hd)
  exact ⟨b, xs, Cond.one_arg hc (show args[0]? = some (.ref b) from hb), hx, hN, h⟩
theorem lw_comes (l : Launch) : Comes l x (Jvm.Cond.code x code maxLocals ret :: tables_1) room_1 (fun tb e args s => Calls_1 tb e args s ∧ rest_1 tb e args s ∧ Pre_1 tb e args s)
    (fun _ _ args s o t => lw_Q args s o t) := by
  intro p e ha hc hk s m args below hf hfit hheap happ hpre
  obtain ⟨b, xs, hP⟩ := lw_pre_spec hpre.2.2 hpre.2.1
  obtain ⟨k, o, h1, h2, h3, hQ⟩ := lw_walk l b xs p e ha hc hk s m args below hf ((Spec.applies_iff_loose hf).mp happ).1 hP trivial
  exact ⟨k, o, h1, h2, h3, hQ⟩
theorem lw_frame {s t : State} {o : Outcome} {args : Array Value} (h : Framed s o t [] 600000 7302250) :
    Framed s o t (fieldLocs frame_1_writes args s ++ arrayLocs frame_1_arrays args s ++ staticLocs frame_1_statics s) 600000 7302250 := h
theorem lw_limb (L : Cond) (hL : ∀ (args : Array Value) (s t : State), L.after args s (.returned (some (.int 1))) t = true) :
    ArmFor flags0 classFile x code maxLocals ret World_1 tables_1 room_1 Calls_1 rest_1 Pre_1
      (fun tb e a s o t => postC L tb e a s o t ∧ Framed s o t (fieldLocs frame_1_writes a s ++ arrayLocs frame_1_arrays a s ++ staticLocs frame_1_statics s) 600000 7302250) := by
  intro l _ _ _ p e ha hc hk s m args below hf hfit hheap happ hpre
  obtain ⟨k, o, h1, h2, h3, rfl, hF⟩ := lw_comes l p e ha hc hk s m args below hf hfit hheap happ hpre
  exact ⟨k, _, h1, h2, h3, hL args s _, lw_frame hF⟩
theorem i_vc : Claimed_1_1 ∧ Claimed_1_2 := ⟨lw_limb limb_1_1 (fun args s t => by simp [limb_1_1, Cond.after, Cond.holds, Cond.value]), lw_limb limb_1_2 (fun args s t => Cond.after_iff.mpr (by
  first | (rw [show limb_1_2 = Cond.eq .result (.int 1) from rfl, Cond.eq_ints (x := 1) (y := 1) rfl rfl]; simp; done) | (simp [limb_1_2, Cond.value, Term.eval]; done)))⟩
