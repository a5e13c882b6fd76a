set_option maxHeartbeats 4000000 in
set_option maxRecDepth 100000 in
/-- the law: case get -/
theorem law_get {p : Program} {e : Env} {s : State} {m : MethodId} {below : List Frame} {meth : Method} {c : Code} (l : Launch) (hl0 : l.stackTraces = false) {b L : Nat} {xs : Nat → Int32} (hL : L ≤ 2048) (C0 : lw_At p s m meth c b L xs) (g : mt_G) (hE : mt_E g s) (hz : g.2.1 = s.heap.size) (am av ab ao x ar al : Nat) (i cn : Nat) (th : Int32) (fv fb : Nat → Int32) (fo : Nat → Int64) (fr : Nat → Option Nat) (n cap : Nat) (LL : va_W) (LP : List Nat) (nf : Nat → mt_N) (ls : Array Slot) (H : Heap) (locs : List Loc) (hi4 : 4 * i + 4 ≤ L) (hi : mt_Inv g s am av ab ao x ar al i cn th fv fb fo fr n cap LL LP nf H locs) (hl : lv_has ls 8 [(4, .int (nI (4 * i))), (3, .ref ao), (2, .ref am), (1, .ref x), (0, .ref b)]) (kk : ∀ (cn : Nat) (th : Int32) (fv fb : Nat → Int32) (fo : Nat → Int64) (fr : Nat → Option Nat) (n cap : Nat) (LL : va_W) (LP : List Nat) (nf : Nat → mt_N) (ls : Array Slot) (H : Heap) (locs : List Loc), mt_Inv g s am av ab ao x ar al (i + 1) cn th fv fb fo fr n cap LL LP nf H locs → lv_has ls 8 [(4, .int (nI (4 * i))), (3, .ref ao), (2, .ref am), (1, .ref x), (0, .ref b)] → W p l e room_1 s m #[Value.ref b] below meth c H locs (100 + 60 * (i + 1)) (mt_SF (i + 1)) (lw_Z below #[Value.ref b] s) (F0 m 768 ls [])) : W p l e room_1 s m #[Value.ref b] below meth c H locs (100 + 60 * i) (mt_SF i) (lw_Z below #[Value.ref b] s) (F0 m 324 ls []) := by
  obtain ⟨hx, hb, hr, hml, hown, hts, hX, hbl, hlocks, hgv⟩ := C0
  have hts := mt_htsL hts
  have hK := hE.k
  have hA : ∀ q : Nat, s.heap.size ≤ q → mt_A g q := fun q h => Nat.le_trans (Nat.le_of_eq hz) h
  have hbA : ¬ mt_A g b := fun h => absurd (Nat.lt_of_lt_of_le hbl (Nat.le_trans (Nat.le_of_eq hz.symm) h)) (Nat.lt_irrefl _)
  have hz2 : g.2.1 ≤ s.heap.size := Nat.le_of_eq hz
  obtain ⟨hcn1, hn9, hfb, hLL, hlc, hok, hrep, hP, hD, hS⟩ := hi
  have hcn : cn ≤ 600 := by omega
  obtain ⟨hnc1, hnc2⟩ := mt_lc_max hlc
  have hsf : mt_SF (i + 1) = mt_SF i + 36 * i + 300 := rfl
  have hsm := mt_SF_le (i := i) (by omega)
  refine lv_aload_n hx hb dXL_law_324 rfl (lv_at hl 3 rfl) ?_
  refine lv_aload_n hx hb dXL_law_325 rfl (lv_at hl 4 rfl) ?_
  refine lv_iload hx hb dXL_law_326 (lv_at hl 0 rfl) ?_
  refine lv_iconst (v := 1) hx hb dXL_law_328 (by decide +kernel) ?_
  refine lv_iadd hx hb dXL_law_329 ?_
  refine qa_i (y := (nI (4 * i + 1))) (nI_1 (4 * i)) ?_
  refine va_sld hx hb hX hbl hbA hS (vp_in_nI (n := 4 * i + 1) (by omega) (by omega)) dXL_law_330 ?_
  refine qa_i (y := (xs (4 * i + 1))) (by rw [nI_clamp (by omega)]) ?_
  refine lv_aload_n hx hb dXL_law_331 rfl (lv_at hl 4 rfl) ?_
  refine lv_iload hx hb dXL_law_332 (lv_at hl 0 rfl) ?_
  refine lv_iconst (v := (nI 2)) hx hb dXL_law_334 (by decide +kernel) ?_
  refine lv_iadd hx hb dXL_law_335 ?_
  refine qa_i (y := (nI (4 * i + 2))) (nI_add (4 * i) 2) ?_
  refine va_sld hx hb hX hbl hbA hS (vp_in_nI (n := 4 * i + 2) (by omega) (by omega)) dXL_law_336 ?_
  refine qa_i (y := (xs (4 * i + 2))) (by rw [nI_clamp (by omega)]) ?_
  refine lv_aload_n hx hb dXL_law_337 rfl (lv_at hl 1 rfl) ?_
  refine va_calli (vx_runSW (As := [.ref x, .int (xs (4 * i + 1)), .int (xs (4 * i + 2)), .ref ao]) (rest := []) ⟨hx, hb, hml, hown, hts⟩ (c_L_get l g hl0 (am, .inr (2, [.ref av, .ref ab, .int (nI cn), .int th])) (av, .inl (g.2.2.2 2, 153600, .inl fv)) (ab, .inl (g.2.2.2 3, 153600, .inl fb)) ao fo x ar al cn fr n cap LL LP nf hLL hlc (by omega) hok (mt_ft fv fb) hrep hcn (xs (4 * i + 1)) (xs (4 * i + 2))) (vx_cwSW 4 hts (mt_giS mw_320 mw_321 mw_0 (mt_giW mw_322)) rfl rfl rfl (by decide +kernel) ⟨Nat.le_of_ble_eq_true rfl, Nat.le_of_ble_eq_true rfl⟩) (mt_preS hE hz2 hS hP hD) rfl rfl hl.1 rfl (lv_room (Nat.le_of_ble_eq_true rfl)) dXL_law_338 ⟨by show 100 + 60 * i + (3) ≤ 601024; omega, by show mt_SF i + (18) ≤ 7293034; omega⟩) hS (fun _ _ h => h) (fun _ h => h) (fun r1 u1 t1 H locs ht1 hvm1 hpo1 hB1 hz1 hk1 hS => ?_)
  obtain ⟨cn1, fr1, LL1, LP1, nf1, fo1⟩ := u1
  obtain ⟨hP, hD⟩ := hB1
  rw [ht1] at hP
  dsimp only at hP hD hpo1
  refine lv_istore (i := 5) (lv' := [(5, .int r1), (4, .int (nI (4 * i))), (3, .ref ao), (2, .ref am), (1, .ref x), (0, .ref b)]) hx hb dXL_law_341 hl (by decide) rfl (fun ls hl => ?_)
  refine lv_aload_n hx hb dXL_law_343 rfl (lv_at hl 3 rfl) ?_
  refine lv_aload_n hx hb dXL_law_344 rfl (lv_at hl 5 rfl) ?_
  refine lv_iload hx hb dXL_law_345 (lv_at hl 1 rfl) ?_
  refine lv_iconst (v := 1) hx hb dXL_law_347 (by decide +kernel) ?_
  refine lv_iadd hx hb dXL_law_348 ?_
  refine qa_i (y := (nI (4 * i + 1))) (nI_1 (4 * i)) ?_
  refine va_sld hx hb hX hbl hbA hS (vp_in_nI (n := 4 * i + 1) (by omega) (by omega)) dXL_law_349 ?_
  refine qa_i (y := (xs (4 * i + 1))) (by rw [nI_clamp (by omega)]) ?_
  refine lv_aload_n hx hb dXL_law_350 rfl (lv_at hl 5 rfl) ?_
  refine lv_iload hx hb dXL_law_351 (lv_at hl 1 rfl) ?_
  refine lv_iconst (v := (nI 2)) hx hb dXL_law_353 (by decide +kernel) ?_
  refine lv_iadd hx hb dXL_law_354 ?_
  refine qa_i (y := (nI (4 * i + 2))) (nI_add (4 * i) 2) ?_
  refine va_sld hx hb hX hbl hbA hS (vp_in_nI (n := 4 * i + 2) (by omega) (by omega)) dXL_law_355 ?_
  refine qa_i (y := (xs (4 * i + 2))) (by rw [nI_clamp (by omega)]) ?_
  refine va_calli (va_runV (As := [.int (xs (4 * i + 1)), .int (xs (4 * i + 2))]) (rest := []) ⟨hx, hb, hml, hown, hts⟩ (c_M_get l g am av ab cn th fv fb _ hcn hfb (xs (4 * i + 1)) (xs (4 * i + 2))) (cwV 2 hts (mt_giV mw_426 mw_427 mw_428 mw_5 (mt_gi mw_429)) rfl rfl rfl (by decide +kernel) ⟨Nat.le_of_ble_eq_true rfl, Nat.le_of_ble_eq_true rfl⟩) (mt_preV hE hz2 hS hP hD (va_recv hK hP (q := (RXM, TXM, 4)) (q0 := 0) rfl rfl)) rfl rfl hl.1 rfl (lv_room (Nat.le_of_ble_eq_true rfl)) dXL_law_356 ⟨by show 100 + 60 * i + (3) + 0 ≤ 601024; omega, by show mt_SF i + (18) + 0 ≤ 7293034; omega⟩) hS (fun _ _ h => h) (fun _ h => h) (fun r2 u2 t2 H locs ht2 hvm2 hpo2 hB2 hz2x hk2 hS => ?_)
  obtain ⟨cn2, th2, f2, h2⟩ := u2
  obtain ⟨hP, hD⟩ := hB2
  rw [ht2] at hP
  dsimp only at hP hD hpo2
  refine lv_istore (i := 6) (lv' := [(6, .int r2), (5, .int r1), (4, .int (nI (4 * i))), (3, .ref ao), (2, .ref am), (1, .ref x), (0, .ref b)]) hx hb dXL_law_359 hl (by decide) rfl (fun ls hl => ?_)
  refine lv_aload_n hx hb dXL_law_361 rfl (lv_at hl 4 rfl) ?_
  refine vp_callSi (W.runV (As := []) (rest := []) ⟨hx, hb, hml, hown, hts⟩ (c_M_thrown l g am av ab (nI cn2) th2 f2 h2 _) (cwV 0 hts (mt_giV mw_401 mw_402 mw_403 mw_5 (mt_gi mw_404)) rfl rfl rfl (by decide +kernel) ⟨Nat.le_of_ble_eq_true rfl, Nat.le_of_ble_eq_true rfl⟩) (mt_preV hE hz2 hS hP hD (va_recv hK hP (q := (RXM, TXM, 4)) (q0 := 0) rfl rfl)) rfl rfl hl.1 rfl (lv_room (Nat.le_of_ble_eq_true rfl)) dXL_law_362 ⟨by show 100 + 60 * i + (3) + 0 + 0 ≤ 601024; omega, by show mt_SF i + (18) + 0 + 0 ≤ 7293034; omega⟩) (fun z3 e3 => ?_)
  subst e3
  refine lv_iload hx hb dXL_law_365 (lv_at hl 1 rfl) ?_
  rcases hpo1 with ⟨rfl, hbad, hq1⟩ | ⟨rfl, ⟨ja, oa, hja, hoa, eva, eka, hnone⟩, hq1⟩ | ⟨rfl, zz, ⟨ja, oa, hja, hoa, eva, eka, hsome⟩, hq1⟩
  · have hq1 := hq1.symm
    simp only [Prod.mk.injEq] at hq1
    obtain ⟨rfl, rfl, rfl, rfl, rfl, rfl⟩ := hq1
    rcases hpo2 with ⟨hbad2, hq2⟩ | ⟨j, o, hj, ho, ev, ek, ⟨hf0, hq2⟩ | ⟨hf1, e3, hq2⟩⟩
    · have hq2 := hq2.symm
      simp only [Prod.mk.injEq] at hq2
      obtain ⟨rfl, rfl, rfl, rfl⟩ := hq2
      have hl : lv_has ls 8 [(6, .int r2), (5, .int 1), (4, .int (nI (4 * i))), (3, .ref ao), (2, .ref am), (1, .ref x), (0, .ref b)] := hl
      refine lv_icmp_eq (tgt := 372) hx hb dXL_law_367 (by decide) (fun _ => ?_) (fun z => absurd rfl z)
      refine lv_iload hx hb dXL_law_372 (lv_at hl 1 rfl) ?_
      refine lv_if_ne (tgt := 389) hx hb dXL_law_374 (by decide) (fun _ => ?_) (fun z => absurd z (show ¬ (1 : Int32) = 0 by decide))
      refine lv_goto (tgt := 768) hx hb dXL_law_389 (by decide) ?_
      have hl := lv_sub (l' := [(4, .int (nI (4 * i))), (3, .ref ao), (2, .ref am), (1, .ref x), (0, .ref b)]) hl [2, 3, 4, 5, 6] rfl
      refine W.widen (k := 100 + 60 * (i + 1)) (n := mt_SF (i + 1)) (by omega) (by omega) ?_
      exact kk cn 1 fv fb _ fr n cap LL LP nf ls H locs ⟨by omega, by omega, hfb, hLL, hlc, hok, hrep, hP, hD, hS⟩ hl
    · exact absurd ⟨mt_ver_of hcn hj ev, mt_key_of ho ek⟩ hbad
    · exact absurd ⟨mt_ver_of hcn hj ev, mt_key_of ho ek⟩ hbad
  · have hq1 := hq1.symm
    simp only [Prod.mk.injEq] at hq1
    obtain ⟨rfl, rfl, rfl, rfl, rfl, rfl⟩ := hq1
    rcases hpo2 with ⟨hbad2, hq2⟩ | ⟨j, o, hj, ho, ev, ek, ⟨hf0, hq2⟩ | ⟨hf1, e3, hq2⟩⟩
    · exact absurd ⟨mt_ver_of hcn hja eva, mt_key_of hoa eka⟩ hbad2
    · have hq2 := hq2.symm
      simp only [Prod.mk.injEq] at hq2
      obtain ⟨rfl, rfl, rfl, rfl⟩ := hq2
      have hl : lv_has ls 8 [(6, .int r2), (5, .int 2), (4, .int (nI (4 * i))), (3, .ref ao), (2, .ref am), (1, .ref x), (0, .ref b)] := hl
      refine lv_icmp_eq (tgt := 372) hx hb dXL_law_367 (by decide) (fun _ => ?_) (fun z => absurd rfl z)
      refine lv_iload hx hb dXL_law_372 (lv_at hl 1 rfl) ?_
      refine lv_if_ne (tgt := 389) hx hb dXL_law_374 (by decide) (fun _ => ?_) (fun z => absurd z (show ¬ (2 : Int32) = 0 by decide))
      refine lv_goto (tgt := 768) hx hb dXL_law_389 (by decide) ?_
      have hl := lv_sub (l' := [(4, .int (nI (4 * i))), (3, .ref ao), (2, .ref am), (1, .ref x), (0, .ref b)]) hl [2, 3, 4, 5, 6] rfl
      refine W.widen (k := 100 + 60 * (i + 1)) (n := mt_SF (i + 1)) (by omega) (by omega) ?_
      exact kk cn 2 fv fb _ fr n cap LL LP nf ls H locs ⟨by omega, by omega, hfb, hLL, hlc, hok, hrep, hP, hD, hS⟩ hl
    · exact absurd hnone (by rw [show ja = j from (nI_eq (by omega) (by omega)).mp (eva.symm.trans ev), show oa = o from (nI_eq (by omega) (by omega)).mp (eka.symm.trans ek)]; unfold mt_ft; rw [if_neg (by rw [hf1]; decide)]; intro z9; cases z9)
  · have hq1 := hq1.symm
    simp only [Prod.mk.injEq] at hq1
    obtain ⟨rfl, rfl, rfl, rfl, rfl, rfl⟩ := hq1
    rcases hpo2 with ⟨hbad2, hq2⟩ | ⟨j, o, hj, ho, ev, ek, ⟨hf0, hq2⟩ | ⟨hf1, e3, hq2⟩⟩
    · exact absurd ⟨mt_ver_of hcn hja eva, mt_key_of hoa eka⟩ hbad2
    · exact absurd hsome (by rw [show ja = j from (nI_eq (by omega) (by omega)).mp (eva.symm.trans ev), show oa = o from (nI_eq (by omega) (by omega)).mp (eka.symm.trans ek)]; unfold mt_ft; rw [if_pos hf0]; intro z9; cases z9)
    · have hq2 := hq2.symm
      simp only [Prod.mk.injEq] at hq2
      obtain ⟨rfl, rfl, rfl, rfl⟩ := hq2
      have hl : lv_has ls 8 [(6, .int r2), (5, .int 0), (4, .int (nI (4 * i))), (3, .ref ao), (2, .ref am), (1, .ref x), (0, .ref b)] := hl
      refine lv_icmp_eq (tgt := 372) hx hb dXL_law_367 (by decide) (fun _ => ?_) (fun z => absurd rfl z)
      refine lv_iload hx hb dXL_law_372 (lv_at hl 1 rfl) ?_
      refine lv_if_ne (tgt := 389) hx hb dXL_law_374 (by decide) (fun z => absurd rfl z) (fun _ => ?_)
      refine lv_aload_n hx hb dXL_law_377 rfl (lv_at hl 3 rfl) ?_
      refine lv_iconst (v := 0) hx hb dXL_law_378 (by decide +kernel) ?_
      refine va_lald (D := g.1) (cl := vwCl) hx hb hK hP 3 4 rfl rfl (show vp_in 0 1 by unfold vp_in; decide) dXL_law_379 ?_
      refine qa_l (y := zz.toInt64) (by rw [sb_cl0]; exact pk_uLs) ?_
      have ezz : zz = r2 := by rw [show ja = j from (nI_eq (by omega) (by omega)).mp (eva.symm.trans ev), show oa = o from (nI_eq (by omega) (by omega)).mp (eka.symm.trans ek)] at hsome; unfold mt_ft at hsome; rw [if_neg (by rw [hf1]; decide)] at hsome; rw [e3]; exact (Option.some.inj hsome).symm
      subst ezz
      refine lv_iload hx hb dXL_law_380 (lv_at hl 0 rfl) ?_
      refine lv_i2l (v := zz.toInt64) hx hb dXL_law_382 rfl ?_
      refine W.lcmp hx hb dXL_law_383 ?_
      refine lv_if_eq (tgt := 389) hx hb dXL_law_384 (by decide) (fun _ => ?_) (fun z => absurd (qa_cmp _) z)
      refine lv_goto (tgt := 768) hx hb dXL_law_389 (by decide) ?_
      have hl := lv_sub (l' := [(4, .int (nI (4 * i))), (3, .ref ao), (2, .ref am), (1, .ref x), (0, .ref b)]) hl [2, 3, 4, 5, 6] rfl
      refine W.widen (k := 100 + 60 * (i + 1)) (n := mt_SF (i + 1)) (by omega) (by omega) ?_
      exact kk cn 0 fv fb _ fr n cap LL LP nf ls H locs ⟨by omega, by omega, hfb, hLL, hlc, hok, hrep, hP, hD, hS⟩ hl
set_option maxHeartbeats 4000000 in
set_option maxRecDepth 100000 in
/-- the law: case select -/
theorem law_select {p : Program} {e : Env} {s : State} {m : MethodId} {below : List Frame} {meth : Method} {c : Code} (l : Launch) (hl0 : l.stackTraces = false) {b L : Nat} {xs : Nat → Int32} (hL : L ≤ 2048) (C0 : lw_At p s m meth c b L xs) (g : mt_G) (hE : mt_E g s) (hz : g.2.1 = s.heap.size) (am av ab ao x ar al : Nat) (i cn : Nat) (th : Int32) (fv fb : Nat → Int32) (fo : Nat → Int64) (fr : Nat → Option Nat) (n cap : Nat) (LL : va_W) (LP : List Nat) (nf : Nat → mt_N) (ls : Array Slot) (H : Heap) (locs : List Loc) (hi4 : 4 * i + 4 ≤ L) (hi : mt_Inv g s am av ab ao x ar al i cn th fv fb fo fr n cap LL LP nf H locs) (hl : lv_has ls 8 [(4, .int (nI (4 * i))), (3, .ref ao), (2, .ref am), (1, .ref x), (0, .ref b)]) (kk : ∀ (cn : Nat) (th : Int32) (fv fb : Nat → Int32) (fo : Nat → Int64) (fr : Nat → Option Nat) (n cap : Nat) (LL : va_W) (LP : List Nat) (nf : Nat → mt_N) (ls : Array Slot) (H : Heap) (locs : List Loc), mt_Inv g s am av ab ao x ar al (i + 1) cn th fv fb fo fr n cap LL LP nf H locs → lv_has ls 8 [(4, .int (nI (4 * i))), (3, .ref ao), (2, .ref am), (1, .ref x), (0, .ref b)] → W p l e room_1 s m #[Value.ref b] below meth c H locs (100 + 60 * (i + 1)) (mt_SF (i + 1)) (lw_Z below #[Value.ref b] s) (F0 m 768 ls [])) : W p l e room_1 s m #[Value.ref b] below meth c H locs (100 + 60 * i) (mt_SF i) (lw_Z below #[Value.ref b] s) (F0 m 392 ls []) := by
  obtain ⟨hx, hb, hr, hml, hown, hts, hX, hbl, hlocks, hgv⟩ := C0
  have hts := mt_htsL hts
  have hK := hE.k
  have hA : ∀ q : Nat, s.heap.size ≤ q → mt_A g q := fun q h => Nat.le_trans (Nat.le_of_eq hz) h
  have hbA : ¬ mt_A g b := fun h => absurd (Nat.lt_of_lt_of_le hbl (Nat.le_trans (Nat.le_of_eq hz.symm) h)) (Nat.lt_irrefl _)
  have hz2 : g.2.1 ≤ s.heap.size := Nat.le_of_eq hz
  obtain ⟨hcn1, hn9, hfb, hLL, hlc, hok, hrep, hP, hD, hS⟩ := hi
  have hcn : cn ≤ 600 := by omega
  obtain ⟨hnc1, hnc2⟩ := mt_lc_max hlc
  have hsf : mt_SF (i + 1) = mt_SF i + 36 * i + 300 := rfl
  have hsm := mt_SF_le (i := i) (by omega)
  refine lv_aload_n hx hb dXL_law_392 rfl (lv_at hl 3 rfl) ?_
  refine lv_aload_n hx hb dXL_law_393 rfl (lv_at hl 4 rfl) ?_
  refine lv_iload hx hb dXL_law_394 (lv_at hl 0 rfl) ?_
  refine lv_iconst (v := 1) hx hb dXL_law_396 (by decide +kernel) ?_
  refine lv_iadd hx hb dXL_law_397 ?_
  refine qa_i (y := (nI (4 * i + 1))) (nI_1 (4 * i)) ?_
  refine va_sld hx hb hX hbl hbA hS (vp_in_nI (n := 4 * i + 1) (by omega) (by omega)) dXL_law_398 ?_
  refine qa_i (y := (xs (4 * i + 1))) (by rw [nI_clamp (by omega)]) ?_
  refine lv_aload_n hx hb dXL_law_399 rfl (lv_at hl 4 rfl) ?_
  refine lv_iload hx hb dXL_law_400 (lv_at hl 0 rfl) ?_
  refine lv_iconst (v := (nI 2)) hx hb dXL_law_402 (by decide +kernel) ?_
  refine lv_iadd hx hb dXL_law_403 ?_
  refine qa_i (y := (nI (4 * i + 2))) (nI_add (4 * i) 2) ?_
  refine va_sld hx hb hX hbl hbA hS (vp_in_nI (n := 4 * i + 2) (by omega) (by omega)) dXL_law_404 ?_
  refine qa_i (y := (xs (4 * i + 2))) (by rw [nI_clamp (by omega)]) ?_
  refine lv_aload_n hx hb dXL_law_405 rfl (lv_at hl 1 rfl) ?_
  refine va_calli (vx_runSW (As := [.ref x, .int (xs (4 * i + 1)), .int (xs (4 * i + 2)), .ref ao]) (rest := []) ⟨hx, hb, hml, hown, hts⟩ (c_L_select l g hl0 (am, .inr (2, [.ref av, .ref ab, .int (nI cn), .int th])) (av, .inl (g.2.2.2 2, 153600, .inl fv)) (ab, .inl (g.2.2.2 3, 153600, .inl fb)) ao fo x ar al cn fr n cap LL LP nf hLL hlc (by omega) hok (mt_ft fv fb) hrep hcn (xs (4 * i + 1)) (xs (4 * i + 2))) (vx_cwSW 4 hts (mt_giS mw_327 mw_328 mw_0 (mt_giW mw_329)) rfl rfl rfl (by decide +kernel) ⟨Nat.le_of_ble_eq_true rfl, Nat.le_of_ble_eq_true rfl⟩) (mt_preS hE hz2 hS hP hD) rfl rfl hl.1 rfl (lv_room (Nat.le_of_ble_eq_true rfl)) dXL_law_406 ⟨by show 100 + 60 * i + (2) ≤ 601024; omega, by show mt_SF i + (12) ≤ 7293034; omega⟩) hS (fun _ _ h => h) (fun _ h => h) (fun r1 u1 t1 H locs ht1 hvm1 hpo1 hB1 hz1 hk1 hS => ?_)
  obtain ⟨cn1, fr1, LL1, LP1, nf1, fo1⟩ := u1
  obtain ⟨hP, hD⟩ := hB1
  rw [ht1] at hP
  dsimp only at hP hD hpo1
  refine lv_istore (i := 5) (lv' := [(5, .int r1), (4, .int (nI (4 * i))), (3, .ref ao), (2, .ref am), (1, .ref x), (0, .ref b)]) hx hb dXL_law_409 hl (by decide) rfl (fun ls hl => ?_)
  refine lv_aload_n hx hb dXL_law_411 rfl (lv_at hl 3 rfl) ?_
  refine lv_aload_n hx hb dXL_law_412 rfl (lv_at hl 5 rfl) ?_
  refine lv_iload hx hb dXL_law_413 (lv_at hl 1 rfl) ?_
  refine lv_iconst (v := 1) hx hb dXL_law_415 (by decide +kernel) ?_
  refine lv_iadd hx hb dXL_law_416 ?_
  refine qa_i (y := (nI (4 * i + 1))) (nI_1 (4 * i)) ?_
  refine va_sld hx hb hX hbl hbA hS (vp_in_nI (n := 4 * i + 1) (by omega) (by omega)) dXL_law_417 ?_
  refine qa_i (y := (xs (4 * i + 1))) (by rw [nI_clamp (by omega)]) ?_
  refine lv_aload_n hx hb dXL_law_418 rfl (lv_at hl 5 rfl) ?_
  refine lv_iload hx hb dXL_law_419 (lv_at hl 1 rfl) ?_
  refine lv_iconst (v := (nI 2)) hx hb dXL_law_421 (by decide +kernel) ?_
  refine lv_iadd hx hb dXL_law_422 ?_
  refine qa_i (y := (nI (4 * i + 2))) (nI_add (4 * i) 2) ?_
  refine va_sld hx hb hX hbl hbA hS (vp_in_nI (n := 4 * i + 2) (by omega) (by omega)) dXL_law_423 ?_
  refine qa_i (y := (xs (4 * i + 2))) (by rw [nI_clamp (by omega)]) ?_
  refine va_calli (va_runV (As := [.int (xs (4 * i + 1)), .int (xs (4 * i + 2))]) (rest := []) ⟨hx, hb, hml, hown, hts⟩ (c_M_select l g am av ab cn th fv fb _ hcn hfb (xs (4 * i + 1)) (xs (4 * i + 2))) (cwV 2 hts (mt_giV mw_430 mw_431 mw_432 mw_5 (mt_gi mw_433)) rfl rfl rfl (by decide +kernel) ⟨Nat.le_of_ble_eq_true rfl, Nat.le_of_ble_eq_true rfl⟩) (mt_preV hE hz2 hS hP hD (va_recv hK hP (q := (RXM, TXM, 4)) (q0 := 0) rfl rfl)) rfl rfl hl.1 rfl (lv_room (Nat.le_of_ble_eq_true rfl)) dXL_law_424 ⟨by show 100 + 60 * i + (2) + 0 ≤ 601024; omega, by show mt_SF i + (12) + 0 ≤ 7293034; omega⟩) hS (fun _ _ h => h) (fun _ h => h) (fun r2 u2 t2 H locs ht2 hvm2 hpo2 hB2 hz2x hk2 hS => ?_)
  obtain ⟨cn2, th2, f2, h2⟩ := u2
  obtain ⟨hP, hD⟩ := hB2
  rw [ht2] at hP
  dsimp only at hP hD hpo2
  refine lv_istore (i := 6) (lv' := [(6, .int r2), (5, .int r1), (4, .int (nI (4 * i))), (3, .ref ao), (2, .ref am), (1, .ref x), (0, .ref b)]) hx hb dXL_law_427 hl (by decide) rfl (fun ls hl => ?_)
  refine lv_aload_n hx hb dXL_law_429 rfl (lv_at hl 4 rfl) ?_
  refine vp_callSi (W.runV (As := []) (rest := []) ⟨hx, hb, hml, hown, hts⟩ (c_M_thrown l g am av ab (nI cn2) th2 f2 h2 _) (cwV 0 hts (mt_giV mw_401 mw_402 mw_403 mw_5 (mt_gi mw_404)) rfl rfl rfl (by decide +kernel) ⟨Nat.le_of_ble_eq_true rfl, Nat.le_of_ble_eq_true rfl⟩) (mt_preV hE hz2 hS hP hD (va_recv hK hP (q := (RXM, TXM, 4)) (q0 := 0) rfl rfl)) rfl rfl hl.1 rfl (lv_room (Nat.le_of_ble_eq_true rfl)) dXL_law_430 ⟨by show 100 + 60 * i + (2) + 0 + 0 ≤ 601024; omega, by show mt_SF i + (12) + 0 + 0 ≤ 7293034; omega⟩) (fun z3 e3 => ?_)
  subst e3
  refine lv_iload hx hb dXL_law_433 (lv_at hl 1 rfl) ?_
  rcases hpo1 with ⟨rfl, hbad, hq1⟩ | ⟨rfl, zz, ⟨ja, na, ka, hja, eva, eia, hna, hka, hzz, hne, hcnt⟩, hq1⟩
  · have hq1 := hq1.symm
    simp only [Prod.mk.injEq] at hq1
    obtain ⟨rfl, rfl, rfl, rfl, rfl, rfl⟩ := hq1
    rcases hpo2 with ⟨hbad2, hq2⟩ | ⟨hq2, j, n2, k2, hj, ev, ei, hn2, hk2, e3, hne2, hcnt2⟩
    · have hq2 := hq2.symm
      simp only [Prod.mk.injEq] at hq2
      obtain ⟨rfl, rfl, rfl, rfl⟩ := hq2
      have hl : lv_has ls 8 [(6, .int r2), (5, .int 1), (4, .int (nI (4 * i))), (3, .ref ao), (2, .ref am), (1, .ref x), (0, .ref b)] := hl
      refine lv_icmp_eq (tgt := 440) hx hb dXL_law_435 (by decide) (fun _ => ?_) (fun z => absurd rfl z)
      refine lv_iload hx hb dXL_law_440 (lv_at hl 1 rfl) ?_
      refine lv_if_ne (tgt := 457) hx hb dXL_law_442 (by decide) (fun _ => ?_) (fun z => absurd z (show ¬ (1 : Int32) = 0 by decide))
      refine lv_goto (tgt := 768) hx hb dXL_law_457 (by decide) ?_
      have hl := lv_sub (l' := [(4, .int (nI (4 * i))), (3, .ref ao), (2, .ref am), (1, .ref x), (0, .ref b)]) hl [2, 3, 4, 5, 6] rfl
      refine W.widen (k := 100 + 60 * (i + 1)) (n := mt_SF (i + 1)) (by omega) (by omega) ?_
      exact kk cn 1 fv fb _ fr n cap LL LP nf ls H locs ⟨by omega, by omega, hfb, hLL, hlc, hok, hrep, hP, hD, hS⟩ hl
    · exact absurd ⟨j, hj, ev, by rw [ei]; exact nI_pos' (by omega), by rw [ei]; exact nI_lt (mt_sel_lt hk2 hne2 hcnt2) (by have := mt_c_le (mt_ft fv fb j) 0 256; omega)⟩ hbad
  · have hq1 := hq1.symm
    simp only [Prod.mk.injEq] at hq1
    obtain ⟨rfl, rfl, rfl, rfl, rfl, rfl⟩ := hq1
    rcases hpo2 with ⟨hbad2, hq2⟩ | ⟨hq2, j, n2, k2, hj, ev, ei, hn2, hk2, e3, hne2, hcnt2⟩
    · exact absurd ⟨ja, hja, eva, by rw [eia]; exact nI_pos' (by omega), by rw [eia]; exact nI_lt (mt_sel_lt hka hne hcnt) (by have := mt_c_le (mt_ft fv fb ja) 0 256; omega)⟩ hbad2
    · have hq2 := hq2.symm
      simp only [Prod.mk.injEq] at hq2
      obtain ⟨rfl, rfl, rfl, rfl⟩ := hq2
      have hl : lv_has ls 8 [(6, .int r2), (5, .int 0), (4, .int (nI (4 * i))), (3, .ref ao), (2, .ref am), (1, .ref x), (0, .ref b)] := hl
      refine lv_icmp_eq (tgt := 440) hx hb dXL_law_435 (by decide) (fun _ => ?_) (fun z => absurd rfl z)
      refine lv_iload hx hb dXL_law_440 (lv_at hl 1 rfl) ?_
      refine lv_if_ne (tgt := 457) hx hb dXL_law_442 (by decide) (fun z => absurd rfl z) (fun _ => ?_)
      refine lv_aload_n hx hb dXL_law_445 rfl (lv_at hl 3 rfl) ?_
      refine lv_iconst (v := 0) hx hb dXL_law_446 (by decide +kernel) ?_
      refine va_lald (D := g.1) (cl := vwCl) hx hb hK hP 3 4 rfl rfl (show vp_in 0 1 by unfold vp_in; decide) dXL_law_447 ?_
      refine qa_l (y := zz.toInt64) (by rw [sb_cl0]; exact pk_uLs) ?_
      have ezz : zz = r2 := by
        have e_j : ja = j := (nI_eq (by omega) (by omega)).mp (eva.symm.trans ev)
        have e_n : na = n2 := (nI_eq (by omega) (by omega)).mp (eia.symm.trans ei)
        subst e_j
        subst e_n
        rw [hzz, e3, mt_sel_one hne hne2 (hcnt.trans hcnt2.symm)]
      subst ezz
      refine lv_iload hx hb dXL_law_448 (lv_at hl 0 rfl) ?_
      refine lv_i2l (v := zz.toInt64) hx hb dXL_law_450 rfl ?_
      refine W.lcmp hx hb dXL_law_451 ?_
      refine lv_if_eq (tgt := 457) hx hb dXL_law_452 (by decide) (fun _ => ?_) (fun z => absurd (qa_cmp _) z)
      refine lv_goto (tgt := 768) hx hb dXL_law_457 (by decide) ?_
      have hl := lv_sub (l' := [(4, .int (nI (4 * i))), (3, .ref ao), (2, .ref am), (1, .ref x), (0, .ref b)]) hl [2, 3, 4, 5, 6] rfl
      refine W.widen (k := 100 + 60 * (i + 1)) (n := mt_SF (i + 1)) (by omega) (by omega) ?_
      exact kk cn 0 fv fb _ fr n cap LL LP nf ls H locs ⟨by omega, by omega, hfb, hLL, hlc, hok, hrep, hP, hD, hS⟩ hl
set_option maxHeartbeats 4000000 in
set_option maxRecDepth 100000 in
/-- the law: case many -/
theorem law_many {p : Program} {e : Env} {s : State} {m : MethodId} {below : List Frame} {meth : Method} {c : Code} (l : Launch) (hl0 : l.stackTraces = false) {b L : Nat} {xs : Nat → Int32} (hL : L ≤ 2048) (C0 : lw_At p s m meth c b L xs) (g : mt_G) (hE : mt_E g s) (hz : g.2.1 = s.heap.size) (am av ab ao x ar al : Nat) (i cn : Nat) (th : Int32) (fv fb : Nat → Int32) (fo : Nat → Int64) (fr : Nat → Option Nat) (n cap : Nat) (LL : va_W) (LP : List Nat) (nf : Nat → mt_N) (ls : Array Slot) (H : Heap) (locs : List Loc) (hi4 : 4 * i + 4 ≤ L) (hi : mt_Inv g s am av ab ao x ar al i cn th fv fb fo fr n cap LL LP nf H locs) (hl : lv_has ls 8 [(4, .int (nI (4 * i))), (3, .ref ao), (2, .ref am), (1, .ref x), (0, .ref b)]) (kk : ∀ (cn : Nat) (th : Int32) (fv fb : Nat → Int32) (fo : Nat → Int64) (fr : Nat → Option Nat) (n cap : Nat) (LL : va_W) (LP : List Nat) (nf : Nat → mt_N) (ls : Array Slot) (H : Heap) (locs : List Loc), mt_Inv g s am av ab ao x ar al (i + 1) cn th fv fb fo fr n cap LL LP nf H locs → lv_has ls 8 [(4, .int (nI (4 * i))), (3, .ref ao), (2, .ref am), (1, .ref x), (0, .ref b)] → W p l e room_1 s m #[Value.ref b] below meth c H locs (100 + 60 * (i + 1)) (mt_SF (i + 1)) (lw_Z below #[Value.ref b] s) (F0 m 768 ls [])) : W p l e room_1 s m #[Value.ref b] below meth c H locs (100 + 60 * i) (mt_SF i) (lw_Z below #[Value.ref b] s) (F0 m 460 ls []) := by
  obtain ⟨hx, hb, hr, hml, hown, hts, hX, hbl, hlocks, hgv⟩ := C0
  have hts := mt_htsL hts
  have hK := hE.k
  have hA : ∀ q : Nat, s.heap.size ≤ q → mt_A g q := fun q h => Nat.le_trans (Nat.le_of_eq hz) h
  have hbA : ¬ mt_A g b := fun h => absurd (Nat.lt_of_lt_of_le hbl (Nat.le_trans (Nat.le_of_eq hz.symm) h)) (Nat.lt_irrefl _)
  have hz2 : g.2.1 ≤ s.heap.size := Nat.le_of_eq hz
  obtain ⟨hcn1, hn9, hfb, hLL, hlc, hok, hrep, hP, hD, hS⟩ := hi
  have hcn : cn ≤ 600 := by omega
  obtain ⟨hnc1, hnc2⟩ := mt_lc_max hlc
  have hsf : mt_SF (i + 1) = mt_SF i + 36 * i + 300 := rfl
  have hsm := mt_SF_le (i := i) (by omega)
  refine lv_aload_n hx hb dXL_law_460 rfl (lv_at hl 3 rfl) ?_
  refine lv_aload_n hx hb dXL_law_461 rfl (lv_at hl 4 rfl) ?_
  refine lv_iload hx hb dXL_law_462 (lv_at hl 0 rfl) ?_
  refine lv_iconst (v := 1) hx hb dXL_law_464 (by decide +kernel) ?_
  refine lv_iadd hx hb dXL_law_465 ?_
  refine qa_i (y := (nI (4 * i + 1))) (nI_1 (4 * i)) ?_
  refine va_sld hx hb hX hbl hbA hS (vp_in_nI (n := 4 * i + 1) (by omega) (by omega)) dXL_law_466 ?_
  refine qa_i (y := (xs (4 * i + 1))) (by rw [nI_clamp (by omega)]) ?_
  refine lv_aload_n hx hb dXL_law_467 rfl (lv_at hl 4 rfl) ?_
  refine lv_iload hx hb dXL_law_468 (lv_at hl 0 rfl) ?_
  refine lv_iconst (v := (nI 2)) hx hb dXL_law_470 (by decide +kernel) ?_
  refine lv_iadd hx hb dXL_law_471 ?_
  refine qa_i (y := (nI (4 * i + 2))) (nI_add (4 * i) 2) ?_
  refine va_sld hx hb hX hbl hbA hS (vp_in_nI (n := 4 * i + 2) (by omega) (by omega)) dXL_law_472 ?_
  refine qa_i (y := (xs (4 * i + 2))) (by rw [nI_clamp (by omega)]) ?_
  refine lv_aload_n hx hb dXL_law_473 rfl (lv_at hl 4 rfl) ?_
  refine lv_iload hx hb dXL_law_474 (lv_at hl 0 rfl) ?_
  refine lv_iconst (v := (nI 3)) hx hb dXL_law_476 (by decide +kernel) ?_
  refine lv_iadd hx hb dXL_law_477 ?_
  refine qa_i (y := (nI (4 * i + 3))) (nI_add (4 * i) 3) ?_
  refine va_sld hx hb hX hbl hbA hS (vp_in_nI (n := 4 * i + 3) (by omega) (by omega)) dXL_law_478 ?_
  refine qa_i (y := (xs (4 * i + 3))) (by rw [nI_clamp (by omega)]) ?_
  refine lv_aload_n hx hb dXL_law_479 rfl (lv_at hl 1 rfl) ?_
  refine va_calli (vx_runSW (As := [.ref x, .int (xs (4 * i + 1)), .int (xs (4 * i + 2)), .int (xs (4 * i + 3)), .ref ao]) (rest := []) ⟨hx, hb, hml, hown, hts⟩ (c_L_many l g hl0 (am, .inr (2, [.ref av, .ref ab, .int (nI cn), .int th])) (av, .inl (g.2.2.2 2, 153600, .inl fv)) (ab, .inl (g.2.2.2 3, 153600, .inl fb)) ao fo x ar al cn fr n cap LL LP nf hLL hlc (by omega) hok (mt_ft fv fb) hrep hcn (xs (4 * i + 1)) (xs (4 * i + 2)) (xs (4 * i + 3))) (vx_cwSW 5 hts (mt_giS mw_337 mw_338 mw_0 (mt_giW mw_339)) rfl rfl rfl (by decide +kernel) ⟨Nat.le_of_ble_eq_true rfl, Nat.le_of_ble_eq_true rfl⟩) (mt_preS hE hz2 hS hP hD) rfl rfl hl.1 rfl (lv_room (Nat.le_of_ble_eq_true rfl)) dXL_law_480 ⟨by show 100 + 60 * i + (1) ≤ 601024; omega, by show mt_SF i + (6) ≤ 7293034; omega⟩) hS (fun _ _ h => h) (fun _ h => h) (fun r1 u1 t1 H locs ht1 hvm1 hpo1 hB1 hz1 hk1 hS => ?_)
  obtain ⟨cn1, fr1, LL1, LP1, nf1, fo1⟩ := u1
  obtain ⟨hP, hD⟩ := hB1
  rw [ht1] at hP
  dsimp only at hP hD hpo1
  refine lv_istore (i := 5) (lv' := [(5, .int r1), (4, .int (nI (4 * i))), (3, .ref ao), (2, .ref am), (1, .ref x), (0, .ref b)]) hx hb dXL_law_483 hl (by decide) rfl (fun ls hl => ?_)
  refine lv_aload_n hx hb dXL_law_485 rfl (lv_at hl 3 rfl) ?_
  refine lv_aload_n hx hb dXL_law_486 rfl (lv_at hl 5 rfl) ?_
  refine lv_iload hx hb dXL_law_487 (lv_at hl 1 rfl) ?_
  refine lv_iconst (v := 1) hx hb dXL_law_489 (by decide +kernel) ?_
  refine lv_iadd hx hb dXL_law_490 ?_
  refine qa_i (y := (nI (4 * i + 1))) (nI_1 (4 * i)) ?_
  refine va_sld hx hb hX hbl hbA hS (vp_in_nI (n := 4 * i + 1) (by omega) (by omega)) dXL_law_491 ?_
  refine qa_i (y := (xs (4 * i + 1))) (by rw [nI_clamp (by omega)]) ?_
  refine lv_aload_n hx hb dXL_law_492 rfl (lv_at hl 5 rfl) ?_
  refine lv_iload hx hb dXL_law_493 (lv_at hl 1 rfl) ?_
  refine lv_iconst (v := (nI 2)) hx hb dXL_law_495 (by decide +kernel) ?_
  refine lv_iadd hx hb dXL_law_496 ?_
  refine qa_i (y := (nI (4 * i + 2))) (nI_add (4 * i) 2) ?_
  refine va_sld hx hb hX hbl hbA hS (vp_in_nI (n := 4 * i + 2) (by omega) (by omega)) dXL_law_497 ?_
  refine qa_i (y := (xs (4 * i + 2))) (by rw [nI_clamp (by omega)]) ?_
  refine lv_aload_n hx hb dXL_law_498 rfl (lv_at hl 5 rfl) ?_
  refine lv_iload hx hb dXL_law_499 (lv_at hl 1 rfl) ?_
  refine lv_iconst (v := (nI 3)) hx hb dXL_law_501 (by decide +kernel) ?_
  refine lv_iadd hx hb dXL_law_502 ?_
  refine qa_i (y := (nI (4 * i + 3))) (nI_add (4 * i) 3) ?_
  refine va_sld hx hb hX hbl hbA hS (vp_in_nI (n := 4 * i + 3) (by omega) (by omega)) dXL_law_503 ?_
  refine qa_i (y := (xs (4 * i + 3))) (by rw [nI_clamp (by omega)]) ?_
  refine va_calli (va_runV (As := [.int (xs (4 * i + 1)), .int (xs (4 * i + 2)), .int (xs (4 * i + 3))]) (rest := []) ⟨hx, hb, hml, hown, hts⟩ (c_M_many l g am av ab cn th fv fb _ hcn hfb (xs (4 * i + 1)) (xs (4 * i + 2)) (xs (4 * i + 3))) (cwV 3 hts (mt_giV mw_434 mw_435 mw_436 mw_5 (mt_gi mw_437)) rfl rfl rfl (by decide +kernel) ⟨Nat.le_of_ble_eq_true rfl, Nat.le_of_ble_eq_true rfl⟩) (mt_preV hE hz2 hS hP hD (va_recv hK hP (q := (RXM, TXM, 4)) (q0 := 0) rfl rfl)) rfl rfl hl.1 rfl (lv_room (Nat.le_of_ble_eq_true rfl)) dXL_law_504 ⟨by show 100 + 60 * i + (1) + 0 ≤ 601024; omega, by show mt_SF i + (6) + 0 ≤ 7293034; omega⟩) hS (fun _ _ h => h) (fun _ h => h) (fun r2 u2 t2 H locs ht2 hvm2 hpo2 hB2 hz2x hk2 hS => ?_)
  obtain ⟨cn2, th2, f2, h2⟩ := u2
  obtain ⟨hP, hD⟩ := hB2
  rw [ht2] at hP
  dsimp only at hP hD hpo2
  refine lv_istore (i := 6) (lv' := [(6, .int r2), (5, .int r1), (4, .int (nI (4 * i))), (3, .ref ao), (2, .ref am), (1, .ref x), (0, .ref b)]) hx hb dXL_law_507 hl (by decide) rfl (fun ls hl => ?_)
  refine lv_aload_n hx hb dXL_law_509 rfl (lv_at hl 4 rfl) ?_
  refine vp_callSi (W.runV (As := []) (rest := []) ⟨hx, hb, hml, hown, hts⟩ (c_M_thrown l g am av ab (nI cn2) th2 f2 h2 _) (cwV 0 hts (mt_giV mw_401 mw_402 mw_403 mw_5 (mt_gi mw_404)) rfl rfl rfl (by decide +kernel) ⟨Nat.le_of_ble_eq_true rfl, Nat.le_of_ble_eq_true rfl⟩) (mt_preV hE hz2 hS hP hD (va_recv hK hP (q := (RXM, TXM, 4)) (q0 := 0) rfl rfl)) rfl rfl hl.1 rfl (lv_room (Nat.le_of_ble_eq_true rfl)) dXL_law_510 ⟨by show 100 + 60 * i + (1) + 0 + 0 ≤ 601024; omega, by show mt_SF i + (6) + 0 + 0 ≤ 7293034; omega⟩) (fun z3 e3 => ?_)
  subst e3
  refine lv_iload hx hb dXL_law_513 (lv_at hl 1 rfl) ?_
  rcases hpo1 with ⟨rfl, hbad, hq1⟩ | ⟨rfl, zz, ⟨ja, hja, eva, hzz⟩, hq1⟩
  · have hq1 := hq1.symm
    simp only [Prod.mk.injEq] at hq1
    obtain ⟨rfl, rfl, rfl, rfl, rfl, rfl⟩ := hq1
    rcases hpo2 with ⟨hbad2, hq2⟩ | ⟨hq2, j, hj, ev, e3⟩
    · have hq2 := hq2.symm
      simp only [Prod.mk.injEq] at hq2
      obtain ⟨rfl, rfl, rfl, rfl⟩ := hq2
      have hl : lv_has ls 8 [(6, .int r2), (5, .int 1), (4, .int (nI (4 * i))), (3, .ref ao), (2, .ref am), (1, .ref x), (0, .ref b)] := hl
      refine lv_icmp_eq (tgt := 520) hx hb dXL_law_515 (by decide) (fun _ => ?_) (fun z => absurd rfl z)
      refine lv_iload hx hb dXL_law_520 (lv_at hl 1 rfl) ?_
      refine lv_if_ne (tgt := 537) hx hb dXL_law_522 (by decide) (fun _ => ?_) (fun z => absurd z (show ¬ (1 : Int32) = 0 by decide))
      refine lv_goto (tgt := 768) hx hb dXL_law_537 (by decide) ?_
      have hl := lv_sub (l' := [(4, .int (nI (4 * i))), (3, .ref ao), (2, .ref am), (1, .ref x), (0, .ref b)]) hl [2, 3, 4, 5, 6] rfl
      refine W.widen (k := 100 + 60 * (i + 1)) (n := mt_SF (i + 1)) (by omega) (by omega) ?_
      exact kk cn 1 fv fb _ fr n cap LL LP nf ls H locs ⟨by omega, by omega, hfb, hLL, hlc, hok, hrep, hP, hD, hS⟩ hl
    · exact absurd (mt_ver_of hcn hj ev) hbad
  · have hq1 := hq1.symm
    simp only [Prod.mk.injEq] at hq1
    obtain ⟨rfl, rfl, rfl, rfl, rfl, rfl⟩ := hq1
    rcases hpo2 with ⟨hbad2, hq2⟩ | ⟨hq2, j, hj, ev, e3⟩
    · exact absurd (mt_ver_of hcn hja eva) hbad2
    · have hq2 := hq2.symm
      simp only [Prod.mk.injEq] at hq2
      obtain ⟨rfl, rfl, rfl, rfl⟩ := hq2
      have hl : lv_has ls 8 [(6, .int r2), (5, .int 0), (4, .int (nI (4 * i))), (3, .ref ao), (2, .ref am), (1, .ref x), (0, .ref b)] := hl
      refine lv_icmp_eq (tgt := 520) hx hb dXL_law_515 (by decide) (fun _ => ?_) (fun z => absurd rfl z)
      refine lv_iload hx hb dXL_law_520 (lv_at hl 1 rfl) ?_
      refine lv_if_ne (tgt := 537) hx hb dXL_law_522 (by decide) (fun z => absurd rfl z) (fun _ => ?_)
      refine lv_aload_n hx hb dXL_law_525 rfl (lv_at hl 3 rfl) ?_
      refine lv_iconst (v := 0) hx hb dXL_law_526 (by decide +kernel) ?_
      refine va_lald (D := g.1) (cl := vwCl) hx hb hK hP 3 4 rfl rfl (show vp_in 0 1 by unfold vp_in; decide) dXL_law_527 ?_
      refine qa_l (y := zz.toInt64) (by rw [sb_cl0]; exact pk_uLs) ?_
      have ezz : zz = r2 := by
        have e_j : ja = j := (nI_eq (by omega) (by omega)).mp (eva.symm.trans ev)
        subst e_j
        rw [hzz, e3]
      subst ezz
      refine lv_iload hx hb dXL_law_528 (lv_at hl 0 rfl) ?_
      refine lv_i2l (v := zz.toInt64) hx hb dXL_law_530 rfl ?_
      refine W.lcmp hx hb dXL_law_531 ?_
      refine lv_if_eq (tgt := 537) hx hb dXL_law_532 (by decide) (fun _ => ?_) (fun z => absurd (qa_cmp _) z)
      refine lv_goto (tgt := 768) hx hb dXL_law_537 (by decide) ?_
      have hl := lv_sub (l' := [(4, .int (nI (4 * i))), (3, .ref ao), (2, .ref am), (1, .ref x), (0, .ref b)]) hl [2, 3, 4, 5, 6] rfl
      refine W.widen (k := 100 + 60 * (i + 1)) (n := mt_SF (i + 1)) (by omega) (by omega) ?_
      exact kk cn 0 fv fb _ fr n cap LL LP nf ls H locs ⟨by omega, by omega, hfb, hLL, hlc, hok, hrep, hP, hD, hS⟩ hl
