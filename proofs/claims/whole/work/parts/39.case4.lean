set_option maxHeartbeats 4000000 in
set_option maxRecDepth 100000 in
/-- the law: case sum -/
theorem law_sum {p : Program} {e : Env} {s : State} {m : MethodId} {below : List Frame} {meth : Method} {c : Code} (l : Launch) (hl0 : l.stackTraces = false) {b L : Nat} {xs : Nat → Int32} (hL : L ≤ 2048) (C0 : lw_At p s m meth c b L xs) (g : mt_G) (hE : mt_E g s) (hz : g.2.1 = s.heap.size) (am av ab ao x ar al : Nat) (i cn : Nat) (th : Int32) (fv fb : Nat → Int32) (fo : Nat → Int64) (fr : Nat → Option Nat) (n cap : Nat) (LL : va_W) (LP : List Nat) (nf : Nat → mt_N) (ls : Array Slot) (H : Heap) (locs : List Loc) (hi4 : 4 * i + 4 ≤ L) (hi : mt_Inv g s am av ab ao x ar al i cn th fv fb fo fr n cap LL LP nf H locs) (hl : lv_has ls 8 [(4, .int (nI (4 * i))), (3, .ref ao), (2, .ref am), (1, .ref x), (0, .ref b)]) (kk : ∀ (cn : Nat) (th : Int32) (fv fb : Nat → Int32) (fo : Nat → Int64) (fr : Nat → Option Nat) (n cap : Nat) (LL : va_W) (LP : List Nat) (nf : Nat → mt_N) (ls : Array Slot) (H : Heap) (locs : List Loc), mt_Inv g s am av ab ao x ar al (i + 1) cn th fv fb fo fr n cap LL LP nf H locs → lv_has ls 8 [(4, .int (nI (4 * i))), (3, .ref ao), (2, .ref am), (1, .ref x), (0, .ref b)] → W p l e room_1 s m #[Value.ref b] below meth c H locs (100 + 60 * (i + 1)) (mt_SF (i + 1)) (lw_Z below #[Value.ref b] s) (F0 m 768 ls [])) : W p l e room_1 s m #[Value.ref b] below meth c H locs (100 + 60 * i) (mt_SF i) (lw_Z below #[Value.ref b] s) (F0 m 540 ls []) := by
  obtain ⟨hx, hb, hr, hml, hown, hts, hX, hbl, hlocks, hgv⟩ := C0
  have hts := mt_htsL hts
  have hK := hE.k
  have hA : ∀ q : Nat, s.heap.size ≤ q → mt_A g q := fun q h => Nat.le_trans (Nat.le_of_eq hz) h
  have hbA : ¬ mt_A g b := fun h => absurd (Nat.lt_of_lt_of_le hbl (Nat.le_trans (Nat.le_of_eq hz.symm) h)) (Nat.lt_irrefl _)
  have hz2 : g.2.1 ≤ s.heap.size := Nat.le_of_eq hz
  obtain ⟨hcn1, hn9, hfb, hLL, hlc, hok, hrep, hP, hD, hS⟩ := hi
  have hcn : cn ≤ 600 := by omega
  obtain ⟨hnc1, hnc2⟩ := mt_lc_max hlc
  have hsf : mt_SF (i + 1) = mt_SF i + 36 * i + 300 := rfl
  have hsm := mt_SF_le (i := i) (by omega)
  refine lv_aload_n hx hb dXL_law_540 rfl (lv_at hl 3 rfl) ?_
  refine lv_aload_n hx hb dXL_law_541 rfl (lv_at hl 4 rfl) ?_
  refine lv_iload hx hb dXL_law_542 (lv_at hl 0 rfl) ?_
  refine lv_iconst (v := 1) hx hb dXL_law_544 (by decide +kernel) ?_
  refine lv_iadd hx hb dXL_law_545 ?_
  refine qa_i (y := (nI (4 * i + 1))) (nI_1 (4 * i)) ?_
  refine va_sld hx hb hX hbl hbA hS (vp_in_nI (n := 4 * i + 1) (by omega) (by omega)) dXL_law_546 ?_
  refine qa_i (y := (xs (4 * i + 1))) (by rw [nI_clamp (by omega)]) ?_
  refine lv_aload_n hx hb dXL_law_547 rfl (lv_at hl 4 rfl) ?_
  refine lv_iload hx hb dXL_law_548 (lv_at hl 0 rfl) ?_
  refine lv_iconst (v := (nI 2)) hx hb dXL_law_550 (by decide +kernel) ?_
  refine lv_iadd hx hb dXL_law_551 ?_
  refine qa_i (y := (nI (4 * i + 2))) (nI_add (4 * i) 2) ?_
  refine va_sld hx hb hX hbl hbA hS (vp_in_nI (n := 4 * i + 2) (by omega) (by omega)) dXL_law_552 ?_
  refine qa_i (y := (xs (4 * i + 2))) (by rw [nI_clamp (by omega)]) ?_
  refine lv_aload_n hx hb dXL_law_553 rfl (lv_at hl 4 rfl) ?_
  refine lv_iload hx hb dXL_law_554 (lv_at hl 0 rfl) ?_
  refine lv_iconst (v := (nI 3)) hx hb dXL_law_556 (by decide +kernel) ?_
  refine lv_iadd hx hb dXL_law_557 ?_
  refine qa_i (y := (nI (4 * i + 3))) (nI_add (4 * i) 3) ?_
  refine va_sld hx hb hX hbl hbA hS (vp_in_nI (n := 4 * i + 3) (by omega) (by omega)) dXL_law_558 ?_
  refine qa_i (y := (xs (4 * i + 3))) (by rw [nI_clamp (by omega)]) ?_
  refine lv_aload_n hx hb dXL_law_559 rfl (lv_at hl 1 rfl) ?_
  refine va_calli (vx_runSW (As := [.ref x, .int (xs (4 * i + 1)), .int (xs (4 * i + 2)), .int (xs (4 * i + 3)), .ref ao]) (rest := []) ⟨hx, hb, hml, hown, hts⟩ (c_L_sum l g hl0 (am, .inr (2, [.ref av, .ref ab, .int (nI cn), .int th])) (av, .inl (g.2.2.2 2, 153600, .inl fv)) (ab, .inl (g.2.2.2 3, 153600, .inl fb)) ao fo x ar al cn fr n cap LL LP nf hLL hlc (by omega) hok (mt_ft fv fb) hrep hcn (xs (4 * i + 1)) (xs (4 * i + 2)) (xs (4 * i + 3))) (vx_cwSW 5 hts (mt_giS mw_347 mw_348 mw_0 (mt_giW mw_349)) rfl rfl rfl (by decide +kernel) ⟨Nat.le_of_ble_eq_true rfl, Nat.le_of_ble_eq_true rfl⟩) (mt_preS hE hz2 hS hP hD) rfl rfl hl.1 rfl (lv_room (Nat.le_of_ble_eq_true rfl)) dXL_law_560 ⟨by show 100 + 60 * i + (1) ≤ 601024; omega, by show mt_SF i + (6) ≤ 7293034; omega⟩) hS (fun _ _ h => h) (fun _ h => h) (fun r1 u1 t1 H locs ht1 hvm1 hpo1 hB1 hz1 hk1 hS => ?_)
  obtain ⟨cn1, fr1, LL1, LP1, nf1, fo1⟩ := u1
  obtain ⟨hP, hD⟩ := hB1
  rw [ht1] at hP
  dsimp only at hP hD hpo1
  refine lv_istore (i := 5) (lv' := [(5, .int r1), (4, .int (nI (4 * i))), (3, .ref ao), (2, .ref am), (1, .ref x), (0, .ref b)]) hx hb dXL_law_563 hl (by decide) rfl (fun ls hl => ?_)
  refine lv_aload_n hx hb dXL_law_565 rfl (lv_at hl 3 rfl) ?_
  refine lv_aload_n hx hb dXL_law_566 rfl (lv_at hl 5 rfl) ?_
  refine lv_iload hx hb dXL_law_567 (lv_at hl 1 rfl) ?_
  refine lv_iconst (v := 1) hx hb dXL_law_569 (by decide +kernel) ?_
  refine lv_iadd hx hb dXL_law_570 ?_
  refine qa_i (y := (nI (4 * i + 1))) (nI_1 (4 * i)) ?_
  refine va_sld hx hb hX hbl hbA hS (vp_in_nI (n := 4 * i + 1) (by omega) (by omega)) dXL_law_571 ?_
  refine qa_i (y := (xs (4 * i + 1))) (by rw [nI_clamp (by omega)]) ?_
  refine lv_aload_n hx hb dXL_law_572 rfl (lv_at hl 5 rfl) ?_
  refine lv_iload hx hb dXL_law_573 (lv_at hl 1 rfl) ?_
  refine lv_iconst (v := (nI 2)) hx hb dXL_law_575 (by decide +kernel) ?_
  refine lv_iadd hx hb dXL_law_576 ?_
  refine qa_i (y := (nI (4 * i + 2))) (nI_add (4 * i) 2) ?_
  refine va_sld hx hb hX hbl hbA hS (vp_in_nI (n := 4 * i + 2) (by omega) (by omega)) dXL_law_577 ?_
  refine qa_i (y := (xs (4 * i + 2))) (by rw [nI_clamp (by omega)]) ?_
  refine lv_aload_n hx hb dXL_law_578 rfl (lv_at hl 5 rfl) ?_
  refine lv_iload hx hb dXL_law_579 (lv_at hl 1 rfl) ?_
  refine lv_iconst (v := (nI 3)) hx hb dXL_law_581 (by decide +kernel) ?_
  refine lv_iadd hx hb dXL_law_582 ?_
  refine qa_i (y := (nI (4 * i + 3))) (nI_add (4 * i) 3) ?_
  refine va_sld hx hb hX hbl hbA hS (vp_in_nI (n := 4 * i + 3) (by omega) (by omega)) dXL_law_583 ?_
  refine qa_i (y := (xs (4 * i + 3))) (by rw [nI_clamp (by omega)]) ?_
  refine va_calll (va_runV (As := [.int (xs (4 * i + 1)), .int (xs (4 * i + 2)), .int (xs (4 * i + 3))]) (rest := []) ⟨hx, hb, hml, hown, hts⟩ (c_M_sum l g am av ab cn th fv fb _ hcn hfb (xs (4 * i + 1)) (xs (4 * i + 2)) (xs (4 * i + 3))) (cwV 3 hts (mt_giV mw_438 mw_439 mw_440 mw_5 (mt_gi mw_441)) rfl rfl rfl (by decide +kernel) ⟨Nat.le_of_ble_eq_true rfl, Nat.le_of_ble_eq_true rfl⟩) (mt_preV hE hz2 hS hP hD (va_recv hK hP (q := (RXM, TXM, 4)) (q0 := 0) rfl rfl)) rfl rfl hl.1 rfl (lv_room (Nat.le_of_ble_eq_true rfl)) dXL_law_584 ⟨by show 100 + 60 * i + (1) + 0 ≤ 601024; omega, by show mt_SF i + (6) + 0 ≤ 7293034; omega⟩) hS (fun _ _ h => h) (fun _ h => h) (fun r2 u2 t2 H locs ht2 hvm2 hpo2 hB2 hz2x hk2 hS => ?_)
  obtain ⟨cn2, th2, f2, h2⟩ := u2
  obtain ⟨hP, hD⟩ := hB2
  rw [ht2] at hP
  dsimp only at hP hD hpo2
  refine lv_lstore (i := 6) (lv' := [(6, .long r2), (5, .int r1), (4, .int (nI (4 * i))), (3, .ref ao), (2, .ref am), (1, .ref x), (0, .ref b)]) hx hb dXL_law_587 hl (by decide) rfl (fun ls hl => ?_)
  refine lv_aload_n hx hb dXL_law_589 rfl (lv_at hl 4 rfl) ?_
  refine vp_callSi (W.runV (As := []) (rest := []) ⟨hx, hb, hml, hown, hts⟩ (c_M_thrown l g am av ab (nI cn2) th2 f2 h2 _) (cwV 0 hts (mt_giV mw_401 mw_402 mw_403 mw_5 (mt_gi mw_404)) rfl rfl rfl (by decide +kernel) ⟨Nat.le_of_ble_eq_true rfl, Nat.le_of_ble_eq_true rfl⟩) (mt_preV hE hz2 hS hP hD (va_recv hK hP (q := (RXM, TXM, 4)) (q0 := 0) rfl rfl)) rfl rfl hl.1 rfl (lv_room (Nat.le_of_ble_eq_true rfl)) dXL_law_590 ⟨by show 100 + 60 * i + (1) + 0 + 0 ≤ 601024; omega, by show mt_SF i + (6) + 0 + 0 ≤ 7293034; omega⟩) (fun z3 e3 => ?_)
  subst e3
  refine lv_iload hx hb dXL_law_593 (lv_at hl 1 rfl) ?_
  rcases hpo1 with ⟨rfl, hbad, hq1⟩ | ⟨rfl, zz, ⟨ja, hja, eva, hzz⟩, hq1⟩
  · have hq1 := hq1.symm
    simp only [Prod.mk.injEq] at hq1
    obtain ⟨rfl, rfl, rfl, rfl, rfl, rfl⟩ := hq1
    rcases hpo2 with ⟨hbad2, hq2⟩ | ⟨hq2, j, hj, ev, e3⟩
    · have hq2 := hq2.symm
      simp only [Prod.mk.injEq] at hq2
      obtain ⟨rfl, rfl, rfl, rfl⟩ := hq2
      have hl : lv_has ls 8 [(6, .long r2), (5, .int 1), (4, .int (nI (4 * i))), (3, .ref ao), (2, .ref am), (1, .ref x), (0, .ref b)] := hl
      refine lv_icmp_eq (tgt := 600) hx hb dXL_law_595 (by decide) (fun _ => ?_) (fun z => absurd rfl z)
      refine lv_iload hx hb dXL_law_600 (lv_at hl 1 rfl) ?_
      refine lv_if_ne (tgt := 616) hx hb dXL_law_602 (by decide) (fun _ => ?_) (fun z => absurd z (show ¬ (1 : Int32) = 0 by decide))
      refine lv_goto (tgt := 768) hx hb dXL_law_616 (by decide) ?_
      have hl := lv_sub (l' := [(4, .int (nI (4 * i))), (3, .ref ao), (2, .ref am), (1, .ref x), (0, .ref b)]) hl [2, 3, 4, 5, 6] rfl
      refine W.widen (k := 100 + 60 * (i + 1)) (n := mt_SF (i + 1)) (by omega) (by omega) ?_
      exact kk cn 1 fv fb _ fr n cap LL LP nf ls H locs ⟨by omega, by omega, hfb, hLL, hlc, hok, hrep, hP, hD, hS⟩ hl
    · exact absurd (mt_ver_of hcn hj ev) hbad
  · have hq1 := hq1.symm
    simp only [Prod.mk.injEq] at hq1
    obtain ⟨rfl, rfl, rfl, rfl, rfl, rfl⟩ := hq1
    rcases hpo2 with ⟨hbad2, hq2⟩ | ⟨hq2, j, hj, ev, e3⟩
    · exact absurd (mt_ver_of hcn hja eva) hbad2
    · have hq2 := hq2.symm
      simp only [Prod.mk.injEq] at hq2
      obtain ⟨rfl, rfl, rfl, rfl⟩ := hq2
      have hl : lv_has ls 8 [(6, .long r2), (5, .int 0), (4, .int (nI (4 * i))), (3, .ref ao), (2, .ref am), (1, .ref x), (0, .ref b)] := hl
      refine lv_icmp_eq (tgt := 600) hx hb dXL_law_595 (by decide) (fun _ => ?_) (fun z => absurd rfl z)
      refine lv_iload hx hb dXL_law_600 (lv_at hl 1 rfl) ?_
      refine lv_if_ne (tgt := 616) hx hb dXL_law_602 (by decide) (fun z => absurd rfl z) (fun _ => ?_)
      refine lv_aload_n hx hb dXL_law_605 rfl (lv_at hl 3 rfl) ?_
      refine lv_iconst (v := 0) hx hb dXL_law_606 (by decide +kernel) ?_
      refine va_lald (D := g.1) (cl := vwCl) hx hb hK hP 3 4 rfl rfl (show vp_in 0 1 by unfold vp_in; decide) dXL_law_607 ?_
      refine qa_l (y := zz) (by rw [sb_cl0]; exact pk_uLs) ?_
      have ezz : zz = r2 := by
        have e_j : ja = j := (nI_eq (by omega) (by omega)).mp (eva.symm.trans ev)
        subst e_j
        rw [hzz, e3]
      subst ezz
      refine lv_lload hx hb dXL_law_608 (lv_at hl 0 rfl) ?_
      refine W.lcmp hx hb dXL_law_610 ?_
      refine lv_if_eq (tgt := 616) hx hb dXL_law_611 (by decide) (fun _ => ?_) (fun z => absurd (qa_cmp _) z)
      refine lv_goto (tgt := 768) hx hb dXL_law_616 (by decide) ?_
      have hl := lv_sub (l' := [(4, .int (nI (4 * i))), (3, .ref ao), (2, .ref am), (1, .ref x), (0, .ref b)]) hl [2, 3, 4, 5, 6] rfl
      refine W.widen (k := 100 + 60 * (i + 1)) (n := mt_SF (i + 1)) (by omega) (by omega) ?_
      exact kk cn 0 fv fb _ fr n cap LL LP nf ls H locs ⟨by omega, by omega, hfb, hLL, hlc, hok, hrep, hP, hD, hS⟩ hl
set_option maxHeartbeats 4000000 in
set_option maxRecDepth 100000 in
/-- the law: case differ -/
theorem law_differ {p : Program} {e : Env} {s : State} {m : MethodId} {below : List Frame} {meth : Method} {c : Code} (l : Launch) (hl0 : l.stackTraces = false) {b L : Nat} {xs : Nat → Int32} (hL : L ≤ 2048) (C0 : lw_At p s m meth c b L xs) (g : mt_G) (hE : mt_E g s) (hz : g.2.1 = s.heap.size) (am av ab ao x ar al : Nat) (i cn : Nat) (th : Int32) (fv fb : Nat → Int32) (fo : Nat → Int64) (fr : Nat → Option Nat) (n cap : Nat) (LL : va_W) (LP : List Nat) (nf : Nat → mt_N) (ls : Array Slot) (H : Heap) (locs : List Loc) (hi4 : 4 * i + 4 ≤ L) (hi : mt_Inv g s am av ab ao x ar al i cn th fv fb fo fr n cap LL LP nf H locs) (hl : lv_has ls 8 [(4, .int (nI (4 * i))), (3, .ref ao), (2, .ref am), (1, .ref x), (0, .ref b)]) (kk : ∀ (cn : Nat) (th : Int32) (fv fb : Nat → Int32) (fo : Nat → Int64) (fr : Nat → Option Nat) (n cap : Nat) (LL : va_W) (LP : List Nat) (nf : Nat → mt_N) (ls : Array Slot) (H : Heap) (locs : List Loc), mt_Inv g s am av ab ao x ar al (i + 1) cn th fv fb fo fr n cap LL LP nf H locs → lv_has ls 8 [(4, .int (nI (4 * i))), (3, .ref ao), (2, .ref am), (1, .ref x), (0, .ref b)] → W p l e room_1 s m #[Value.ref b] below meth c H locs (100 + 60 * (i + 1)) (mt_SF (i + 1)) (lw_Z below #[Value.ref b] s) (F0 m 768 ls [])) : W p l e room_1 s m #[Value.ref b] below meth c H locs (100 + 60 * i) (mt_SF i) (lw_Z below #[Value.ref b] s) (F0 m 619 ls []) := by
  obtain ⟨hx, hb, hr, hml, hown, hts, hX, hbl, hlocks, hgv⟩ := C0
  have hts := mt_htsL hts
  have hK := hE.k
  have hA : ∀ q : Nat, s.heap.size ≤ q → mt_A g q := fun q h => Nat.le_trans (Nat.le_of_eq hz) h
  have hbA : ¬ mt_A g b := fun h => absurd (Nat.lt_of_lt_of_le hbl (Nat.le_trans (Nat.le_of_eq hz.symm) h)) (Nat.lt_irrefl _)
  have hz2 : g.2.1 ≤ s.heap.size := Nat.le_of_eq hz
  obtain ⟨hcn1, hn9, hfb, hLL, hlc, hok, hrep, hP, hD, hS⟩ := hi
  have hcn : cn ≤ 600 := by omega
  obtain ⟨hnc1, hnc2⟩ := mt_lc_max hlc
  have hsf : mt_SF (i + 1) = mt_SF i + 36 * i + 300 := rfl
  have hsm := mt_SF_le (i := i) (by omega)
  refine lv_aload_n hx hb dXL_law_619 rfl (lv_at hl 3 rfl) ?_
  refine lv_aload_n hx hb dXL_law_620 rfl (lv_at hl 4 rfl) ?_
  refine lv_iload hx hb dXL_law_621 (lv_at hl 0 rfl) ?_
  refine lv_iconst (v := 1) hx hb dXL_law_623 (by decide +kernel) ?_
  refine lv_iadd hx hb dXL_law_624 ?_
  refine qa_i (y := (nI (4 * i + 1))) (nI_1 (4 * i)) ?_
  refine va_sld hx hb hX hbl hbA hS (vp_in_nI (n := 4 * i + 1) (by omega) (by omega)) dXL_law_625 ?_
  refine qa_i (y := (xs (4 * i + 1))) (by rw [nI_clamp (by omega)]) ?_
  refine lv_aload_n hx hb dXL_law_626 rfl (lv_at hl 4 rfl) ?_
  refine lv_iload hx hb dXL_law_627 (lv_at hl 0 rfl) ?_
  refine lv_iconst (v := (nI 2)) hx hb dXL_law_629 (by decide +kernel) ?_
  refine lv_iadd hx hb dXL_law_630 ?_
  refine qa_i (y := (nI (4 * i + 2))) (nI_add (4 * i) 2) ?_
  refine va_sld hx hb hX hbl hbA hS (vp_in_nI (n := 4 * i + 2) (by omega) (by omega)) dXL_law_631 ?_
  refine qa_i (y := (xs (4 * i + 2))) (by rw [nI_clamp (by omega)]) ?_
  refine lv_aload_n hx hb dXL_law_632 rfl (lv_at hl 1 rfl) ?_
  refine va_calli (vx_runSW (As := [.ref x, .int (xs (4 * i + 1)), .int (xs (4 * i + 2)), .ref ao]) (rest := []) ⟨hx, hb, hml, hown, hts⟩ (c_L_differ l g hl0 (am, .inr (2, [.ref av, .ref ab, .int (nI cn), .int th])) (av, .inl (g.2.2.2 2, 153600, .inl fv)) (ab, .inl (g.2.2.2 3, 153600, .inl fb)) ao fo x ar al cn fr n cap LL LP nf hLL hlc (by omega) hok (mt_ft fv fb) hrep hcn (xs (4 * i + 1)) (xs (4 * i + 2))) (vx_cwSW 4 hts (mt_giS mw_357 mw_358 mw_0 (mt_giW mw_359)) rfl rfl rfl (by decide +kernel) ⟨Nat.le_of_ble_eq_true rfl, Nat.le_of_ble_eq_true rfl⟩) (mt_preS hE hz2 hS hP hD) rfl rfl hl.1 rfl (lv_room (Nat.le_of_ble_eq_true rfl)) dXL_law_633 ⟨by show 100 + 60 * i + (2) ≤ 601024; omega, by show mt_SF i + (12) ≤ 7293034; omega⟩) hS (fun _ _ h => h) (fun _ h => h) (fun r1 u1 t1 H locs ht1 hvm1 hpo1 hB1 hz1 hk1 hS => ?_)
  obtain ⟨cn1, fr1, LL1, LP1, nf1, fo1⟩ := u1
  obtain ⟨hP, hD⟩ := hB1
  rw [ht1] at hP
  dsimp only at hP hD hpo1
  refine lv_istore (i := 5) (lv' := [(5, .int r1), (4, .int (nI (4 * i))), (3, .ref ao), (2, .ref am), (1, .ref x), (0, .ref b)]) hx hb dXL_law_636 hl (by decide) rfl (fun ls hl => ?_)
  refine lv_aload_n hx hb dXL_law_638 rfl (lv_at hl 3 rfl) ?_
  refine lv_aload_n hx hb dXL_law_639 rfl (lv_at hl 5 rfl) ?_
  refine lv_iload hx hb dXL_law_640 (lv_at hl 1 rfl) ?_
  refine lv_iconst (v := 1) hx hb dXL_law_642 (by decide +kernel) ?_
  refine lv_iadd hx hb dXL_law_643 ?_
  refine qa_i (y := (nI (4 * i + 1))) (nI_1 (4 * i)) ?_
  refine va_sld hx hb hX hbl hbA hS (vp_in_nI (n := 4 * i + 1) (by omega) (by omega)) dXL_law_644 ?_
  refine qa_i (y := (xs (4 * i + 1))) (by rw [nI_clamp (by omega)]) ?_
  refine lv_aload_n hx hb dXL_law_645 rfl (lv_at hl 5 rfl) ?_
  refine lv_iload hx hb dXL_law_646 (lv_at hl 1 rfl) ?_
  refine lv_iconst (v := (nI 2)) hx hb dXL_law_648 (by decide +kernel) ?_
  refine lv_iadd hx hb dXL_law_649 ?_
  refine qa_i (y := (nI (4 * i + 2))) (nI_add (4 * i) 2) ?_
  refine va_sld hx hb hX hbl hbA hS (vp_in_nI (n := 4 * i + 2) (by omega) (by omega)) dXL_law_650 ?_
  refine qa_i (y := (xs (4 * i + 2))) (by rw [nI_clamp (by omega)]) ?_
  refine va_calli (va_runV (As := [.int (xs (4 * i + 1)), .int (xs (4 * i + 2))]) (rest := []) ⟨hx, hb, hml, hown, hts⟩ (c_M_differ l g am av ab cn th fv fb _ hcn hfb (xs (4 * i + 1)) (xs (4 * i + 2))) (cwV 2 hts (mt_giV mw_442 mw_443 mw_444 mw_5 (mt_gi mw_445)) rfl rfl rfl (by decide +kernel) ⟨Nat.le_of_ble_eq_true rfl, Nat.le_of_ble_eq_true rfl⟩) (mt_preV hE hz2 hS hP hD (va_recv hK hP (q := (RXM, TXM, 4)) (q0 := 0) rfl rfl)) rfl rfl hl.1 rfl (lv_room (Nat.le_of_ble_eq_true rfl)) dXL_law_651 ⟨by show 100 + 60 * i + (2) + 0 ≤ 601024; omega, by show mt_SF i + (12) + 0 ≤ 7293034; omega⟩) hS (fun _ _ h => h) (fun _ h => h) (fun r2 u2 t2 H locs ht2 hvm2 hpo2 hB2 hz2x hk2 hS => ?_)
  obtain ⟨cn2, th2, f2, h2⟩ := u2
  obtain ⟨hP, hD⟩ := hB2
  rw [ht2] at hP
  dsimp only at hP hD hpo2
  refine lv_istore (i := 6) (lv' := [(6, .int r2), (5, .int r1), (4, .int (nI (4 * i))), (3, .ref ao), (2, .ref am), (1, .ref x), (0, .ref b)]) hx hb dXL_law_654 hl (by decide) rfl (fun ls hl => ?_)
  refine lv_aload_n hx hb dXL_law_656 rfl (lv_at hl 4 rfl) ?_
  refine vp_callSi (W.runV (As := []) (rest := []) ⟨hx, hb, hml, hown, hts⟩ (c_M_thrown l g am av ab (nI cn2) th2 f2 h2 _) (cwV 0 hts (mt_giV mw_401 mw_402 mw_403 mw_5 (mt_gi mw_404)) rfl rfl rfl (by decide +kernel) ⟨Nat.le_of_ble_eq_true rfl, Nat.le_of_ble_eq_true rfl⟩) (mt_preV hE hz2 hS hP hD (va_recv hK hP (q := (RXM, TXM, 4)) (q0 := 0) rfl rfl)) rfl rfl hl.1 rfl (lv_room (Nat.le_of_ble_eq_true rfl)) dXL_law_657 ⟨by show 100 + 60 * i + (2) + 0 + 0 ≤ 601024; omega, by show mt_SF i + (12) + 0 + 0 ≤ 7293034; omega⟩) (fun z3 e3 => ?_)
  subst e3
  refine lv_iload hx hb dXL_law_660 (lv_at hl 1 rfl) ?_
  rcases hpo1 with ⟨rfl, hbad, hq1⟩ | ⟨rfl, zz, ⟨ja, oa, hja, hoa, eva, eka, hzz⟩, hq1⟩
  · have hq1 := hq1.symm
    simp only [Prod.mk.injEq] at hq1
    obtain ⟨rfl, rfl, rfl, rfl, rfl, rfl⟩ := hq1
    rcases hpo2 with ⟨hbad2, hq2⟩ | ⟨hq2, j, o, hj, ho, ev, ek, e3⟩
    · have hq2 := hq2.symm
      simp only [Prod.mk.injEq] at hq2
      obtain ⟨rfl, rfl, rfl, rfl⟩ := hq2
      have hl : lv_has ls 8 [(6, .int r2), (5, .int 1), (4, .int (nI (4 * i))), (3, .ref ao), (2, .ref am), (1, .ref x), (0, .ref b)] := hl
      refine lv_icmp_eq (tgt := 667) hx hb dXL_law_662 (by decide) (fun _ => ?_) (fun z => absurd rfl z)
      refine lv_iload hx hb dXL_law_667 (lv_at hl 1 rfl) ?_
      refine lv_if_ne (tgt := 684) hx hb dXL_law_669 (by decide) (fun _ => ?_) (fun z => absurd z (show ¬ (1 : Int32) = 0 by decide))
      refine lv_goto (tgt := 768) hx hb dXL_law_684 (by decide) ?_
      have hl := lv_sub (l' := [(4, .int (nI (4 * i))), (3, .ref ao), (2, .ref am), (1, .ref x), (0, .ref b)]) hl [2, 3, 4, 5, 6] rfl
      refine W.widen (k := 100 + 60 * (i + 1)) (n := mt_SF (i + 1)) (by omega) (by omega) ?_
      exact kk cn 1 fv fb _ fr n cap LL LP nf ls H locs ⟨by omega, by omega, hfb, hLL, hlc, hok, hrep, hP, hD, hS⟩ hl
    · exact absurd ⟨mt_ver_of hcn hj ev, mt_ver_of hcn ho ek⟩ hbad
  · have hq1 := hq1.symm
    simp only [Prod.mk.injEq] at hq1
    obtain ⟨rfl, rfl, rfl, rfl, rfl, rfl⟩ := hq1
    rcases hpo2 with ⟨hbad2, hq2⟩ | ⟨hq2, j, o, hj, ho, ev, ek, e3⟩
    · exact absurd ⟨mt_ver_of hcn hja eva, mt_ver_of hcn hoa eka⟩ hbad2
    · have hq2 := hq2.symm
      simp only [Prod.mk.injEq] at hq2
      obtain ⟨rfl, rfl, rfl, rfl⟩ := hq2
      have hl : lv_has ls 8 [(6, .int r2), (5, .int 0), (4, .int (nI (4 * i))), (3, .ref ao), (2, .ref am), (1, .ref x), (0, .ref b)] := hl
      refine lv_icmp_eq (tgt := 667) hx hb dXL_law_662 (by decide) (fun _ => ?_) (fun z => absurd rfl z)
      refine lv_iload hx hb dXL_law_667 (lv_at hl 1 rfl) ?_
      refine lv_if_ne (tgt := 684) hx hb dXL_law_669 (by decide) (fun z => absurd rfl z) (fun _ => ?_)
      refine lv_aload_n hx hb dXL_law_672 rfl (lv_at hl 3 rfl) ?_
      refine lv_iconst (v := 0) hx hb dXL_law_673 (by decide +kernel) ?_
      refine va_lald (D := g.1) (cl := vwCl) hx hb hK hP 3 4 rfl rfl (show vp_in 0 1 by unfold vp_in; decide) dXL_law_674 ?_
      refine qa_l (y := zz.toInt64) (by rw [sb_cl0]; exact pk_uLs) ?_
      have ezz : zz = r2 := by
        have e_j : ja = j := (nI_eq (by omega) (by omega)).mp (eva.symm.trans ev)
        have e_o : oa = o := (nI_eq (by omega) (by omega)).mp (eka.symm.trans ek)
        subst e_j
        subst e_o
        rw [hzz, e3]
      subst ezz
      refine lv_iload hx hb dXL_law_675 (lv_at hl 0 rfl) ?_
      refine lv_i2l (v := zz.toInt64) hx hb dXL_law_677 rfl ?_
      refine W.lcmp hx hb dXL_law_678 ?_
      refine lv_if_eq (tgt := 684) hx hb dXL_law_679 (by decide) (fun _ => ?_) (fun z => absurd (qa_cmp _) z)
      refine lv_goto (tgt := 768) hx hb dXL_law_684 (by decide) ?_
      have hl := lv_sub (l' := [(4, .int (nI (4 * i))), (3, .ref ao), (2, .ref am), (1, .ref x), (0, .ref b)]) hl [2, 3, 4, 5, 6] rfl
      refine W.widen (k := 100 + 60 * (i + 1)) (n := mt_SF (i + 1)) (by omega) (by omega) ?_
      exact kk cn 0 fv fb _ fr n cap LL LP nf ls H locs ⟨by omega, by omega, hfb, hLL, hlc, hok, hrep, hP, hD, hS⟩ hl
set_option maxHeartbeats 4000000 in
set_option maxRecDepth 100000 in
/-- the law: case digest -/
theorem law_digest {p : Program} {e : Env} {s : State} {m : MethodId} {below : List Frame} {meth : Method} {c : Code} (l : Launch) (hl0 : l.stackTraces = false) {b L : Nat} {xs : Nat → Int32} (hL : L ≤ 2048) (C0 : lw_At p s m meth c b L xs) (g : mt_G) (hE : mt_E g s) (hz : g.2.1 = s.heap.size) (am av ab ao x ar al : Nat) (i cn : Nat) (th : Int32) (fv fb : Nat → Int32) (fo : Nat → Int64) (fr : Nat → Option Nat) (n cap : Nat) (LL : va_W) (LP : List Nat) (nf : Nat → mt_N) (ls : Array Slot) (H : Heap) (locs : List Loc) (hi4 : 4 * i + 4 ≤ L) (hi : mt_Inv g s am av ab ao x ar al i cn th fv fb fo fr n cap LL LP nf H locs) (hl : lv_has ls 8 [(4, .int (nI (4 * i))), (3, .ref ao), (2, .ref am), (1, .ref x), (0, .ref b)]) (kk : ∀ (cn : Nat) (th : Int32) (fv fb : Nat → Int32) (fo : Nat → Int64) (fr : Nat → Option Nat) (n cap : Nat) (LL : va_W) (LP : List Nat) (nf : Nat → mt_N) (ls : Array Slot) (H : Heap) (locs : List Loc), mt_Inv g s am av ab ao x ar al (i + 1) cn th fv fb fo fr n cap LL LP nf H locs → lv_has ls 8 [(4, .int (nI (4 * i))), (3, .ref ao), (2, .ref am), (1, .ref x), (0, .ref b)] → W p l e room_1 s m #[Value.ref b] below meth c H locs (100 + 60 * (i + 1)) (mt_SF (i + 1)) (lw_Z below #[Value.ref b] s) (F0 m 768 ls [])) : W p l e room_1 s m #[Value.ref b] below meth c H locs (100 + 60 * i) (mt_SF i) (lw_Z below #[Value.ref b] s) (F0 m 687 ls []) := by
  obtain ⟨hx, hb, hr, hml, hown, hts, hX, hbl, hlocks, hgv⟩ := C0
  have hts := mt_htsL hts
  have hK := hE.k
  have hA : ∀ q : Nat, s.heap.size ≤ q → mt_A g q := fun q h => Nat.le_trans (Nat.le_of_eq hz) h
  have hbA : ¬ mt_A g b := fun h => absurd (Nat.lt_of_lt_of_le hbl (Nat.le_trans (Nat.le_of_eq hz.symm) h)) (Nat.lt_irrefl _)
  have hz2 : g.2.1 ≤ s.heap.size := Nat.le_of_eq hz
  obtain ⟨hcn1, hn9, hfb, hLL, hlc, hok, hrep, hP, hD, hS⟩ := hi
  have hcn : cn ≤ 600 := by omega
  obtain ⟨hnc1, hnc2⟩ := mt_lc_max hlc
  have hsf : mt_SF (i + 1) = mt_SF i + 36 * i + 300 := rfl
  have hsm := mt_SF_le (i := i) (by omega)
  refine lv_aload_n hx hb dXL_law_687 rfl (lv_at hl 3 rfl) ?_
  refine lv_aload_n hx hb dXL_law_688 rfl (lv_at hl 4 rfl) ?_
  refine lv_iload hx hb dXL_law_689 (lv_at hl 0 rfl) ?_
  refine lv_iconst (v := 1) hx hb dXL_law_691 (by decide +kernel) ?_
  refine lv_iadd hx hb dXL_law_692 ?_
  refine qa_i (y := (nI (4 * i + 1))) (nI_1 (4 * i)) ?_
  refine va_sld hx hb hX hbl hbA hS (vp_in_nI (n := 4 * i + 1) (by omega) (by omega)) dXL_law_693 ?_
  refine qa_i (y := (xs (4 * i + 1))) (by rw [nI_clamp (by omega)]) ?_
  refine lv_aload_n hx hb dXL_law_694 rfl (lv_at hl 1 rfl) ?_
  refine va_calli (vx_runSW (As := [.ref x, .int (xs (4 * i + 1)), .ref ao]) (rest := []) ⟨hx, hb, hml, hown, hts⟩ (c_L_digest l g hl0 (am, .inr (2, [.ref av, .ref ab, .int (nI cn), .int th])) (av, .inl (g.2.2.2 2, 153600, .inl fv)) (ab, .inl (g.2.2.2 3, 153600, .inl fb)) ao fo x ar al cn fr n cap LL LP nf hLL hlc (by omega) hok (mt_ft fv fb) hrep hcn (xs (4 * i + 1))) (vx_cwSW 3 hts (mt_giS mw_367 mw_368 mw_0 (mt_giW mw_369)) rfl rfl rfl (by decide +kernel) ⟨Nat.le_of_ble_eq_true rfl, Nat.le_of_ble_eq_true rfl⟩) (mt_preS hE hz2 hS hP hD) rfl rfl hl.1 rfl (lv_room (Nat.le_of_ble_eq_true rfl)) dXL_law_695 ⟨by show 100 + 60 * i + (1) ≤ 601024; omega, by show mt_SF i + (6) ≤ 7293034; omega⟩) hS (fun _ _ h => h) (fun _ h => h) (fun r1 u1 t1 H locs ht1 hvm1 hpo1 hB1 hz1 hk1 hS => ?_)
  obtain ⟨cn1, fr1, LL1, LP1, nf1, fo1⟩ := u1
  obtain ⟨hP, hD⟩ := hB1
  rw [ht1] at hP
  dsimp only at hP hD hpo1
  refine lv_istore (i := 5) (lv' := [(5, .int r1), (4, .int (nI (4 * i))), (3, .ref ao), (2, .ref am), (1, .ref x), (0, .ref b)]) hx hb dXL_law_698 hl (by decide) rfl (fun ls hl => ?_)
  refine lv_aload_n hx hb dXL_law_700 rfl (lv_at hl 3 rfl) ?_
  refine lv_aload_n hx hb dXL_law_701 rfl (lv_at hl 5 rfl) ?_
  refine lv_iload hx hb dXL_law_702 (lv_at hl 1 rfl) ?_
  refine lv_iconst (v := 1) hx hb dXL_law_704 (by decide +kernel) ?_
  refine lv_iadd hx hb dXL_law_705 ?_
  refine qa_i (y := (nI (4 * i + 1))) (nI_1 (4 * i)) ?_
  refine va_sld hx hb hX hbl hbA hS (vp_in_nI (n := 4 * i + 1) (by omega) (by omega)) dXL_law_706 ?_
  refine qa_i (y := (xs (4 * i + 1))) (by rw [nI_clamp (by omega)]) ?_
  refine va_calll (va_runV (As := [.int (xs (4 * i + 1))]) (rest := []) ⟨hx, hb, hml, hown, hts⟩ (c_M_digest l g am av ab cn th fv fb _ hcn hfb (xs (4 * i + 1))) (cwV 1 hts (mt_giV mw_446 mw_447 mw_448 mw_5 (mt_gi mw_449)) rfl rfl rfl (by decide +kernel) ⟨Nat.le_of_ble_eq_true rfl, Nat.le_of_ble_eq_true rfl⟩) (mt_preV hE hz2 hS hP hD (va_recv hK hP (q := (RXM, TXM, 4)) (q0 := 0) rfl rfl)) rfl rfl hl.1 rfl (lv_room (Nat.le_of_ble_eq_true rfl)) dXL_law_707 ⟨by show 100 + 60 * i + (1) + 0 ≤ 601024; omega, by show mt_SF i + (6) + 0 ≤ 7293034; omega⟩) hS (fun _ _ h => h) (fun _ h => h) (fun r2 u2 t2 H locs ht2 hvm2 hpo2 hB2 hz2x hk2 hS => ?_)
  obtain ⟨cn2, th2, f2, h2⟩ := u2
  obtain ⟨hP, hD⟩ := hB2
  rw [ht2] at hP
  dsimp only at hP hD hpo2
  refine lv_lstore (i := 6) (lv' := [(6, .long r2), (5, .int r1), (4, .int (nI (4 * i))), (3, .ref ao), (2, .ref am), (1, .ref x), (0, .ref b)]) hx hb dXL_law_710 hl (by decide) rfl (fun ls hl => ?_)
  refine lv_aload_n hx hb dXL_law_712 rfl (lv_at hl 4 rfl) ?_
  refine vp_callSi (W.runV (As := []) (rest := []) ⟨hx, hb, hml, hown, hts⟩ (c_M_thrown l g am av ab (nI cn2) th2 f2 h2 _) (cwV 0 hts (mt_giV mw_401 mw_402 mw_403 mw_5 (mt_gi mw_404)) rfl rfl rfl (by decide +kernel) ⟨Nat.le_of_ble_eq_true rfl, Nat.le_of_ble_eq_true rfl⟩) (mt_preV hE hz2 hS hP hD (va_recv hK hP (q := (RXM, TXM, 4)) (q0 := 0) rfl rfl)) rfl rfl hl.1 rfl (lv_room (Nat.le_of_ble_eq_true rfl)) dXL_law_713 ⟨by show 100 + 60 * i + (1) + 0 + 0 ≤ 601024; omega, by show mt_SF i + (6) + 0 + 0 ≤ 7293034; omega⟩) (fun z3 e3 => ?_)
  subst e3
  refine lv_iload hx hb dXL_law_716 (lv_at hl 1 rfl) ?_
  rcases hpo1 with ⟨rfl, hbad, hq1⟩ | ⟨rfl, zz, ⟨ja, hja, eva, hzz⟩, hq1⟩
  · have hq1 := hq1.symm
    simp only [Prod.mk.injEq] at hq1
    obtain ⟨rfl, rfl, rfl, rfl, rfl, rfl⟩ := hq1
    rcases hpo2 with ⟨hbad2, hq2⟩ | ⟨hq2, j, hj, ev, e3⟩
    · have hq2 := hq2.symm
      simp only [Prod.mk.injEq] at hq2
      obtain ⟨rfl, rfl, rfl, rfl⟩ := hq2
      have hl : lv_has ls 8 [(6, .long r2), (5, .int 1), (4, .int (nI (4 * i))), (3, .ref ao), (2, .ref am), (1, .ref x), (0, .ref b)] := hl
      refine lv_icmp_eq (tgt := 723) hx hb dXL_law_718 (by decide) (fun _ => ?_) (fun z => absurd rfl z)
      refine lv_iload hx hb dXL_law_723 (lv_at hl 1 rfl) ?_
      refine lv_if_ne (tgt := 739) hx hb dXL_law_725 (by decide) (fun _ => ?_) (fun z => absurd z (show ¬ (1 : Int32) = 0 by decide))
      refine lv_goto (tgt := 768) hx hb dXL_law_739 (by decide) ?_
      have hl := lv_sub (l' := [(4, .int (nI (4 * i))), (3, .ref ao), (2, .ref am), (1, .ref x), (0, .ref b)]) hl [2, 3, 4, 5, 6] rfl
      refine W.widen (k := 100 + 60 * (i + 1)) (n := mt_SF (i + 1)) (by omega) (by omega) ?_
      exact kk cn 1 fv fb _ fr n cap LL LP nf ls H locs ⟨by omega, by omega, hfb, hLL, hlc, hok, hrep, hP, hD, hS⟩ hl
    · exact absurd (mt_ver_of hcn hj ev) hbad
  · have hq1 := hq1.symm
    simp only [Prod.mk.injEq] at hq1
    obtain ⟨rfl, rfl, rfl, rfl, rfl, rfl⟩ := hq1
    rcases hpo2 with ⟨hbad2, hq2⟩ | ⟨hq2, j, hj, ev, e3⟩
    · exact absurd (mt_ver_of hcn hja eva) hbad2
    · have hq2 := hq2.symm
      simp only [Prod.mk.injEq] at hq2
      obtain ⟨rfl, rfl, rfl, rfl⟩ := hq2
      have hl : lv_has ls 8 [(6, .long r2), (5, .int 0), (4, .int (nI (4 * i))), (3, .ref ao), (2, .ref am), (1, .ref x), (0, .ref b)] := hl
      refine lv_icmp_eq (tgt := 723) hx hb dXL_law_718 (by decide) (fun _ => ?_) (fun z => absurd rfl z)
      refine lv_iload hx hb dXL_law_723 (lv_at hl 1 rfl) ?_
      refine lv_if_ne (tgt := 739) hx hb dXL_law_725 (by decide) (fun z => absurd rfl z) (fun _ => ?_)
      refine lv_aload_n hx hb dXL_law_728 rfl (lv_at hl 3 rfl) ?_
      refine lv_iconst (v := 0) hx hb dXL_law_729 (by decide +kernel) ?_
      refine va_lald (D := g.1) (cl := vwCl) hx hb hK hP 3 4 rfl rfl (show vp_in 0 1 by unfold vp_in; decide) dXL_law_730 ?_
      refine qa_l (y := zz) (by rw [sb_cl0]; exact pk_uLs) ?_
      have ezz : zz = r2 := by
        have e_j : ja = j := (nI_eq (by omega) (by omega)).mp (eva.symm.trans ev)
        subst e_j
        rw [hzz, e3]
      subst ezz
      refine lv_lload hx hb dXL_law_731 (lv_at hl 0 rfl) ?_
      refine W.lcmp hx hb dXL_law_733 ?_
      refine lv_if_eq (tgt := 739) hx hb dXL_law_734 (by decide) (fun _ => ?_) (fun z => absurd (qa_cmp _) z)
      refine lv_goto (tgt := 768) hx hb dXL_law_739 (by decide) ?_
      have hl := lv_sub (l' := [(4, .int (nI (4 * i))), (3, .ref ao), (2, .ref am), (1, .ref x), (0, .ref b)]) hl [2, 3, 4, 5, 6] rfl
      refine W.widen (k := 100 + 60 * (i + 1)) (n := mt_SF (i + 1)) (by omega) (by omega) ?_
      exact kk cn 0 fv fb _ fr n cap LL LP nf ls H locs ⟨by omega, by omega, hfb, hLL, hlc, hok, hrep, hP, hD, hS⟩ hl
