set_option maxHeartbeats 4000000 in
set_option maxRecDepth 100000 in
/-- the law: case put -/
theorem law_put {p : Program} {e : Env} {s : State} {m : MethodId} {below : List Frame} {meth : Method} {c : Code} (l : Launch) (hl0 : l.stackTraces = false) {b L : Nat} {xs : Nat → Int32} (hL : L ≤ 2048) (C0 : lw_At p s m meth c b L xs) (g : mt_G) (hE : mt_E g s) (hz : g.2.1 = s.heap.size) (am av ab ao x ar al : Nat) (i cn : Nat) (th : Int32) (fv fb : Nat → Int32) (fo : Nat → Int64) (fr : Nat → Option Nat) (n cap : Nat) (LL : va_W) (LP : List Nat) (nf : Nat → mt_N) (ls : Array Slot) (H : Heap) (locs : List Loc) (hi4 : 4 * i + 4 ≤ L) (hi : mt_Inv g s am av ab ao x ar al i cn th fv fb fo fr n cap LL LP nf H locs) (hl : lv_has ls 8 [(4, .int (nI (4 * i))), (3, .ref ao), (2, .ref am), (1, .ref x), (0, .ref b)]) (kk : ∀ (cn : Nat) (th : Int32) (fv fb : Nat → Int32) (fo : Nat → Int64) (fr : Nat → Option Nat) (n cap : Nat) (LL : va_W) (LP : List Nat) (nf : Nat → mt_N) (ls : Array Slot) (H : Heap) (locs : List Loc), mt_Inv g s am av ab ao x ar al (i + 1) cn th fv fb fo fr n cap LL LP nf H locs → lv_has ls 8 [(4, .int (nI (4 * i))), (3, .ref ao), (2, .ref am), (1, .ref x), (0, .ref b)] → W p l e room_1 s m #[Value.ref b] below meth c H locs (100 + 60 * (i + 1)) (mt_SF (i + 1)) (lw_Z below #[Value.ref b] s) (F0 m 768 ls [])) : W p l e room_1 s m #[Value.ref b] below meth c H locs (100 + 60 * i) (mt_SF i) (lw_Z below #[Value.ref b] s) (F0 m 96 ls []) := by
  obtain ⟨hx, hb, hr, hml, hown, hts, hX, hbl, hlocks, hgv⟩ := C0
  have hts := mt_htsL hts
  have hK := hE.k
  have hA : ∀ q : Nat, s.heap.size ≤ q → mt_A g q := fun q h => Nat.le_trans (Nat.le_of_eq hz) h
  have hbA : ¬ mt_A g b := fun h => absurd (Nat.lt_of_lt_of_le hbl (Nat.le_trans (Nat.le_of_eq hz.symm) h)) (Nat.lt_irrefl _)
  have hz2 : g.2.1 ≤ s.heap.size := Nat.le_of_eq hz
  obtain ⟨hcn1, hn9, hfb, hLL, hlc, hok, hrep, hP, hD, hS⟩ := hi
  have hcn : cn ≤ 600 := by omega
  obtain ⟨hnc1, hnc2⟩ := mt_lc_max hlc
  have hsf : mt_SF (i + 1) = mt_SF i + 36 * i + 300 := rfl
  have hsm := mt_SF_le (i := i) (by omega)
  refine lv_aload_n hx hb dXL_law_96 rfl (lv_at hl 3 rfl) ?_
  refine lv_aload_n hx hb dXL_law_97 rfl (lv_at hl 4 rfl) ?_
  refine lv_iload hx hb dXL_law_98 (lv_at hl 0 rfl) ?_
  refine lv_iconst (v := 1) hx hb dXL_law_100 (by decide +kernel) ?_
  refine lv_iadd hx hb dXL_law_101 ?_
  refine qa_i (y := (nI (4 * i + 1))) (nI_1 (4 * i)) ?_
  refine va_sld hx hb hX hbl hbA hS (vp_in_nI (n := 4 * i + 1) (by omega) (by omega)) dXL_law_102 ?_
  refine qa_i (y := (xs (4 * i + 1))) (by rw [nI_clamp (by omega)]) ?_
  refine lv_aload_n hx hb dXL_law_103 rfl (lv_at hl 4 rfl) ?_
  refine lv_iload hx hb dXL_law_104 (lv_at hl 0 rfl) ?_
  refine lv_iconst (v := (nI 2)) hx hb dXL_law_106 (by decide +kernel) ?_
  refine lv_iadd hx hb dXL_law_107 ?_
  refine qa_i (y := (nI (4 * i + 2))) (nI_add (4 * i) 2) ?_
  refine va_sld hx hb hX hbl hbA hS (vp_in_nI (n := 4 * i + 2) (by omega) (by omega)) dXL_law_108 ?_
  refine qa_i (y := (xs (4 * i + 2))) (by rw [nI_clamp (by omega)]) ?_
  refine lv_aload_n hx hb dXL_law_109 rfl (lv_at hl 4 rfl) ?_
  refine lv_iload hx hb dXL_law_110 (lv_at hl 0 rfl) ?_
  refine lv_iconst (v := (nI 3)) hx hb dXL_law_112 (by decide +kernel) ?_
  refine lv_iadd hx hb dXL_law_113 ?_
  refine qa_i (y := (nI (4 * i + 3))) (nI_add (4 * i) 3) ?_
  refine va_sld hx hb hX hbl hbA hS (vp_in_nI (n := 4 * i + 3) (by omega) (by omega)) dXL_law_114 ?_
  refine qa_i (y := (xs (4 * i + 3))) (by rw [nI_clamp (by omega)]) ?_
  refine lv_aload_n hx hb dXL_law_115 rfl (lv_at hl 1 rfl) ?_
  have hna8 : mt_na (mt_put (mt_ft fv fb (xs (4 * i + 1)).toNatClampNeg) (xs (4 * i + 2)).toNatClampNeg (xs (4 * i + 3))) (xs (4 * i + 2)).toNatClampNeg 8 ≤ 8 := mt_na_le _ _ 8
  have hwr := c_L_put l g hl0 (am, .inr (2, [.ref av, .ref ab, .int (nI cn), .int th])) (av, .inl (g.2.2.2 2, 153600, .inl fv)) (ab, .inl (g.2.2.2 3, 153600, .inl fb)) ao fo x ar al cn fr n cap LL LP nf hLL hlc (by omega) hok (mt_ft fv fb) hrep hcn (xs (4 * i + 1)) (xs (4 * i + 2)) (xs (4 * i + 3)) (xs (4 * i + 1)).toNatClampNeg (xs (4 * i + 2)).toNatClampNeg (mt_ver_cl hcn) mt_key_cl
  generalize hna : mt_na (mt_put (mt_ft fv fb (xs (4 * i + 1)).toNatClampNeg) (xs (4 * i + 2)).toNatClampNeg (xs (4 * i + 3))) (xs (4 * i + 2)).toNatClampNeg 8 = na at hna8 hwr
  obtain ⟨hlc1, hg1, hcc1⟩ := mt_lc1 hlc
  obtain ⟨hlc2, hg2, hcc2⟩ := mt_lcj hlc1 na
  have hmx := mt_lc_max hlc2
  refine va_calli (vx_runSW (As := [.ref x, .int (xs (4 * i + 1)), .int (xs (4 * i + 2)), .int (xs (4 * i + 3)), .ref ao]) (rest := []) ⟨hx, hb, hml, hown, hts⟩ (hwr) (vx_cwSW 5 hts (mt_giS mw_107 mw_108 mw_0 (mt_giW mw_109)) rfl rfl rfl (by decide +kernel) ⟨Nat.le_of_ble_eq_true rfl, Nat.le_of_ble_eq_true rfl⟩) (mt_preS hE hz2 hS hP hD) rfl rfl hl.1 rfl (lv_room (Nat.le_of_ble_eq_true rfl)) dXL_law_116 ⟨by show 100 + 60 * i + (5 + 2 * na) ≤ 601024; omega, by show mt_SF i + (25 + mt_gr1 n cap + (7 * na + mt_gr (n + 1) (mt_cap1 n cap) na)) ≤ 7293034; omega⟩) hS (fun _ _ h => h) (fun _ h => h) (fun r1 u1 t1 H locs ht1 hvm1 hpo1 hB1 hz1 hk1 hS => ?_)
  obtain ⟨cn1, fr1, LL1, LP1, nf1, fo1⟩ := u1
  obtain ⟨hP, hD⟩ := hB1
  rw [ht1] at hP
  dsimp only at hP hD hpo1
  refine lv_istore (i := 5) (lv' := [(5, .int r1), (4, .int (nI (4 * i))), (3, .ref ao), (2, .ref am), (1, .ref x), (0, .ref b)]) hx hb dXL_law_119 hl (by decide) rfl (fun ls hl => ?_)
  refine lv_aload_n hx hb dXL_law_121 rfl (lv_at hl 3 rfl) ?_
  refine lv_aload_n hx hb dXL_law_122 rfl (lv_at hl 5 rfl) ?_
  refine lv_iload hx hb dXL_law_123 (lv_at hl 1 rfl) ?_
  refine lv_iconst (v := 1) hx hb dXL_law_125 (by decide +kernel) ?_
  refine lv_iadd hx hb dXL_law_126 ?_
  refine qa_i (y := (nI (4 * i + 1))) (nI_1 (4 * i)) ?_
  refine va_sld hx hb hX hbl hbA hS (vp_in_nI (n := 4 * i + 1) (by omega) (by omega)) dXL_law_127 ?_
  refine qa_i (y := (xs (4 * i + 1))) (by rw [nI_clamp (by omega)]) ?_
  refine lv_aload_n hx hb dXL_law_128 rfl (lv_at hl 5 rfl) ?_
  refine lv_iload hx hb dXL_law_129 (lv_at hl 1 rfl) ?_
  refine lv_iconst (v := (nI 2)) hx hb dXL_law_131 (by decide +kernel) ?_
  refine lv_iadd hx hb dXL_law_132 ?_
  refine qa_i (y := (nI (4 * i + 2))) (nI_add (4 * i) 2) ?_
  refine va_sld hx hb hX hbl hbA hS (vp_in_nI (n := 4 * i + 2) (by omega) (by omega)) dXL_law_133 ?_
  refine qa_i (y := (xs (4 * i + 2))) (by rw [nI_clamp (by omega)]) ?_
  refine lv_aload_n hx hb dXL_law_134 rfl (lv_at hl 5 rfl) ?_
  refine lv_iload hx hb dXL_law_135 (lv_at hl 1 rfl) ?_
  refine lv_iconst (v := (nI 3)) hx hb dXL_law_137 (by decide +kernel) ?_
  refine lv_iadd hx hb dXL_law_138 ?_
  refine qa_i (y := (nI (4 * i + 3))) (nI_add (4 * i) 3) ?_
  refine va_sld hx hb hX hbl hbA hS (vp_in_nI (n := 4 * i + 3) (by omega) (by omega)) dXL_law_139 ?_
  refine qa_i (y := (xs (4 * i + 3))) (by rw [nI_clamp (by omega)]) ?_
  refine va_calli (va_runV (As := [.int (xs (4 * i + 1)), .int (xs (4 * i + 2)), .int (xs (4 * i + 3))]) (rest := []) ⟨hx, hb, hml, hown, hts⟩ (c_M_put l g am av ab cn th fv fb _ hcn hfb (xs (4 * i + 1)) (xs (4 * i + 2)) (xs (4 * i + 3))) (cwV 3 hts (mt_giV mw_405 mw_406 mw_407 mw_5 (mt_gi mw_408)) rfl rfl rfl (by decide +kernel) ⟨Nat.le_of_ble_eq_true rfl, Nat.le_of_ble_eq_true rfl⟩) (mt_preV hE hz2 hS hP hD (va_recv hK hP (q := (RXM, TXM, 4)) (q0 := 0) rfl rfl)) rfl rfl hl.1 rfl (lv_room (Nat.le_of_ble_eq_true rfl)) dXL_law_140 ⟨by show 100 + 60 * i + (5 + 2 * na) + 0 ≤ 601024; omega, by show mt_SF i + (25 + mt_gr1 n cap + (7 * na + mt_gr (n + 1) (mt_cap1 n cap) na)) + 0 ≤ 7293034; omega⟩) hS (fun _ _ h => h) (fun _ h => h) (fun r2 u2 t2 H locs ht2 hvm2 hpo2 hB2 hz2x hk2 hS => ?_)
  obtain ⟨cn2, th2, f2, h2⟩ := u2
  obtain ⟨hP, hD⟩ := hB2
  rw [ht2] at hP
  dsimp only at hP hD hpo2
  refine lv_istore (i := 6) (lv' := [(6, .int r2), (5, .int r1), (4, .int (nI (4 * i))), (3, .ref ao), (2, .ref am), (1, .ref x), (0, .ref b)]) hx hb dXL_law_143 hl (by decide) rfl (fun ls hl => ?_)
  refine lv_aload_n hx hb dXL_law_145 rfl (lv_at hl 4 rfl) ?_
  refine vp_callSi (W.runV (As := []) (rest := []) ⟨hx, hb, hml, hown, hts⟩ (c_M_thrown l g am av ab (nI cn2) th2 f2 h2 _) (cwV 0 hts (mt_giV mw_401 mw_402 mw_403 mw_5 (mt_gi mw_404)) rfl rfl rfl (by decide +kernel) ⟨Nat.le_of_ble_eq_true rfl, Nat.le_of_ble_eq_true rfl⟩) (mt_preV hE hz2 hS hP hD (va_recv hK hP (q := (RXM, TXM, 4)) (q0 := 0) rfl rfl)) rfl rfl hl.1 rfl (lv_room (Nat.le_of_ble_eq_true rfl)) dXL_law_146 ⟨by show 100 + 60 * i + (5 + 2 * na) + 0 + 0 ≤ 601024; omega, by show mt_SF i + (25 + mt_gr1 n cap + (7 * na + mt_gr (n + 1) (mt_cap1 n cap) na)) + 0 + 0 ≤ 7293034; omega⟩) (fun z3 e3 => ?_)
  subst e3
  refine lv_iload hx hb dXL_law_149 (lv_at hl 1 rfl) ?_
  rcases hpo1 with ⟨rfl, hbad, hq1⟩ | ⟨rfl, hvk, hfull, hq1⟩ | ⟨rfl, hvk, hc6, LLa, LPa, nfa, rt, hq1, hLL1, hkp, hok1, hrp⟩
  · have hq1 := hq1.symm
    simp only [Prod.mk.injEq] at hq1
    obtain ⟨rfl, rfl, rfl, rfl, rfl, rfl⟩ := hq1
    rcases hpo2 with ⟨hbad2, hq2⟩ | ⟨hvk2, hfull2, hq2⟩ | ⟨j, o, hj, ho, ev, ek, hc62, e3, f, h, hq2, hnew⟩
    · have hq2 := hq2.symm
      simp only [Prod.mk.injEq] at hq2
      obtain ⟨rfl, rfl, rfl, rfl⟩ := hq2
      have hl : lv_has ls 8 [(6, .int r2), (5, .int 1), (4, .int (nI (4 * i))), (3, .ref ao), (2, .ref am), (1, .ref x), (0, .ref b)] := hl
      refine lv_icmp_eq (tgt := 156) hx hb dXL_law_151 (by decide) (fun _ => ?_) (fun z => absurd rfl z)
      refine lv_iload hx hb dXL_law_156 (lv_at hl 1 rfl) ?_
      refine lv_if_ne (tgt := 173) hx hb dXL_law_158 (by decide) (fun _ => ?_) (fun z => absurd z (show ¬ (1 : Int32) = 0 by decide))
      refine lv_goto (tgt := 768) hx hb dXL_law_173 (by decide) ?_
      have hl := lv_sub (l' := [(4, .int (nI (4 * i))), (3, .ref ao), (2, .ref am), (1, .ref x), (0, .ref b)]) hl [2, 3, 4, 5, 6] rfl
      refine W.widen (k := 100 + 60 * (i + 1)) (n := mt_SF (i + 1)) (by omega) (by omega) ?_
      exact kk cn 1 fv fb _ fr n cap LL LP nf ls H locs ⟨by omega, by omega, hfb, hLL, hlc, hok, hrep, hP, hD, hS⟩ hl
    · exact absurd hvk2 hbad
    · exact absurd ⟨mt_ver_of hcn hj ev, mt_key_of ho ek⟩ hbad
  · have hq1 := hq1.symm
    simp only [Prod.mk.injEq] at hq1
    obtain ⟨rfl, rfl, rfl, rfl, rfl, rfl⟩ := hq1
    rcases hpo2 with ⟨hbad2, hq2⟩ | ⟨hvk2, hfull2, hq2⟩ | ⟨j, o, hj, ho, ev, ek, hc62, e3, f, h, hq2, hnew⟩
    · exact absurd hvk hbad2
    · have hq2 := hq2.symm
      simp only [Prod.mk.injEq] at hq2
      obtain ⟨rfl, rfl, rfl, rfl⟩ := hq2
      have hl : lv_has ls 8 [(6, .int r2), (5, .int 2), (4, .int (nI (4 * i))), (3, .ref ao), (2, .ref am), (1, .ref x), (0, .ref b)] := hl
      refine lv_icmp_eq (tgt := 156) hx hb dXL_law_151 (by decide) (fun _ => ?_) (fun z => absurd rfl z)
      refine lv_iload hx hb dXL_law_156 (lv_at hl 1 rfl) ?_
      refine lv_if_ne (tgt := 173) hx hb dXL_law_158 (by decide) (fun _ => ?_) (fun z => absurd z (show ¬ (2 : Int32) = 0 by decide))
      refine lv_goto (tgt := 768) hx hb dXL_law_173 (by decide) ?_
      have hl := lv_sub (l' := [(4, .int (nI (4 * i))), (3, .ref ao), (2, .ref am), (1, .ref x), (0, .ref b)]) hl [2, 3, 4, 5, 6] rfl
      refine W.widen (k := 100 + 60 * (i + 1)) (n := mt_SF (i + 1)) (by omega) (by omega) ?_
      exact kk cn 2 fv fb _ fr n cap LL LP nf ls H locs ⟨by omega, by omega, hfb, hLL, hlc, hok, hrep, hP, hD, hS⟩ hl
    · exact absurd hc62 (by omega)
  · have hq1 := hq1.symm
    simp only [Prod.mk.injEq] at hq1
    obtain ⟨rfl, rfl, rfl, rfl, rfl, rfl⟩ := hq1
    rcases hpo2 with ⟨hbad2, hq2⟩ | ⟨hvk2, hfull2, hq2⟩ | ⟨j, o, hj, ho, ev, ek, hc62, e3, f, h, hq2, hnew⟩
    · exact absurd hvk hbad2
    · exact absurd hc6 (by omega)
    · have hq2 := hq2.symm
      simp only [Prod.mk.injEq] at hq2
      obtain ⟨rfl, rfl, rfl, rfl⟩ := hq2
      have hl : lv_has ls 8 [(6, .int r2), (5, .int 0), (4, .int (nI (4 * i))), (3, .ref ao), (2, .ref am), (1, .ref x), (0, .ref b)] := hl
      refine lv_icmp_eq (tgt := 156) hx hb dXL_law_151 (by decide) (fun _ => ?_) (fun z => absurd rfl z)
      refine lv_iload hx hb dXL_law_156 (lv_at hl 1 rfl) ?_
      refine lv_if_ne (tgt := 173) hx hb dXL_law_158 (by decide) (fun z => absurd rfl z) (fun _ => ?_)
      refine lv_aload_n hx hb dXL_law_161 rfl (lv_at hl 3 rfl) ?_
      refine lv_iconst (v := 0) hx hb dXL_law_162 (by decide +kernel) ?_
      refine va_lald (D := g.1) (cl := vwCl) hx hb hK hP 3 4 rfl rfl (show vp_in 0 1 by unfold vp_in; decide) dXL_law_163 ?_
      refine qa_l (y := (nI cn).toInt64) (by rw [sb_cl0]; exact pk_uLs) ?_
      subst e3
      refine lv_iload hx hb dXL_law_164 (lv_at hl 0 rfl) ?_
      refine lv_i2l (v := (nI cn).toInt64) hx hb dXL_law_166 rfl ?_
      refine W.lcmp hx hb dXL_law_167 ?_
      refine lv_if_eq (tgt := 173) hx hb dXL_law_168 (by decide) (fun _ => ?_) (fun z => absurd (qa_cmp _) z)
      refine lv_goto (tgt := 768) hx hb dXL_law_173 (by decide) ?_
      have hl := lv_sub (l' := [(4, .int (nI (4 * i))), (3, .ref ao), (2, .ref am), (1, .ref x), (0, .ref b)]) hl [2, 3, 4, 5, 6] rfl
      refine W.widen (k := 100 + 60 * (i + 1)) (n := mt_SF (i + 1)) (by omega) (by omega) ?_
      exact kk (cn + 1) 0 f h _ _ ((n + 1) + na) (mt_cap (n + 1) (mt_cap1 n cap) na) _ _ _ ls H locs ⟨by omega, by omega, hnew.2.2, hLL1, hlc2, hok1, mt_next hkp hrep hnew hrp (fun y hy => by rw [show (xs (4 * i + 1)).toNatClampNeg = j by rw [ev]; exact nI_clamp (by omega), show (xs (4 * i + 2)).toNatClampNeg = o by rw [ek]; exact nI_clamp (by omega)]; unfold mt_put mt_ft; by_cases e9 : y = o; (rw [if_pos e9, if_pos e9]; rfl); (rw [if_neg e9, if_neg e9])), hP, hD, hS⟩ hl
