theorem mt_len4 {L : Nat} (h : L ≤ 2048) : (nI L - nI 4).toInt = (L : Int) - 4 := by
  rw [Int32.toInt_sub, nI_toInt (by omega), nI_toInt (by omega), Int.bmod_eq_of_le (by omega) (by omega)]
  rfl
theorem mt_go {L i : Nat} (h : L ≤ 2048) (h4 : 4 * i + 4 ≤ L) : ¬ nI L - nI 4 < nI (4 * i) := by
  rw [Int32.lt_iff_toInt_lt, mt_len4 h, nI_toInt (by omega)]
  omega
theorem mt_end {L i : Nat} (h : L ≤ 2048) (h4 : 4 * i ≤ L) (h5 : ¬ 4 * i + 4 ≤ L) : nI L - nI 4 < nI (4 * i) := by
  rw [Int32.lt_iff_toInt_lt, mt_len4 h, nI_toInt (by omega)]
  omega
set_option maxHeartbeats 4000000 in
set_option maxRecDepth 100000 in
/-- the law: case versions -/
theorem law_versions {p : Program} {e : Env} {s : State} {m : MethodId} {below : List Frame} {meth : Method} {c : Code} (l : Launch) (hl0 : l.stackTraces = false) {b L : Nat} {xs : Nat → Int32} (hL : L ≤ 2048) (C0 : lw_At p s m meth c b L xs) (g : mt_G) (hE : mt_E g s) (hz : g.2.1 = s.heap.size) (am av ab ao x ar al : Nat) (i cn : Nat) (th : Int32) (fv fb : Nat → Int32) (fo : Nat → Int64) (fr : Nat → Option Nat) (n cap : Nat) (LL : va_W) (LP : List Nat) (nf : Nat → mt_N) (ls : Array Slot) (H : Heap) (locs : List Loc) (hi4 : 4 * i + 4 ≤ L) (hi : mt_Inv g s am av ab ao x ar al i cn th fv fb fo fr n cap LL LP nf H locs) (hl : lv_has ls 8 [(4, .int (nI (4 * i))), (3, .ref ao), (2, .ref am), (1, .ref x), (0, .ref b)]) (kk : ∀ (cn : Nat) (th : Int32) (fv fb : Nat → Int32) (fo : Nat → Int64) (fr : Nat → Option Nat) (n cap : Nat) (LL : va_W) (LP : List Nat) (nf : Nat → mt_N) (ls : Array Slot) (H : Heap) (locs : List Loc), mt_Inv g s am av ab ao x ar al (i + 1) cn th fv fb fo fr n cap LL LP nf H locs → lv_has ls 8 [(4, .int (nI (4 * i))), (3, .ref ao), (2, .ref am), (1, .ref x), (0, .ref b)] → W p l e room_1 s m #[Value.ref b] below meth c H locs (100 + 60 * (i + 1)) (mt_SF (i + 1)) (lw_Z below #[Value.ref b] s) (F0 m 768 ls [])) : W p l e room_1 s m #[Value.ref b] below meth c H locs (100 + 60 * i) (mt_SF i) (lw_Z below #[Value.ref b] s) (F0 m 742 ls []) := by
  obtain ⟨hx, hb, hr, hml, hown, hts, hX, hbl, hlocks, hgv⟩ := C0
  have hts := mt_htsL hts
  have hK := hE.k
  have hA : ∀ q : Nat, s.heap.size ≤ q → mt_A g q := fun q h => Nat.le_trans (Nat.le_of_eq hz) h
  have hbA : ¬ mt_A g b := fun h => absurd (Nat.lt_of_lt_of_le hbl (Nat.le_trans (Nat.le_of_eq hz.symm) h)) (Nat.lt_irrefl _)
  have hz2 : g.2.1 ≤ s.heap.size := Nat.le_of_eq hz
  obtain ⟨hcn1, hn9, hfb, hLL, hlc, hok, hrep, hP, hD, hS⟩ := hi
  have hcn : cn ≤ 600 := by omega
  have hsf : mt_SF (i + 1) = mt_SF i + 36 * i + 300 := rfl
  have hsm := mt_SF_le (i := i) (by omega)
  refine lv_aload_n hx hb dXL_law_742 rfl (lv_at hl 3 rfl) ?_
  refine vp_callSi (W.runV (As := []) (rest := []) ⟨hx, hb, hml, hown, hts⟩ (c_versions l g _ 4 5 x ar al cn fr rfl rfl hcn) (cwV 0 hts (mt_giV mw_63 mw_64 mw_65 mw_1 (mt_gi mw_66)) rfl rfl rfl (by decide +kernel) ⟨Nat.le_of_ble_eq_true rfl, Nat.le_of_ble_eq_true rfl⟩) (mt_preV hE hz2 hS hP hD (va_recv hK hP (q := (RXT, TXT, 3)) (q0 := 4) rfl rfl)) rfl rfl hl.1 rfl (lv_room (Nat.le_of_ble_eq_true rfl)) dXL_law_743 ⟨by show 100 + 60 * i + 0 ≤ 601024; omega, by show mt_SF i + 0 ≤ 7293034; omega⟩) (fun z3 e3 => ?_)
  subst e3
  refine lv_aload_n hx hb dXL_law_746 rfl (lv_at hl 2 rfl) ?_
  refine va_calli (va_runV (As := []) (rest := [.int (nI cn)]) ⟨hx, hb, hml, hown, hts⟩ (c_M_versions l g am av ab cn th fv fb _ hcn hfb) (cwV 0 hts (mt_giV mw_452 mw_453 mw_454 mw_5 (mt_gi mw_455)) rfl rfl rfl (by decide +kernel) ⟨Nat.le_of_ble_eq_true rfl, Nat.le_of_ble_eq_true rfl⟩) (mt_preV hE hz2 hS hP hD (va_recv hK hP (q := (RXM, TXM, 4)) (q0 := 0) rfl rfl)) rfl rfl hl.1 rfl (lv_room (Nat.le_of_ble_eq_true rfl)) dXL_law_747 ⟨by show 100 + 60 * i + 0 + 0 ≤ 601024; omega, by show mt_SF i + 0 + 0 ≤ 7293034; omega⟩) hS (fun _ _ h => h) (fun _ h => h) (fun r2 u2 t2 H locs ht2 hvm2 hpo2 hB2 hz2x hk2 hS => ?_)
  obtain ⟨rfl, rfl⟩ := hpo2
  obtain ⟨hP, hD⟩ := hB2
  rw [ht2] at hP
  dsimp only at hP hD
  refine lv_icmp_eq (tgt := 768) hx hb dXL_law_750 (by decide) (fun _ => ?_) (fun z => absurd rfl z)
  refine W.widen (k := 100 + 60 * (i + 1)) (n := mt_SF (i + 1)) (by omega) (by omega) ?_
  exact kk cn 0 fv fb fo fr n cap LL LP nf ls H locs ⟨by omega, by omega, hfb, hLL, hlc, hok, hrep, hP, hD, hS⟩ hl
set_option maxHeartbeats 4000000 in
set_option maxRecDepth 100000 in
/-- the law: case check -/
theorem law_check {p : Program} {e : Env} {s : State} {m : MethodId} {below : List Frame} {meth : Method} {c : Code} (l : Launch) (hl0 : l.stackTraces = false) {b L : Nat} {xs : Nat → Int32} (hL : L ≤ 2048) (C0 : lw_At p s m meth c b L xs) (g : mt_G) (hE : mt_E g s) (hz : g.2.1 = s.heap.size) (am av ab ao x ar al : Nat) (i cn : Nat) (th : Int32) (fv fb : Nat → Int32) (fo : Nat → Int64) (fr : Nat → Option Nat) (n cap : Nat) (LL : va_W) (LP : List Nat) (nf : Nat → mt_N) (ls : Array Slot) (H : Heap) (locs : List Loc) (hi4 : 4 * i + 4 ≤ L) (hi : mt_Inv g s am av ab ao x ar al i cn th fv fb fo fr n cap LL LP nf H locs) (hl : lv_has ls 8 [(4, .int (nI (4 * i))), (3, .ref ao), (2, .ref am), (1, .ref x), (0, .ref b)]) (kk : ∀ (cn : Nat) (th : Int32) (fv fb : Nat → Int32) (fo : Nat → Int64) (fr : Nat → Option Nat) (n cap : Nat) (LL : va_W) (LP : List Nat) (nf : Nat → mt_N) (ls : Array Slot) (H : Heap) (locs : List Loc), mt_Inv g s am av ab ao x ar al (i + 1) cn th fv fb fo fr n cap LL LP nf H locs → lv_has ls 8 [(4, .int (nI (4 * i))), (3, .ref ao), (2, .ref am), (1, .ref x), (0, .ref b)] → W p l e room_1 s m #[Value.ref b] below meth c H locs (100 + 60 * (i + 1)) (mt_SF (i + 1)) (lw_Z below #[Value.ref b] s) (F0 m 768 ls [])) : W p l e room_1 s m #[Value.ref b] below meth c H locs (100 + 60 * i) (mt_SF i) (lw_Z below #[Value.ref b] s) (F0 m 755 ls []) := by
  obtain ⟨hx, hb, hr, hml, hown, hts, hX, hbl, hlocks, hgv⟩ := C0
  have hts := mt_htsL hts
  have hK := hE.k
  have hA : ∀ q : Nat, s.heap.size ≤ q → mt_A g q := fun q h => Nat.le_trans (Nat.le_of_eq hz) h
  have hbA : ¬ mt_A g b := fun h => absurd (Nat.lt_of_lt_of_le hbl (Nat.le_trans (Nat.le_of_eq hz.symm) h)) (Nat.lt_irrefl _)
  have hz2 : g.2.1 ≤ s.heap.size := Nat.le_of_eq hz
  obtain ⟨hcn1, hn9, hfb, hLL, hlc, hok, hrep, hP, hD, hS⟩ := hi
  have hcn : cn ≤ 600 := by omega
  have hsf : mt_SF (i + 1) = mt_SF i + 36 * i + 300 := rfl
  have hsm := mt_SF_le (i := i) (by omega)
  refine lv_aload_n hx hb dXL_law_755 rfl (lv_at hl 3 rfl) ?_
  refine vp_callSi (W.runV (As := []) (rest := []) ⟨hx, hb, hml, hown, hts⟩ (c_check l g (am, .inr (2, [.ref av, .ref ab, .int (nI cn), .int th])) (av, .inl (g.2.2.2 2, 153600, .inl fv)) (ab, .inl (g.2.2.2 3, 153600, .inl fb)) (ao, .inl (g.2.2.2 4, 1, .inr (.inl fo))) x ar al cn fr n cap LL LP nf hLL hlc (by omega) hok (mt_ft fv fb) hrep hcn) (cwV 0 hts (mt_giV mw_67 mw_68 mw_69 mw_1 (mt_gi mw_70)) rfl rfl rfl (by decide +kernel) ⟨Nat.le_of_ble_eq_true rfl, Nat.le_of_ble_eq_true rfl⟩) (mt_preV hE hz2 hS hP hD (va_recv hK hP (q := (RXT, TXT, 3)) (q0 := 4) rfl rfl)) rfl rfl hl.1 rfl (lv_room (Nat.le_of_ble_eq_true rfl)) dXL_law_756 ⟨by show 100 + 60 * i + 0 ≤ 601024; omega, by show mt_SF i + 0 ≤ 7293034; omega⟩) (fun z3 e3 => ?_)
  subst e3
  refine lv_aload_n hx hb dXL_law_759 rfl (lv_at hl 2 rfl) ?_
  refine va_calli (va_runV (As := []) (rest := [.int 0]) ⟨hx, hb, hml, hown, hts⟩ (c_M_check l g am av ab cn th fv fb _ hcn hfb) (cwV 0 hts (mt_giV mw_456 mw_457 mw_458 mw_5 (mt_gi mw_459)) rfl rfl rfl (by decide +kernel) ⟨Nat.le_of_ble_eq_true rfl, Nat.le_of_ble_eq_true rfl⟩) (mt_preV hE hz2 hS hP hD (va_recv hK hP (q := (RXM, TXM, 4)) (q0 := 0) rfl rfl)) rfl rfl hl.1 rfl (lv_room (Nat.le_of_ble_eq_true rfl)) dXL_law_760 ⟨by show 100 + 60 * i + 0 + 0 ≤ 601024; omega, by show mt_SF i + 0 + 0 ≤ 7293034; omega⟩) hS (fun _ _ h => h) (fun _ h => h) (fun r2 u2 t2 H locs ht2 hvm2 hpo2 hB2 hz2x hk2 hS => ?_)
  obtain ⟨rfl, rfl⟩ := hpo2
  obtain ⟨hP, hD⟩ := hB2
  rw [ht2] at hP
  dsimp only at hP hD
  refine lv_icmp_eq (tgt := 768) hx hb dXL_law_763 (by decide) (fun _ => ?_) (fun z => absurd rfl z)
  refine W.widen (k := 100 + 60 * (i + 1)) (n := mt_SF (i + 1)) (by omega) (by omega) ?_
  exact kk cn 0 fv fb fo fr n cap LL LP nf ls H locs ⟨by omega, by omega, hfb, hLL, hlc, hok, hrep, hP, hD, hS⟩ hl
set_option maxHeartbeats 4000000 in
set_option maxRecDepth 100000 in
/-- the head of the loop -/
theorem law_head {p : Program} {e : Env} {s : State} {m : MethodId} {below : List Frame} {meth : Method} {c : Code} (l : Launch) (hl0 : l.stackTraces = false) {b L : Nat} {xs : Nat → Int32} (hL : L ≤ 2048) (C0 : lw_At p s m meth c b L xs) (g : mt_G) (hE : mt_E g s) (hz : g.2.1 = s.heap.size) (am av ab ao x ar al : Nat) (i cn : Nat) (th : Int32) (fv fb : Nat → Int32) (fo : Nat → Int64) (fr : Nat → Option Nat) (n cap : Nat) (LL : va_W) (LP : List Nat) (nf : Nat → mt_N) (ls : Array Slot) (H : Heap) (locs : List Loc) (hiL : 4 * i ≤ L) (hi : mt_Inv g s am av ab ao x ar al i cn th fv fb fo fr n cap LL LP nf H locs) (hl : lv_has ls 8 [(4, .int (nI (4 * i))), (3, .ref ao), (2, .ref am), (1, .ref x), (0, .ref b)]) (kk : 4 * i + 4 ≤ L → ∀ (cn : Nat) (th : Int32) (fv fb : Nat → Int32) (fo : Nat → Int64) (fr : Nat → Option Nat) (n cap : Nat) (LL : va_W) (LP : List Nat) (nf : Nat → mt_N) (ls : Array Slot) (H : Heap) (locs : List Loc), mt_Inv g s am av ab ao x ar al (i + 1) cn th fv fb fo fr n cap LL LP nf H locs → lv_has ls 8 [(4, .int (nI (4 * (i + 1)))), (3, .ref ao), (2, .ref am), (1, .ref x), (0, .ref b)] → W p l e room_1 s m #[Value.ref b] below meth c H locs (100 + 60 * (i + 1)) (mt_SF (i + 1)) (lw_Z below #[Value.ref b] s) (F0 m 23 ls [])) : W p l e room_1 s m #[Value.ref b] below meth c H locs (100 + 60 * i) (mt_SF i) (lw_Z below #[Value.ref b] s) (F0 m 23 ls []) := by
  have C1 := C0
  obtain ⟨hx, hb, hr, hml, hown, hts, hX, hbl, hlocks, hgv⟩ := C0
  have hts := mt_htsL hts
  have hK := hE.k
  have hA : ∀ q : Nat, s.heap.size ≤ q → mt_A g q := fun q h => Nat.le_trans (Nat.le_of_eq hz) h
  have hbA : ¬ mt_A g b := fun h => absurd (Nat.lt_of_lt_of_le hbl (Nat.le_trans (Nat.le_of_eq hz.symm) h)) (Nat.lt_irrefl _)
  have hz2 : g.2.1 ≤ s.heap.size := Nat.le_of_eq hz
  have hS := hi.2.2.2.2.2.2.2.2.2
  have hsm := mt_SF_le (i := i) (by omega)
  refine lv_iload hx hb dXL_law_23 (lv_at hl 0 rfl) ?_
  refine lv_aload_n hx hb dXL_law_25 rfl (lv_at hl 4 rfl) ?_
  refine va_slen hx hb hX hbl hbA hS dXL_law_26 ?_
  refine qa_i (y := (nI L)) rfl ?_
  refine lv_iconst (v := (nI 4)) hx hb dXL_law_27 (by decide +kernel) ?_
  refine lv_isub hx hb dXL_law_28 ?_
  by_cases hi4 : 4 * i + 4 ≤ L
  · refine lv_icmp_gt (tgt := 774) hx hb dXL_law_29 (by decide) (fun z => absurd z (mt_go hL hi4)) (fun _ => ?_)
    refine lv_aload_n hx hb dXL_law_32 rfl (lv_at hl 4 rfl) ?_
    refine lv_iload hx hb dXL_law_33 (lv_at hl 0 rfl) ?_
    refine va_sld hx hb hX hbl hbA hS (vp_in_nI (n := 4 * i) (by omega) (by omega)) dXL_law_35 ?_
    refine qa_i (y := (xs (4 * i))) (by rw [nI_clamp (by omega)]) ?_
    refine lv_bipush (v := (nI 15)) hx hb dXL_law_36 (by decide +kernel) ?_
    refine lv_iand hx hb dXL_law_38 ?_
    obtain ⟨j, hj, ej⟩ := pk_andE (xs (4 * i)) (m := nI 15) 4 (by decide +kernel)
    refine qa_i (y := (nI j)) ej ?_
    have hj16 : j < 16 := hj
    have kk2 : ∀ (cn : Nat) (th : Int32) (fv fb : Nat → Int32) (fo : Nat → Int64) (fr : Nat → Option Nat) (n cap : Nat) (LL : va_W) (LP : List Nat) (nf : Nat → mt_N) (ls : Array Slot) (H : Heap) (locs : List Loc), mt_Inv g s am av ab ao x ar al (i + 1) cn th fv fb fo fr n cap LL LP nf H locs → lv_has ls 8 [(4, .int (nI (4 * i))), (3, .ref ao), (2, .ref am), (1, .ref x), (0, .ref b)] → W p l e room_1 s m #[Value.ref b] below meth c H locs (100 + 60 * (i + 1)) (mt_SF (i + 1)) (lw_Z below #[Value.ref b] s) (F0 m 768 ls []) := by
      intro cn th fv fb fo fr n cap LL LP nf ls H locs hi hl
      refine lv_iinc (k := 0) (v := (nI (4 * (i + 1)))) (lv' := [(4, .int (nI (4 * (i + 1)))), (3, .ref ao), (2, .ref am), (1, .ref x), (0, .ref b)]) hx hb dXL_law_768 hl rfl (nI_add (4 * i) 4) (by decide) rfl (fun ls hl => ?_)
      refine lv_goto (tgt := 23) hx hb dXL_law_771 (by decide) ?_
      have hl := lv_sub (l' := [(4, .int (nI (4 * (i + 1)))), (3, .ref ao), (2, .ref am), (1, .ref x), (0, .ref b)]) hl [0, 1, 2, 3, 4] rfl
      exact kk hi4 cn th fv fb fo fr n cap LL LP nf ls H locs hi hl
    by_cases h11 : j < 11
    · have hc11 : j = 0 ∨ j = 1 ∨ j = 2 ∨ j = 3 ∨ j = 4 ∨ j = 5 ∨ j = 6 ∨ j = 7 ∨ j = 8 ∨ j = 9 ∨ j = 10 := by omega
      rcases hc11 with rfl | rfl | rfl | rfl | rfl | rfl | rfl | rfl | rfl | rfl | rfl
      · exact lv_tableIn (off := 57) (tgt := 96) hx hb dXL_law_39 (by decide +kernel) (by decide +kernel) (by decide +kernel) (by decide) (law_put l hl0 hL C1 g hE hz am av ab ao x ar al i cn th fv fb fo fr n cap LL LP nf ls H locs hi4 hi hl kk2)
      · exact lv_tableIn (off := 137) (tgt := 176) hx hb dXL_law_39 (by decide +kernel) (by decide +kernel) (by decide +kernel) (by decide) (law_remove l hl0 hL C1 g hE hz am av ab ao x ar al i cn th fv fb fo fr n cap LL LP nf ls H locs hi4 hi hl kk2)
      · exact lv_tableIn (off := 205) (tgt := 244) hx hb dXL_law_39 (by decide +kernel) (by decide +kernel) (by decide +kernel) (by decide) (law_join l hl0 hL C1 g hE hz am av ab ao x ar al i cn th fv fb fo fr n cap LL LP nf ls H locs hi4 hi hl kk2)
      · exact lv_tableIn (off := 285) (tgt := 324) hx hb dXL_law_39 (by decide +kernel) (by decide +kernel) (by decide +kernel) (by decide) (law_get l hl0 hL C1 g hE hz am av ab ao x ar al i cn th fv fb fo fr n cap LL LP nf ls H locs hi4 hi hl kk2)
      · exact lv_tableIn (off := 353) (tgt := 392) hx hb dXL_law_39 (by decide +kernel) (by decide +kernel) (by decide +kernel) (by decide) (law_select l hl0 hL C1 g hE hz am av ab ao x ar al i cn th fv fb fo fr n cap LL LP nf ls H locs hi4 hi hl kk2)
      · exact lv_tableIn (off := 421) (tgt := 460) hx hb dXL_law_39 (by decide +kernel) (by decide +kernel) (by decide +kernel) (by decide) (law_many l hl0 hL C1 g hE hz am av ab ao x ar al i cn th fv fb fo fr n cap LL LP nf ls H locs hi4 hi hl kk2)
      · exact lv_tableIn (off := 501) (tgt := 540) hx hb dXL_law_39 (by decide +kernel) (by decide +kernel) (by decide +kernel) (by decide) (law_sum l hl0 hL C1 g hE hz am av ab ao x ar al i cn th fv fb fo fr n cap LL LP nf ls H locs hi4 hi hl kk2)
      · exact lv_tableIn (off := 580) (tgt := 619) hx hb dXL_law_39 (by decide +kernel) (by decide +kernel) (by decide +kernel) (by decide) (law_differ l hl0 hL C1 g hE hz am av ab ao x ar al i cn th fv fb fo fr n cap LL LP nf ls H locs hi4 hi hl kk2)
      · exact lv_tableIn (off := 648) (tgt := 687) hx hb dXL_law_39 (by decide +kernel) (by decide +kernel) (by decide +kernel) (by decide) (law_digest l hl0 hL C1 g hE hz am av ab ao x ar al i cn th fv fb fo fr n cap LL LP nf ls H locs hi4 hi hl kk2)
      · exact lv_tableIn (off := 703) (tgt := 742) hx hb dXL_law_39 (by decide +kernel) (by decide +kernel) (by decide +kernel) (by decide) (law_versions l hl0 hL C1 g hE hz am av ab ao x ar al i cn th fv fb fo fr n cap LL LP nf ls H locs hi4 hi hl kk2)
      · exact lv_tableIn (off := 716) (tgt := 755) hx hb dXL_law_39 (by decide +kernel) (by decide +kernel) (by decide +kernel) (by decide) (law_check l hl0 hL C1 g hE hz am av ab ao x ar al i cn th fv fb fo fr n cap LL LP nf ls H locs hi4 hi hl kk2)
    · refine lv_tableOut (tgt := 768) hx hb dXL_law_39 (Or.inr (by rw [nI_toInt (by omega)]; omega)) (by decide) ?_
      refine W.widen (k := 100 + 60 * (i + 1)) (n := mt_SF (i + 1)) (by omega) (by show mt_SF i ≤ mt_SF i + 36 * i + 300; omega) ?_
      obtain ⟨hcn1, hn9, hrst⟩ := hi
      exact kk2 cn th fv fb fo fr n cap LL LP nf ls H locs ⟨by omega, by omega, hrst⟩ hl
  · refine lv_icmp_gt (tgt := 774) hx hb dXL_law_29 (by decide) (fun _ => ?_) (fun z => absurd (mt_end hL hiL hi4) z)
    refine lv_iconst (v := 1) hx hb dXL_law_774 (by decide +kernel) ?_
    refine va_forget (fun q h => Nat.le_trans (Nat.le_of_eq hz.symm) (hS.2.2 q h)) ?_
    refine W.widen (k := 601024) (n := 7293034) (by omega) (by omega) ?_
    exact lw_ret hx hb hr hlocks dXL_law_775
theorem law_loop {p : Program} {e : Env} {s : State} {m : MethodId} {below : List Frame} {meth : Method} {c : Code} (l : Launch) (hl0 : l.stackTraces = false) {b L : Nat} {xs : Nat → Int32} (hL : L ≤ 2048) (C0 : lw_At p s m meth c b L xs) (g : mt_G) (hE : mt_E g s) (hz : g.2.1 = s.heap.size) (am av ab ao x ar al : Nat) : ∀ (f i : Nat), L ≤ 4 * i + f → 4 * i ≤ L → ∀ (cn : Nat) (th : Int32) (fv fb : Nat → Int32) (fo : Nat → Int64) (fr : Nat → Option Nat) (n cap : Nat) (LL : va_W) (LP : List Nat) (nf : Nat → mt_N) (ls : Array Slot) (H : Heap) (locs : List Loc), mt_Inv g s am av ab ao x ar al i cn th fv fb fo fr n cap LL LP nf H locs → lv_has ls 8 [(4, .int (nI (4 * i))), (3, .ref ao), (2, .ref am), (1, .ref x), (0, .ref b)] → W p l e room_1 s m #[Value.ref b] below meth c H locs (100 + 60 * i) (mt_SF i) (lw_Z below #[Value.ref b] s) (F0 m 23 ls []) := by
  intro f
  induction f with
  | zero => exact fun i h1 h2 cn th fv fb fo fr n cap LL LP nf ls H locs hi hl => law_head l hl0 hL C0 g hE hz am av ab ao x ar al i cn th fv fb fo fr n cap LL LP nf ls H locs h2 hi hl (fun h4 => absurd h4 (by omega))
  | succ f ih => exact fun i h1 h2 cn th fv fb fo fr n cap LL LP nf ls H locs hi hl => law_head l hl0 hL C0 g hE hz am av ab ao x ar al i cn th fv fb fo fr n cap LL LP nf ls H locs h2 hi hl (fun h4 => ih (i + 1) (by omega) (by omega))
