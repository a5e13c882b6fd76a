set_option maxHeartbeats 4000000 in
set_option maxRecDepth 100000 in
/-- remove -/
theorem c_remove (l : Launch) (hl0 : l.stackTraces = false) (g : mt_G) (c0 c1 c2 c3 : Nat × va_E) (x ar al cn : Nat) (fr : Nat → Option Nat) (n cap : Nat) (LL : va_W) (LP : List Nat) (nf : Nat → mt_N) (hLL : mt_LL g al LP n cap LL) (hlc : mt_lc n cap) (hn5 : n < 4900) (hok : ∀ a, a ∈ LP → mt_ok LP nf a) (tab : Nat → mt_T) (hrep : ∀ j, j < cn → mt_rep LP nf (tab j) 8 0 (fr j)) (hcn : cn ≤ 600) (v k : Int32) (j i : Nat) (hj : mt_ver v cn → v = nI j ∧ j < cn) (hi : mt_key k → k = nI i ∧ i < 256) : vx_Met l yXT_remove wsXT_remove ({ frames := 24, cells := 4 + 2 * mt_na (mt_rem (tab j) i) i 8, slots := 24 + (7 * mt_na (mt_rem (tab j) i) i 8 + mt_gr n cap (mt_na (mt_rem (tab j) i) i 8)), locals := 800 }) (mt_Pc g (mt_TW g c0 c1 c2 c3 x ar al cn fr (LL ++ va_pl LP (fun a => mt_nE (nf a)))) [.ref x, .int v, .int k]) (va_Qi (fun r (q : (va_W × List Nat × (Nat → mt_N) × Option Nat)) => (mt_ver v cn ∧ mt_key k) ∧ cn < 600 ∧ tab j i ≠ none ∧ r = nI cn ∧ mt_LL g al q.2.1 (n + mt_na (mt_rem (tab j) i) i 8) (mt_cap n cap (mt_na (mt_rem (tab j) i) i 8)) q.1 ∧ (∀ a, a ∈ LP → a ∈ q.2.1 ∧ q.2.2.1 a = nf a) ∧ (∀ a, a ∈ q.2.1 → mt_ok q.2.1 q.2.2.1 a) ∧ mt_rep q.2.1 q.2.2.1 (mt_rem (tab j) i) 8 0 q.2.2.2) (fun (q : (va_W × List Nat × (Nat → mt_N) × Option Nat)) t => mt_B g (mt_TW g c0 c1 c2 c3 x ar al (cn + 1) (va_up fr cn q.2.2.2) (q.1 ++ va_pl q.2.1 (fun a => mt_nE (q.2.2.1 a)))) t) (mt_A g)) (vx_X (fun _ : Unit => True) (fun E _ _ => (E = "java/lang/IndexOutOfBoundsException" ∧ ¬ (mt_ver v cn ∧ mt_key k)) ∨ (E = "java/lang/IllegalStateException" ∧ (mt_ver v cn ∧ mt_key k) ∧ cn = 600) ∨ (E = "java/util/NoSuchElementException" ∧ (mt_ver v cn ∧ mt_key k) ∧ cn < 600 ∧ tab j i = none)) (fun _ => False)) (4 + 2 * mt_na (mt_rem (tab j) i) i 8) (24 + (7 * mt_na (mt_rem (tab j) i) i 8 + mt_gr n cap (mt_na (mt_rem (tab j) i) i 8))) (mt_A g) := by
  refine vx_ofW (cc := cXT_remove) (maxL := 3) (ret := (some .int)) (by decide) rfl ?_
  intro p e s m args below meth c s₁ B hml hnx hv
  obtain ⟨rfl, hE, hz, hP, hD⟩ := hv
  have hx := B.exec
  have hb := B.bytes
  have hr := B.returns
  have hts := atoms_spec (ws := wsXT_remove) B.pre
  have hown : s.vm.findClass RXT = some m.cls := findClass_of_methodNamed B.named
  have hlocks := B.notSynchronized
  have hK := hE.k
  have hA : ∀ q : Nat, s.heap.size ≤ q → mt_A g q := fun q h => Nat.le_trans hz h
  have hS : va_S (mt_A g) s.heap s.heap [] := va_S.rf
  have hl := lv_entry ([.ref x, .int v, .int k]) (n := 3) (Nat.le_of_ble_eq_true rfl)
  rw [lg_entry_eq]
  generalize (lg_sl ([.ref x, .int v, .int k]) ++ List.replicate (3 - (lg_sl ([.ref x, .int v, .int k])).length) Slot.unset).toArray = ls at hl ⊢
  have hl : lv_has ls 3 [(0, .ref x), (1, .int v), (2, .int k)] := hl
  have hH : s.heap = s.heap := rfl
  have hU : mt_same s s.heap := mt_same.rf
  have hp : mt_pool (mt_TW g c0 c1 c2 c3 x ar al cn fr (LL ++ va_pl LP (fun a => mt_nE (nf a)))) LP nf := mt_LW_pool
  have hT : (mt_TW g c0 c1 c2 c3 x ar al cn fr (LL ++ va_pl LP (fun a => mt_nE (nf a))))[4]? = some (x, .inr (1, [.ref ar, .ref al, .int (nI cn)])) := rfl
  generalize hna : mt_na (mt_rem (tab j) i) i 8 = na
  refine lv_aload_n hx hb dXT_remove_0 rfl (lv_at hl 0 rfl) ?_
  refine lv_iload_n hx hb dXT_remove_1 rfl (lv_at hl 1 rfl) ?_
  refine vx_callv (vx_runV (As := [.int v]) (rest := []) ⟨hx, hb, hml, hown, hts⟩ (c_needVersion l hl0 g _ 4 5 x ar al cn fr rfl rfl hcn v) (cwV 1 hts (mt_giV mw_116 mw_117 mw_464 mw_1 (mt_gi mw_118)) rfl rfl rfl (by decide +kernel) ⟨Nat.le_of_ble_eq_true rfl, Nat.le_of_ble_eq_true rfl⟩) (mt_preV hE hz hS hP hD (va_recv hK hP (q := (RXT, TXT, 3)) rfl hT)) rfl rfl hl.1 rfl (lv_room (Nat.le_of_ble_eq_true rfl)) dXT_remove_2 ⟨by show 0 + 1 ≤ 4 + 2 * na; omega, by show 0 + 6 ≤ 24 + (7 * na + mt_gr n cap na); omega⟩) hS (fun _ _ h => h.elim) (fun _ h => h) (fun _ _ h => h.elim) (fun E ce q9 u t H1 locs1 ht hvm hpx hBX hz1 hk1 hS1 hce hcv hcl => ?_) (fun u t H1 locs1 ht hvm hpo _ hz1 hk1 hS1 => ?_)
  · have hU1 := hU.step hz1 hk1
    subst hBX
    exact vx_out (fun x hx9 => (hnx x hx9).elim) hlocks hce hcv hcl (fun t ht9 _ => ⟨(), trivial, Or.inl ⟨rfl, fun h9 => hpx h9.1⟩, hU1.F ht9⟩) (fun z hz9 => hS1.2.2 z hz9) (by show 0 + 1 ≤ 4 + 2 * na; omega) (by show 0 + 6 ≤ 24 + (7 * na + mt_gr n cap na); omega)
  have hU := hU.step hz1 hk1
  have hP := mt_keepP hk1 hP
  have hS := hS1
  clear hS1
  have hv0 := hpo
  clear hpo
  refine lv_iload_n hx hb dXT_remove_5 rfl (lv_at hl 2 rfl) ?_
  refine vx_callv (vx_runS (As := [.int k]) (rest := []) ⟨hx, hb, hml, hown, hts⟩ (c_needKey l hl0 g _ k) (va_cwS 1 hts (mt_giS mw_175 mw_176 mw_1 (mt_gi mw_177)) rfl rfl rfl (by decide +kernel) ⟨Nat.le_of_ble_eq_true rfl, Nat.le_of_ble_eq_true rfl⟩) (mt_preS hE hz hS hP hD) rfl rfl hl.1 rfl (lv_room (Nat.le_of_ble_eq_true rfl)) dXT_remove_6 ⟨by show 1 + 1 ≤ 4 + 2 * na; omega, by show 6 + 6 ≤ 24 + (7 * na + mt_gr n cap na); omega⟩) hS (fun _ _ h => h.elim) (fun _ h => h) (fun _ _ h => h.elim) (fun E ce q9 u t H1 locs1 ht hvm hpx hBX hz1 hk1 hS1 hce hcv hcl => ?_) (fun u t H1 locs1 ht hvm hpo _ hz1 hk1 hS1 => ?_)
  · have hU1 := hU.step hz1 hk1
    subst hBX
    exact vx_out (fun x hx9 => (hnx x hx9).elim) hlocks hce hcv hcl (fun t ht9 _ => ⟨(), trivial, Or.inl ⟨rfl, fun h9 => hpx h9.2⟩, hU1.F ht9⟩) (fun z hz9 => hS1.2.2 z hz9) (by show 1 + 1 ≤ 4 + 2 * na; omega) (by show 6 + 6 ≤ 24 + (7 * na + mt_gr n cap na); omega)
  have hU := hU.step hz1 hk1
  have hP := mt_keepP hk1 hP
  have hS := hS1
  clear hS1
  have hk0 := hpo
  clear hpo
  refine lv_aload_n hx hb dXT_remove_9 rfl (lv_at hl 0 rfl) ?_
  refine vx_callv (vx_runV (As := []) (rest := []) ⟨hx, hb, hml, hown, hts⟩ (c_needRoom l hl0 g _ 4 5 x ar al cn fr rfl rfl hcn) (cwV 0 hts (mt_giV mw_178 mw_179 mw_466 mw_1 (mt_gi mw_180)) rfl rfl rfl (by decide +kernel) ⟨Nat.le_of_ble_eq_true rfl, Nat.le_of_ble_eq_true rfl⟩) (mt_preV hE hz hS hP hD (va_recv hK hP (q := (RXT, TXT, 3)) rfl hT)) rfl rfl hl.1 rfl (lv_room (Nat.le_of_ble_eq_true rfl)) dXT_remove_10 ⟨by show 2 + 1 ≤ 4 + 2 * na; omega, by show 12 + 6 ≤ 24 + (7 * na + mt_gr n cap na); omega⟩) hS (fun _ _ h => h.elim) (fun _ h => h) (fun _ _ h => h.elim) (fun E ce q9 u t H1 locs1 ht hvm hpx hBX hz1 hk1 hS1 hce hcv hcl => ?_) (fun u t H1 locs1 ht hvm hpo _ hz1 hk1 hS1 => ?_)
  · have hU1 := hU.step hz1 hk1
    subst hBX
    exact vx_out (fun x hx9 => (hnx x hx9).elim) hlocks hce hcv hcl (fun t ht9 _ => ⟨(), trivial, Or.inr (Or.inl ⟨rfl, ⟨hv0, hk0⟩, by omega⟩), hU1.F ht9⟩) (fun z hz9 => hS1.2.2 z hz9) (by show 2 + 1 ≤ 4 + 2 * na; omega) (by show 12 + 6 ≤ 24 + (7 * na + mt_gr n cap na); omega)
  have hU := hU.step hz1 hk1
  have hP := mt_keepP hk1 hP
  have hS := hS1
  clear hS1
  obtain ⟨rfl, hj1⟩ := hj hv0
  obtain ⟨rfl, hi1⟩ := hi hk0
  refine lv_aload_n hx hb dXT_remove_13 rfl (lv_at hl 0 rfl) ?_
  refine va_get (D := g.1) (ci := 1) (v := .ref ar) (C := RXT) (T := TXT) (N := 3) hx hb hts (fun w h => List.mem_cons_of_mem _ (in_XT w h)) hown hK hP 4 rfl rfl 0 (by decide) (hts _ (List.mem_cons_of_mem _ mw_53)) (fun _ h9 => h9) rfl dXT_remove_14 ?_
  refine lv_iload_n hx hb dXT_remove_17 rfl (lv_at hl 1 rfl) ?_
  refine va_aldq (D := g.1) (cl := vwCl) hx hb hK hP 5 1 rfl rfl (vp_in_nI (n := j) (by omega) (by decide)) dXT_remove_18 ?_
  refine qa_q (y := fr j) (by rw [nI_clamp (by omega)]) ?_
  refine lv_iload_n hx hb dXT_remove_19 rfl (lv_at hl 2 rfl) ?_
  refine va_csq (W.runS (As := [va_rf (fr j), .int (nI i)]) (rest := []) ⟨hx, hb, hml, hown, hts⟩ (c_leafAt l g _ LP nf hp (tab j) (fr j) (hrep j hj1) hi1) (va_cwS 2 hts (mt_giS mw_296 mw_297 mw_1 (mt_gi mw_298)) rfl rfl rfl (by decide +kernel) ⟨Nat.le_of_ble_eq_true rfl, Nat.le_of_ble_eq_true rfl⟩) (mt_preS hE hz hS hP hD) rfl rfl hl.1 rfl (lv_room (Nat.le_of_ble_eq_true rfl)) dXT_remove_20 ⟨by show 3 + 0 ≤ 4 + 2 * na; omega, by show 18 + 0 ≤ 24 + (7 * na + mt_gr n cap na); omega⟩) (fun z hz0 => ?_)
  refine qa_ifnonnull (tgt := 36) hx hb dXT_remove_23 (by decide) (fun av c9 => ?_) (fun c9 => ?_)
  · subst c9
    have hsm : tab j i ≠ none := by obtain ⟨-, x1, ht1, -⟩ := hz0; rw [ht1]; intro z9; cases z9
    refine lv_aload_n hx hb dXT_remove_36 rfl (lv_at hl 0 rfl) ?_
    refine lv_aload_n hx hb dXT_remove_37 rfl (lv_at hl 0 rfl) ?_
    refine va_get (D := g.1) (ci := 1) (v := .ref ar) (C := RXT) (T := TXT) (N := 3) hx hb hts (fun w h => List.mem_cons_of_mem _ (in_XT w h)) hown hK hP 4 rfl rfl 0 (by decide) (hts _ (List.mem_cons_of_mem _ mw_53)) (fun _ h9 => h9) rfl dXT_remove_38 ?_
    refine lv_iload_n hx hb dXT_remove_41 rfl (lv_at hl 1 rfl) ?_
    refine va_aldq (D := g.1) (cl := vwCl) hx hb hK hP 5 1 rfl rfl (vp_in_nI (n := j) (by omega) (by decide)) dXT_remove_42 ?_
    refine qa_q (y := fr j) (by rw [nI_clamp (by omega)]) ?_
    refine lv_aload_n hx hb dXT_remove_43 rfl (lv_at hl 0 rfl) ?_
    refine va_get (D := g.1) (ci := 1) (v := .ref ar) (C := RXT) (T := TXT) (N := 3) hx hb hts (fun w h => List.mem_cons_of_mem _ (in_XT w h)) hown hK hP 4 rfl rfl 0 (by decide) (hts _ (List.mem_cons_of_mem _ mw_53)) (fun _ h9 => h9) rfl dXT_remove_44 ?_
    refine lv_iload_n hx hb dXT_remove_47 rfl (lv_at hl 1 rfl) ?_
    refine va_aldq (D := g.1) (cl := vwCl) hx hb hK hP 5 1 rfl rfl (vp_in_nI (n := j) (by omega) (by decide)) dXT_remove_48 ?_
    refine qa_q (y := fr j) (by rw [nI_clamp (by omega)]) ?_
    refine lv_bipush (v := (nI 8)) hx hb dXT_remove_49 (by decide +kernel) ?_
    refine lv_iload_n hx hb dXT_remove_51 rfl (lv_at hl 2 rfl) ?_
    refine lv_null hx hb dXT_remove_52 ?_
    refine lv_aload_n hx hb dXT_remove_53 rfl (lv_at hl 0 rfl) ?_
    refine va_get (D := g.1) (ci := 1) (v := .ref al) (C := RXT) (T := TXT) (N := 3) hx hb hts (fun w h => List.mem_cons_of_mem _ (in_XT w h)) hown hK hP 4 rfl rfl 1 (by decide) (hts _ (List.mem_cons_of_mem _ mw_54)) (fun _ h9 => h9) rfl dXT_remove_54 ?_
    have hmel := c_meld l g c0 c1 c2 c3 (x, .inr (1, [.ref ar, .ref al, .int (nI cn)])) (ar, .inl (g.2.2.2 1, 600, .inr (.inr (.inr (.inr fr))))) al n cap LL LP nf hLL hlc (by omega) hok i hi1 none (mt_rem (tab j) i) 8 (Nat.le_refl _) (fr j) (fr j) (tab j) (tab j) (by rw [mt_base8 hi1]; exact hrep j hj1) (by rw [mt_base8 hi1]; exact hrep j hj1) (fun o h8 h9 => if_neg (by omega)) (fun o h8 h9 => if_neg (by omega)) (if_pos rfl)
    rw [hna] at hmel
    refine va_callq (va_runS (As := [va_rf (fr j), va_rf (fr j), .int (nI 8), .int (nI i), .null, .ref al]) (rest := [.ref x]) ⟨hx, hb, hml, hown, hts⟩ hmel (va_cwS 6 hts (mt_giS mw_271 mw_272 mw_1 (mt_gi mw_273)) rfl rfl rfl (by decide +kernel) ⟨Nat.le_of_ble_eq_true rfl, Nat.le_of_ble_eq_true rfl⟩) (mt_preS hE hz hS hP hD) rfl rfl hl.1 rfl (lv_room (Nat.le_of_ble_eq_true rfl)) dXT_remove_57 ⟨by show 3 + 2 * na ≤ 4 + 2 * na; omega, by show 18 + (7 * na + mt_gr n cap na) ≤ 24 + (7 * na + mt_gr n cap na); omega⟩) hS (fun _ _ h9 => h9) (fun _ h9 => h9) (fun r1 u1 t1 H locs ht1 hvm1 hpo1 hB1 hz1 hk1 hS => ?_)
    obtain ⟨LL1, LP1, nf1⟩ := u1
    obtain ⟨hLL1, hkp1, hok1, hr1⟩ := hpo1
    obtain ⟨hP, hD⟩ := hB1
    rw [ht1] at hP
    dsimp only at hLL1 hkp1 hok1 hr1 hP hD
    rw [mt_base8 hi1] at hr1
    refine va_calli (va_runV (As := [va_rf r1]) (rest := []) ⟨hx, hb, hml, hown, hts⟩ (c_keep l g c0 c1 c2 c3 x ar al cn fr _ LP1 nf1 (mt_pool_pl LL1 LP1 nf1) hpo r1 (mt_rep_mem hr1)) (cwV 1 hts (mt_giV mw_285 mw_286 mw_470 mw_1 (mt_gi mw_287)) rfl rfl rfl (by decide +kernel) ⟨Nat.le_of_ble_eq_true rfl, Nat.le_of_ble_eq_true rfl⟩) (mt_preV hE hz hS hP hD (va_recv hK hP (q := (RXT, TXT, 3)) (q0 := 4) rfl rfl)) rfl rfl hl.1 rfl (lv_room (Nat.le_of_ble_eq_true rfl)) dXT_remove_60 ⟨by show 3 + 2 * na + 0 ≤ 4 + 2 * na; omega, by show 18 + (7 * na + mt_gr n cap na) + 0 ≤ 24 + (7 * na + mt_gr n cap na); omega⟩) hS (fun _ _ h9 => h9) (fun _ h9 => h9) (fun r3 u3 t3 H locs ht3 hvm3 hpo3 hB3 hz3 hk3 hS => ?_)
    subst hpo3
    obtain ⟨hP, hD⟩ := hB3
    rw [ht3] at hP
    refine vx_ret ?_
    refine W.widen (k := 4 + 2 * na) (n := 24 + (7 * na + mt_gr n cap na)) (by omega) (by omega) ?_
    exact W.iret (v := nI cn) hx hb hr (fun t9 ht hW => ⟨⟨nI cn, (LL1, LP1, nf1, r1), rfl, ⟨⟨hv0, hk0⟩, hpo, hsm, rfl, hLL1, hkp1, hok1, hr1⟩, by rw [ht]; exact hP, hD⟩, hS.F ht⟩) hS.2.2 dXT_remove_63
  · obtain ⟨sa, hsa⟩ := hE.s _ _ _ (show (RXT, 57, "the version has not this key") ∈ mt_strs by decide +kernel)
    exact nx_throwS (Yc := "java/lang/RuntimeException") (names := ["java/lang/Exception"]) hx hb hl0 hown (by decide +kernel) (by decide +kernel) (by decide +kernel) nx_b0 nx_b1 nx_b2 nx_b5 (hts _ (List.mem_cons_of_mem _ mw_299)) (hts _ (List.mem_cons_of_mem _ mw_16)) hsa (vx_hat (L := (nx_all RXT 59 "java/util/NoSuchElementException" "java/lang/RuntimeException" 13 prog_22_method_4_code ["java/lang/Exception"]).filter vx_no) (B := [.castable "java/util/NoSuchElementException" "java/util/NoSuchElementException", .declares ⟨"java/lang/RuntimeException", "<init>", "(Ljava/lang/String;)V"⟩, .declares ⟨"java/lang/Exception", "<init>", "(Ljava/lang/String;)V"⟩, .declares ⟨"java/lang/Throwable", "<init>", "(Ljava/lang/String;)V"⟩]) (fun w hw => hts w (List.mem_cons_of_mem _ (nx_at w hw))) (by decide +kernel) (vx_c (va_Nw.use rfl (hE.w (.castable "java/util/NoSuchElementException" "java/util/NoSuchElementException") (by decide +kernel))) (vx_c (va_Nw.use rfl (hE.w (.declares ⟨"java/lang/RuntimeException", "<init>", "(Ljava/lang/String;)V"⟩) (by decide +kernel))) (vx_c (va_Nw.use rfl (hE.w (.declares ⟨"java/lang/Exception", "<init>", "(Ljava/lang/String;)V"⟩) (by decide +kernel))) (vx_c (va_Nw.use rfl (hE.w (.declares ⟨"java/lang/Throwable", "<init>", "(Ljava/lang/String;)V"⟩) (by decide +kernel))) (vx_n)))))) (by decide +kernel) hE.u hE.n hS (by rw [hml]; exact hl.1) dXT_remove_26 dXT_remove_29 dXT_remove_30 dXT_remove_32 dXT_remove_35 (fun x hx9 => (hnx x hx9).elim) (Nat.le_of_ble_eq_true rfl) (Nat.le_of_ble_eq_true rfl) (by show 3 + 1 ≤ 4 + 2 * na; omega) (by show 18 + 6 ≤ 24 + (7 * na + mt_gr n cap na); omega) hlocks (fun t hvm h1 h2 => ⟨(), trivial, Or.inr (Or.inr ⟨rfl, ⟨hv0, hk0⟩, hpo, by rw [c9] at hz0; exact hz0⟩), hU.ext h1 h2⟩) hS.2.2 (by show 3 + 1 ≤ 4 + 2 * na; omega) (by show 18 + 6 ≤ 24 + (7 * na + mt_gr n cap na); omega)
