set_option maxHeartbeats 4000000 in
set_option maxRecDepth 100000 in
/-- put -/
theorem c_put (l : Launch) (hl0 : l.stackTraces = false) (g : mt_G) (c0 c1 c2 c3 : Nat × va_E) (x ar al cn : Nat) (fr : Nat → Option Nat) (n cap : Nat) (LL : va_W) (LP : List Nat) (nf : Nat → mt_N) (hLL : mt_LL g al LP n cap LL) (hlc : mt_lc n cap) (hn5 : n < 4900) (hok : ∀ a, a ∈ LP → mt_ok LP nf a) (tab : Nat → mt_T) (hrep : ∀ j, j < cn → mt_rep LP nf (tab j) 8 0 (fr j)) (hcn : cn ≤ 600) (v k xv : Int32) (j i : Nat) (hj : mt_ver v cn → v = nI j ∧ j < cn) (hi : mt_key k → k = nI i ∧ i < 256) : vx_Met l yXT_put wsXT_put ({ frames := 24, cells := 5 + 2 * mt_na (mt_put (tab j) i xv) i 8, slots := 25 + mt_gr1 n cap + (7 * mt_na (mt_put (tab j) i xv) i 8 + mt_gr (n + 1) (mt_cap1 n cap) (mt_na (mt_put (tab j) i xv) i 8)), locals := 800 }) (mt_Pc g (mt_TW g c0 c1 c2 c3 x ar al cn fr (LL ++ va_pl LP (fun a => mt_nE (nf a)))) [.ref x, .int v, .int k, .int xv]) (va_Qi (fun r (q : (va_W × List Nat × (Nat → mt_N) × Option Nat)) => (mt_ver v cn ∧ mt_key k) ∧ cn < 600 ∧ r = nI cn ∧ mt_LL g al q.2.1 ((n + 1) + mt_na (mt_put (tab j) i xv) i 8) (mt_cap (n + 1) (mt_cap1 n cap) (mt_na (mt_put (tab j) i xv) i 8)) q.1 ∧ (∀ a, a ∈ LP → a ∈ q.2.1 ∧ q.2.2.1 a = nf a) ∧ (∀ a, a ∈ q.2.1 → mt_ok q.2.1 q.2.2.1 a) ∧ mt_rep q.2.1 q.2.2.1 (mt_put (tab j) i xv) 8 0 q.2.2.2) (fun (q : (va_W × List Nat × (Nat → mt_N) × Option Nat)) t => mt_B g (mt_TW g c0 c1 c2 c3 x ar al (cn + 1) (va_up fr cn q.2.2.2) (q.1 ++ va_pl q.2.1 (fun a => mt_nE (q.2.2.1 a)))) t) (mt_A g)) (vx_X (fun _ : Unit => True) (fun E _ _ => (E = "java/lang/IndexOutOfBoundsException" ∧ ¬ (mt_ver v cn ∧ mt_key k)) ∨ (E = "java/lang/IllegalStateException" ∧ (mt_ver v cn ∧ mt_key k) ∧ cn = 600)) (fun _ => False)) (5 + 2 * mt_na (mt_put (tab j) i xv) i 8) (25 + mt_gr1 n cap + (7 * mt_na (mt_put (tab j) i xv) i 8 + mt_gr (n + 1) (mt_cap1 n cap) (mt_na (mt_put (tab j) i xv) i 8))) (mt_A g) := by
  refine vx_ofW (cc := cXT_put) (maxL := 5) (ret := (some .int)) (by decide) rfl ?_
  intro p e s m args below meth c s₁ B hml hnx hv
  obtain ⟨rfl, hE, hz, hP, hD⟩ := hv
  have hx := B.exec
  have hb := B.bytes
  have hr := B.returns
  have hts := atoms_spec (ws := wsXT_put) B.pre
  have hown : s.vm.findClass RXT = some m.cls := findClass_of_methodNamed B.named
  have hlocks := B.notSynchronized
  have hK := hE.k
  have hA : ∀ q : Nat, s.heap.size ≤ q → mt_A g q := fun q h => Nat.le_trans hz h
  have hS : va_S (mt_A g) s.heap s.heap [] := va_S.rf
  have hl := lv_entry ([.ref x, .int v, .int k, .int xv]) (n := 5) (Nat.le_of_ble_eq_true rfl)
  rw [lg_entry_eq]
  generalize (lg_sl ([.ref x, .int v, .int k, .int xv]) ++ List.replicate (5 - (lg_sl ([.ref x, .int v, .int k, .int xv])).length) Slot.unset).toArray = ls at hl ⊢
  have hl : lv_has ls 5 [(0, .ref x), (1, .int v), (2, .int k), (3, .int xv)] := hl
  have hH : s.heap = s.heap := rfl
  have hU : mt_same s s.heap := mt_same.rf
  have hp : mt_pool (mt_TW g c0 c1 c2 c3 x ar al cn fr (LL ++ va_pl LP (fun a => mt_nE (nf a)))) LP nf := mt_LW_pool
  have hT : (mt_TW g c0 c1 c2 c3 x ar al cn fr (LL ++ va_pl LP (fun a => mt_nE (nf a))))[4]? = some (x, .inr (1, [.ref ar, .ref al, .int (nI cn)])) := rfl
  generalize hna : mt_na (mt_put (tab j) i xv) i 8 = na
  refine lv_aload_n hx hb dXT_put_0 rfl (lv_at hl 0 rfl) ?_
  refine lv_iload_n hx hb dXT_put_1 rfl (lv_at hl 1 rfl) ?_
  refine vx_callv (vx_runV (As := [.int v]) (rest := []) ⟨hx, hb, hml, hown, hts⟩ (c_needVersion l hl0 g _ 4 5 x ar al cn fr rfl rfl hcn v) (cwV 1 hts (mt_giV mw_116 mw_117 mw_464 mw_1 (mt_gi mw_118)) rfl rfl rfl (by decide +kernel) ⟨Nat.le_of_ble_eq_true rfl, Nat.le_of_ble_eq_true rfl⟩) (mt_preV hE hz hS hP hD (va_recv hK hP (q := (RXT, TXT, 3)) rfl hT)) rfl rfl hl.1 rfl (lv_room (Nat.le_of_ble_eq_true rfl)) dXT_put_2 ⟨by show 0 + 1 ≤ 5 + 2 * na; omega, by show 0 + 6 ≤ 25 + mt_gr1 n cap + (7 * na + mt_gr (n + 1) (mt_cap1 n cap) na); omega⟩) hS (fun _ _ h => h.elim) (fun _ h => h) (fun _ _ h => h.elim) (fun E ce q9 u t H1 locs1 ht hvm hpx hBX hz1 hk1 hS1 hce hcv hcl => ?_) (fun u t H1 locs1 ht hvm hpo _ hz1 hk1 hS1 => ?_)
  · have hU1 := hU.step hz1 hk1
    subst hBX
    exact vx_out (fun x hx9 => (hnx x hx9).elim) hlocks hce hcv hcl (fun t ht9 _ => ⟨(), trivial, Or.inl ⟨rfl, fun h9 => hpx h9.1⟩, hU1.F ht9⟩) (fun z hz9 => hS1.2.2 z hz9) (by show 0 + 1 ≤ 5 + 2 * na; omega) (by show 0 + 6 ≤ 25 + mt_gr1 n cap + (7 * na + mt_gr (n + 1) (mt_cap1 n cap) na); omega)
  have hU := hU.step hz1 hk1
  have hP := mt_keepP hk1 hP
  have hS := hS1
  clear hS1
  have hv0 := hpo
  clear hpo
  refine lv_iload_n hx hb dXT_put_5 rfl (lv_at hl 2 rfl) ?_
  refine vx_callv (vx_runS (As := [.int k]) (rest := []) ⟨hx, hb, hml, hown, hts⟩ (c_needKey l hl0 g _ k) (va_cwS 1 hts (mt_giS mw_175 mw_176 mw_1 (mt_gi mw_177)) rfl rfl rfl (by decide +kernel) ⟨Nat.le_of_ble_eq_true rfl, Nat.le_of_ble_eq_true rfl⟩) (mt_preS hE hz hS hP hD) rfl rfl hl.1 rfl (lv_room (Nat.le_of_ble_eq_true rfl)) dXT_put_6 ⟨by show 1 + 1 ≤ 5 + 2 * na; omega, by show 6 + 6 ≤ 25 + mt_gr1 n cap + (7 * na + mt_gr (n + 1) (mt_cap1 n cap) na); omega⟩) hS (fun _ _ h => h.elim) (fun _ h => h) (fun _ _ h => h.elim) (fun E ce q9 u t H1 locs1 ht hvm hpx hBX hz1 hk1 hS1 hce hcv hcl => ?_) (fun u t H1 locs1 ht hvm hpo _ hz1 hk1 hS1 => ?_)
  · have hU1 := hU.step hz1 hk1
    subst hBX
    exact vx_out (fun x hx9 => (hnx x hx9).elim) hlocks hce hcv hcl (fun t ht9 _ => ⟨(), trivial, Or.inl ⟨rfl, fun h9 => hpx h9.2⟩, hU1.F ht9⟩) (fun z hz9 => hS1.2.2 z hz9) (by show 1 + 1 ≤ 5 + 2 * na; omega) (by show 6 + 6 ≤ 25 + mt_gr1 n cap + (7 * na + mt_gr (n + 1) (mt_cap1 n cap) na); omega)
  have hU := hU.step hz1 hk1
  have hP := mt_keepP hk1 hP
  have hS := hS1
  clear hS1
  have hk0 := hpo
  clear hpo
  refine lv_aload_n hx hb dXT_put_9 rfl (lv_at hl 0 rfl) ?_
  refine vx_callv (vx_runV (As := []) (rest := []) ⟨hx, hb, hml, hown, hts⟩ (c_needRoom l hl0 g _ 4 5 x ar al cn fr rfl rfl hcn) (cwV 0 hts (mt_giV mw_178 mw_179 mw_466 mw_1 (mt_gi mw_180)) rfl rfl rfl (by decide +kernel) ⟨Nat.le_of_ble_eq_true rfl, Nat.le_of_ble_eq_true rfl⟩) (mt_preV hE hz hS hP hD (va_recv hK hP (q := (RXT, TXT, 3)) rfl hT)) rfl rfl hl.1 rfl (lv_room (Nat.le_of_ble_eq_true rfl)) dXT_put_10 ⟨by show 2 + 1 ≤ 5 + 2 * na; omega, by show 12 + 6 ≤ 25 + mt_gr1 n cap + (7 * na + mt_gr (n + 1) (mt_cap1 n cap) na); omega⟩) hS (fun _ _ h => h.elim) (fun _ h => h) (fun _ _ h => h.elim) (fun E ce q9 u t H1 locs1 ht hvm hpx hBX hz1 hk1 hS1 hce hcv hcl => ?_) (fun u t H1 locs1 ht hvm hpo _ hz1 hk1 hS1 => ?_)
  · have hU1 := hU.step hz1 hk1
    subst hBX
    exact vx_out (fun x hx9 => (hnx x hx9).elim) hlocks hce hcv hcl (fun t ht9 _ => ⟨(), trivial, Or.inr ⟨rfl, ⟨hv0, hk0⟩, by omega⟩, hU1.F ht9⟩) (fun z hz9 => hS1.2.2 z hz9) (by show 2 + 1 ≤ 5 + 2 * na; omega) (by show 12 + 6 ≤ 25 + mt_gr1 n cap + (7 * na + mt_gr (n + 1) (mt_cap1 n cap) na); omega)
  have hU := hU.step hz1 hk1
  have hP := mt_keepP hk1 hP
  have hS := hS1
  clear hS1
  obtain ⟨rfl, hj1⟩ := hj hv0
  obtain ⟨rfl, hi1⟩ := hi hk0
  refine va_new (ci := 0) (fs := [.int 0, .int 0, .null, .null, .int 0, .int 0, .long 0]) (C := RXN) (T := TXN) (N := 7) hx hb hts (fun w h => List.mem_cons_of_mem _ (in_XN w h)) tyXN tyXN_ok hown (hts _ (List.mem_cons_of_mem _ mw_27)) (hts _ (List.mem_cons_of_mem _ mw_195)) (hts _ (List.mem_cons_of_mem _ mw_11)) hK hP hD hS hA rfl (fun j hj => by rcases (show j = 0 ∨ j = 1 ∨ j = 2 ∨ j = 3 ∨ j = 4 ∨ j = 5 ∨ j = 6 by omega) with rfl | rfl | rfl | rfl | rfl | rfl | rfl <;> rfl) (by show 3 + 1 ≤ 5 + 2 * na; omega) (by show 18 + 7 ≤ 25 + mt_gr1 n cap + (7 * na + mt_gr (n + 1) (mt_cap1 n cap) na); omega) dXT_put_13 (fun q H hP hD hS => ?_)
  refine lv_dup hx hb dXT_put_16 rfl ?_
  refine lv_iload_n hx hb dXT_put_17 rfl (lv_at hl 2 rfl) ?_
  refine lv_iload_n hx hb dXT_put_18 rfl (lv_at hl 3 rfl) ?_
  refine va_callv (va_runIN (As := [.int (nI i), .int xv]) (rest := [.ref q]) ⟨hx, hb, hml, hown, hts⟩ (c_leaf l g _ q (nI i) xv) ⟨va_cnB 2 hts (mt_gi mw_197) rfl rfl rfl (hE.w (.methodLinkNest RXT 36 yXN_init "MeldTree") (by decide +kernel)) (hts _ (List.mem_cons_of_mem _ mw_11)) (by decide +kernel) ⟨Nat.le_of_ble_eq_true rfl, Nat.le_of_ble_eq_true rfl⟩, rfl, hts _ (List.mem_cons_of_mem _ mw_196)⟩ (mt_preS hE hz hS hP hD) rfl rfl hl.1 rfl (lv_room (Nat.le_of_ble_eq_true rfl)) dXT_put_19 ⟨by show 3 + 1 + 0 ≤ 5 + 2 * na; omega, by show 18 + 7 + 0 ≤ 25 + mt_gr1 n cap + (7 * na + mt_gr (n + 1) (mt_cap1 n cap) na); omega⟩) hS (fun _ _ h9 => h9) (fun _ h9 => h9) (fun u2 t2 H locs ht2 hvm2 _ hB2 hz2 hk2 hS => ?_)
  obtain ⟨hP, hD⟩ := hB2
  rw [ht2] at hP
  obtain ⟨hP, hD, hq1⟩ := mt_LW_push (c4 := (x, .inr (1, [.ref ar, .ref al, .int (nI cn)]))) (c5 := (ar, .inl (g.2.2.2 1, 600, .inr (.inr (.inr (.inr fr)))))) hP hD
  obtain ⟨hkp, hok1, hlf⟩ := mt_push_leaf (t := mt_put (tab j) i xv) (k := i) (x := xv) hq1 hok (if_pos rfl)
  generalize hnf1 : va_up nf q (0, nI i, none, none, xv, 1, xv.toInt64) = nf1 at hP hD hkp hok1 hlf
  refine lv_astore (i := 4) (lv' := [(4, .ref q), (0, .ref x), (1, .int (nI j)), (2, .int (nI i)), (3, .int xv)]) hx hb dXT_put_22 hl (by decide) rfl (fun ls hl => ?_)
  refine lv_aload_n hx hb dXT_put_24 rfl (lv_at hl 1 rfl) ?_
  refine va_get (D := g.1) (ci := 1) (v := .ref al) (C := RXT) (T := TXT) (N := 3) hx hb hts (fun w h => List.mem_cons_of_mem _ (in_XT w h)) hown hK hP 4 rfl rfl 1 (by decide) (hts _ (List.mem_cons_of_mem _ mw_54)) (fun _ h9 => h9) rfl dXT_put_25 ?_
  refine lv_aload hx hb dXT_put_28 (lv_at hl 0 rfl) ?_
  have hLL1 := mt_LL_more (L2 := LP ++ [q]) (fun a h9 => List.mem_append_left _ h9) hLL
  have hrcv := mt_LL_recv hLL1 hK hP
  refine va_calli (va_runV (As := [.ref q]) (rest := []) ⟨hx, hb, hml, hown, hts⟩ (c_add l g c0 c1 c2 c3 (x, .inr (1, [.ref ar, .ref al, .int (nI cn)])) (ar, .inl (g.2.2.2 1, 600, .inr (.inr (.inr (.inr fr))))) al n cap LL (LP ++ [q]) nf1 hLL1 hlc (by omega) q (by simp)) (cwV 1 hts (mt_giV mw_221 mw_222 mw_223 mw_4 (mt_gi mw_224)) rfl rfl rfl (by decide +kernel) ⟨Nat.le_of_ble_eq_true rfl, Nat.le_of_ble_eq_true rfl⟩) (mt_preV hE hz hS hP hD hrcv) rfl rfl hl.1 rfl (lv_room (Nat.le_of_ble_eq_true rfl)) dXT_put_30 ⟨by show 3 + 1 + 0 + 1 ≤ 5 + 2 * na; omega, by show 18 + 7 + 0 + mt_gr1 n cap ≤ 25 + mt_gr1 n cap + (7 * na + mt_gr (n + 1) (mt_cap1 n cap) na); omega⟩) hS (fun _ _ h9 => h9) (fun _ h9 => h9) (fun r3 LL3 t3 H locs ht3 hvm3 hpo3 hB3 hz3 hk3 hS => ?_)
  obtain ⟨rfl, hLL3⟩ := hpo3
  obtain ⟨hP, hD⟩ := hB3
  rw [ht3] at hP
  obtain ⟨hlc1, -, -⟩ := mt_lc1 hlc
  have hpP : mt_pool (mt_TW g c0 c1 c2 c3 x ar al cn fr (LL3 ++ va_pl (LP ++ [q]) (fun a => mt_nE (nf1 a)))) (LP ++ [q]) nf1 := mt_LW_pool
  refine lv_pop hx hb dXT_put_33 rfl ?_
  refine lv_aload_n hx hb dXT_put_34 rfl (lv_at hl 1 rfl) ?_
  refine lv_aload_n hx hb dXT_put_35 rfl (lv_at hl 1 rfl) ?_
  refine va_get (D := g.1) (ci := 1) (v := .ref ar) (C := RXT) (T := TXT) (N := 3) hx hb hts (fun w h => List.mem_cons_of_mem _ (in_XT w h)) hown hK hP 4 rfl rfl 0 (by decide) (hts _ (List.mem_cons_of_mem _ mw_53)) (fun _ h9 => h9) rfl dXT_put_36 ?_
  refine lv_iload_n hx hb dXT_put_39 rfl (lv_at hl 2 rfl) ?_
  refine va_aldq (D := g.1) (cl := vwCl) hx hb hK hP 5 1 rfl rfl (vp_in_nI (n := j) (by omega) (by decide)) dXT_put_40 ?_
  refine qa_q (y := fr j) (by rw [nI_clamp (by omega)]) ?_
  refine lv_aload_n hx hb dXT_put_41 rfl (lv_at hl 1 rfl) ?_
  refine va_get (D := g.1) (ci := 1) (v := .ref ar) (C := RXT) (T := TXT) (N := 3) hx hb hts (fun w h => List.mem_cons_of_mem _ (in_XT w h)) hown hK hP 4 rfl rfl 0 (by decide) (hts _ (List.mem_cons_of_mem _ mw_53)) (fun _ h9 => h9) rfl dXT_put_42 ?_
  refine lv_iload_n hx hb dXT_put_45 rfl (lv_at hl 2 rfl) ?_
  refine va_aldq (D := g.1) (cl := vwCl) hx hb hK hP 5 1 rfl rfl (vp_in_nI (n := j) (by omega) (by decide)) dXT_put_46 ?_
  refine qa_q (y := fr j) (by rw [nI_clamp (by omega)]) ?_
  refine lv_bipush (v := (nI 8)) hx hb dXT_put_47 (by decide +kernel) ?_
  refine lv_iload_n hx hb dXT_put_49 rfl (lv_at hl 3 rfl) ?_
  refine lv_aload hx hb dXT_put_50 (lv_at hl 0 rfl) ?_
  refine lv_aload_n hx hb dXT_put_52 rfl (lv_at hl 1 rfl) ?_
  refine va_get (D := g.1) (ci := 1) (v := .ref al) (C := RXT) (T := TXT) (N := 3) hx hb hts (fun w h => List.mem_cons_of_mem _ (in_XT w h)) hown hK hP 4 rfl rfl 1 (by decide) (hts _ (List.mem_cons_of_mem _ mw_54)) (fun _ h9 => h9) rfl dXT_put_53 ?_
  have hmel := c_meld l g c0 c1 c2 c3 (x, .inr (1, [.ref ar, .ref al, .int (nI cn)])) (ar, .inl (g.2.2.2 1, 600, .inr (.inr (.inr (.inr fr))))) al (n + 1) (mt_cap1 n cap) LL3 (LP ++ [q]) nf1 hLL3 hlc1 (by omega) hok1 i hi1 (some q) (mt_put (tab j) i xv) 8 (Nat.le_refl _) (fr j) (fr j) (tab j) (tab j) (by rw [mt_base8 hi1]; exact mt_rep_keep hkp (hrep j hj1)) (by rw [mt_base8 hi1]; exact mt_rep_keep hkp (hrep j hj1)) (fun o h8 h9 => if_neg (by omega)) (fun o h8 h9 => if_neg (by omega)) hlf
  rw [hna] at hmel
  refine va_callq (va_runS (As := [va_rf (fr j), va_rf (fr j), .int (nI 8), .int (nI i), .ref q, .ref al]) (rest := [.ref x]) ⟨hx, hb, hml, hown, hts⟩ hmel (va_cwS 6 hts (mt_giS mw_271 mw_272 mw_1 (mt_gi mw_273)) rfl rfl rfl (by decide +kernel) ⟨Nat.le_of_ble_eq_true rfl, Nat.le_of_ble_eq_true rfl⟩) (mt_preS hE hz hS hP hD) rfl rfl hl.1 rfl (lv_room (Nat.le_of_ble_eq_true rfl)) dXT_put_56 ⟨by show 3 + 1 + 0 + 1 + 2 * na ≤ 5 + 2 * na; omega, by show 18 + 7 + 0 + mt_gr1 n cap + (7 * na + mt_gr (n + 1) (mt_cap1 n cap) na) ≤ 25 + mt_gr1 n cap + (7 * na + mt_gr (n + 1) (mt_cap1 n cap) na); omega⟩) hS (fun _ _ h9 => h9) (fun _ h9 => h9) (fun r1 u1 t1 H locs ht1 hvm1 hpo1 hB1 hz1 hk1 hS => ?_)
  obtain ⟨LL1, LP1, nf1'⟩ := u1
  obtain ⟨hLL1, hkp1, hok1, hr1⟩ := hpo1
  obtain ⟨hP, hD⟩ := hB1
  rw [ht1] at hP
  dsimp only at hLL1 hkp1 hok1 hr1 hP hD
  rw [mt_base8 hi1] at hr1
  refine va_calli (va_runV (As := [va_rf r1]) (rest := []) ⟨hx, hb, hml, hown, hts⟩ (c_keep l g c0 c1 c2 c3 x ar al cn fr _ LP1 nf1' (mt_pool_pl LL1 LP1 nf1') hpo r1 (mt_rep_mem hr1)) (cwV 1 hts (mt_giV mw_285 mw_286 mw_470 mw_1 (mt_gi mw_287)) rfl rfl rfl (by decide +kernel) ⟨Nat.le_of_ble_eq_true rfl, Nat.le_of_ble_eq_true rfl⟩) (mt_preV hE hz hS hP hD (va_recv hK hP (q := (RXT, TXT, 3)) (q0 := 4) rfl rfl)) rfl rfl hl.1 rfl (lv_room (Nat.le_of_ble_eq_true rfl)) dXT_put_59 ⟨by show 3 + 1 + 0 + 1 + 2 * na + 0 ≤ 5 + 2 * na; omega, by show 18 + 7 + 0 + mt_gr1 n cap + (7 * na + mt_gr (n + 1) (mt_cap1 n cap) na) + 0 ≤ 25 + mt_gr1 n cap + (7 * na + mt_gr (n + 1) (mt_cap1 n cap) na); omega⟩) hS (fun _ _ h9 => h9) (fun _ h9 => h9) (fun r3 u3 t3 H locs ht3 hvm3 hpo3 hB3 hz3 hk3 hS => ?_)
  subst hpo3
  obtain ⟨hP, hD⟩ := hB3
  rw [ht3] at hP
  refine vx_ret ?_
  refine W.widen (k := 5 + 2 * na) (n := 25 + mt_gr1 n cap + (7 * na + mt_gr (n + 1) (mt_cap1 n cap) na)) (by omega) (by omega) ?_
  exact W.iret (v := nI cn) hx hb hr (fun t9 ht hW => ⟨⟨nI cn, (LL1, LP1, nf1', r1), rfl, ⟨⟨hv0, hk0⟩, hpo, rfl, hLL1, fun a h9 => ⟨(hkp1 a (hkp a h9).1).1, (hkp1 a (hkp a h9).1).2.trans (hkp a h9).2⟩, hok1, hr1⟩, by rw [ht]; exact hP, hD⟩, hS.F ht⟩) hS.2.2 dXT_put_62
