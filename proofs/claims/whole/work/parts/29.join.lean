set_option maxHeartbeats 4000000 in
set_option maxRecDepth 100000 in
/-- join -/
theorem c_join (l : Launch) (hl0 : l.stackTraces = false) (g : mt_G) (c0 c1 c2 c3 : Nat × va_E) (x ar al cn : Nat) (fr : Nat → Option Nat) (n cap : Nat) (LL : va_W) (LP : List Nat) (nf : Nat → mt_N) (hLL : mt_LL g al LP n cap LL) (hlc : mt_lc n cap) (hn5 : n < 4900) (hok : ∀ a, a ∈ LP → mt_ok LP nf a) (tab : Nat → mt_T) (hrep : ∀ j, j < cn → mt_rep LP nf (tab j) 8 0 (fr j)) (hcn : cn ≤ 600) (v w k : Int32) (j i y : Nat) (hj : mt_ver v cn → v = nI j ∧ j < cn) (hi : mt_ver w cn → w = nI i ∧ i < cn) (hy : mt_kb k → k = nI y ∧ y ≤ 256) : vx_Met l yXT_join wsXT_join ({ frames := 24, cells := 4 + 2 * (if y < 256 then mt_na (mt_join (tab j) (tab i) y) y 8 else 0), slots := 24 + (7 * (if y < 256 then mt_na (mt_join (tab j) (tab i) y) y 8 else 0) + mt_gr n cap ((if y < 256 then mt_na (mt_join (tab j) (tab i) y) y 8 else 0))), locals := 800 }) (mt_Pc g (mt_TW g c0 c1 c2 c3 x ar al cn fr (LL ++ va_pl LP (fun a => mt_nE (nf a)))) [.ref x, .int v, .int w, .int k]) (va_Qi (fun r (q : (va_W × List Nat × (Nat → mt_N) × Option Nat)) => (mt_ver v cn ∧ mt_ver w cn ∧ mt_kb k) ∧ cn < 600 ∧ r = nI cn ∧ mt_LL g al q.2.1 (n + (if y < 256 then mt_na (mt_join (tab j) (tab i) y) y 8 else 0)) (mt_cap n cap ((if y < 256 then mt_na (mt_join (tab j) (tab i) y) y 8 else 0))) q.1 ∧ (∀ a, a ∈ LP → a ∈ q.2.1 ∧ q.2.2.1 a = nf a) ∧ (∀ a, a ∈ q.2.1 → mt_ok q.2.1 q.2.2.1 a) ∧ mt_rep q.2.1 q.2.2.1 (mt_join (tab j) (tab i) y) 8 0 q.2.2.2) (fun (q : (va_W × List Nat × (Nat → mt_N) × Option Nat)) t => mt_B g (mt_TW g c0 c1 c2 c3 x ar al (cn + 1) (va_up fr cn q.2.2.2) (q.1 ++ va_pl q.2.1 (fun a => mt_nE (q.2.2.1 a)))) t) (mt_A g)) (vx_X (fun _ : Unit => True) (fun E _ _ => (E = "java/lang/IndexOutOfBoundsException" ∧ ¬ (mt_ver v cn ∧ mt_ver w cn ∧ mt_kb k)) ∨ (E = "java/lang/IllegalStateException" ∧ (mt_ver v cn ∧ mt_ver w cn ∧ mt_kb k) ∧ cn = 600)) (fun _ => False)) (4 + 2 * (if y < 256 then mt_na (mt_join (tab j) (tab i) y) y 8 else 0)) (24 + (7 * (if y < 256 then mt_na (mt_join (tab j) (tab i) y) y 8 else 0) + mt_gr n cap ((if y < 256 then mt_na (mt_join (tab j) (tab i) y) y 8 else 0)))) (mt_A g) := by
  refine vx_ofW (cc := cXT_join) (maxL := 4) (ret := (some .int)) (by decide) rfl ?_
  intro p e s m args below meth c s₁ B hml hnx hv
  obtain ⟨rfl, hE, hz, hP, hD⟩ := hv
  have hx := B.exec
  have hb := B.bytes
  have hr := B.returns
  have hts := atoms_spec (ws := wsXT_join) B.pre
  have hown : s.vm.findClass RXT = some m.cls := findClass_of_methodNamed B.named
  have hlocks := B.notSynchronized
  have hK := hE.k
  have hA : ∀ q : Nat, s.heap.size ≤ q → mt_A g q := fun q h => Nat.le_trans hz h
  have hS : va_S (mt_A g) s.heap s.heap [] := va_S.rf
  have hl := lv_entry ([.ref x, .int v, .int w, .int k]) (n := 4) (Nat.le_of_ble_eq_true rfl)
  rw [lg_entry_eq]
  generalize (lg_sl ([.ref x, .int v, .int w, .int k]) ++ List.replicate (4 - (lg_sl ([.ref x, .int v, .int w, .int k])).length) Slot.unset).toArray = ls at hl ⊢
  have hl : lv_has ls 4 [(0, .ref x), (1, .int v), (2, .int w), (3, .int k)] := hl
  have hH : s.heap = s.heap := rfl
  have hU : mt_same s s.heap := mt_same.rf
  have hp : mt_pool (mt_TW g c0 c1 c2 c3 x ar al cn fr (LL ++ va_pl LP (fun a => mt_nE (nf a)))) LP nf := mt_LW_pool
  have hT : (mt_TW g c0 c1 c2 c3 x ar al cn fr (LL ++ va_pl LP (fun a => mt_nE (nf a))))[4]? = some (x, .inr (1, [.ref ar, .ref al, .int (nI cn)])) := rfl
  generalize hna : (if y < 256 then mt_na (mt_join (tab j) (tab i) y) y 8 else 0) = na
  refine lv_aload_n hx hb dXT_join_0 rfl (lv_at hl 0 rfl) ?_
  refine lv_iload_n hx hb dXT_join_1 rfl (lv_at hl 1 rfl) ?_
  refine vx_callv (vx_runV (As := [.int v]) (rest := []) ⟨hx, hb, hml, hown, hts⟩ (c_needVersion l hl0 g _ 4 5 x ar al cn fr rfl rfl hcn v) (cwV 1 hts (mt_giV mw_116 mw_117 mw_464 mw_1 (mt_gi mw_118)) rfl rfl rfl (by decide +kernel) ⟨Nat.le_of_ble_eq_true rfl, Nat.le_of_ble_eq_true rfl⟩) (mt_preV hE hz hS hP hD (va_recv hK hP (q := (RXT, TXT, 3)) rfl hT)) rfl rfl hl.1 rfl (lv_room (Nat.le_of_ble_eq_true rfl)) dXT_join_2 ⟨by show 0 + 1 ≤ 4 + 2 * na; omega, by show 0 + 6 ≤ 24 + (7 * na + mt_gr n cap na); omega⟩) hS (fun _ _ h => h.elim) (fun _ h => h) (fun _ _ h => h.elim) (fun E ce q9 u t H1 locs1 ht hvm hpx hBX hz1 hk1 hS1 hce hcv hcl => ?_) (fun u t H1 locs1 ht hvm hpo _ hz1 hk1 hS1 => ?_)
  · have hU1 := hU.step hz1 hk1
    subst hBX
    exact vx_out (fun x hx9 => (hnx x hx9).elim) hlocks hce hcv hcl (fun t ht9 _ => ⟨(), trivial, Or.inl ⟨rfl, fun h9 => hpx h9.1⟩, hU1.F ht9⟩) (fun z hz9 => hS1.2.2 z hz9) (by show 0 + 1 ≤ 4 + 2 * na; omega) (by show 0 + 6 ≤ 24 + (7 * na + mt_gr n cap na); omega)
  have hU := hU.step hz1 hk1
  have hP := mt_keepP hk1 hP
  have hS := hS1
  clear hS1
  have hv0 := hpo
  clear hpo
  refine lv_aload_n hx hb dXT_join_5 rfl (lv_at hl 0 rfl) ?_
  refine lv_iload_n hx hb dXT_join_6 rfl (lv_at hl 2 rfl) ?_
  refine vx_callv (vx_runV (As := [.int w]) (rest := []) ⟨hx, hb, hml, hown, hts⟩ (c_needVersion l hl0 g _ 4 5 x ar al cn fr rfl rfl hcn w) (cwV 1 hts (mt_giV mw_116 mw_117 mw_464 mw_1 (mt_gi mw_118)) rfl rfl rfl (by decide +kernel) ⟨Nat.le_of_ble_eq_true rfl, Nat.le_of_ble_eq_true rfl⟩) (mt_preV hE hz hS hP hD (va_recv hK hP (q := (RXT, TXT, 3)) rfl hT)) rfl rfl hl.1 rfl (lv_room (Nat.le_of_ble_eq_true rfl)) dXT_join_7 ⟨by show 1 + 1 ≤ 4 + 2 * na; omega, by show 6 + 6 ≤ 24 + (7 * na + mt_gr n cap na); omega⟩) hS (fun _ _ h => h.elim) (fun _ h => h) (fun _ _ h => h.elim) (fun E ce q9 u t H1 locs1 ht hvm hpx hBX hz1 hk1 hS1 hce hcv hcl => ?_) (fun u t H1 locs1 ht hvm hpo _ hz1 hk1 hS1 => ?_)
  · have hU1 := hU.step hz1 hk1
    subst hBX
    exact vx_out (fun x hx9 => (hnx x hx9).elim) hlocks hce hcv hcl (fun t ht9 _ => ⟨(), trivial, Or.inl ⟨rfl, fun h9 => hpx h9.2.1⟩, hU1.F ht9⟩) (fun z hz9 => hS1.2.2 z hz9) (by show 1 + 1 ≤ 4 + 2 * na; omega) (by show 6 + 6 ≤ 24 + (7 * na + mt_gr n cap na); omega)
  have hU := hU.step hz1 hk1
  have hP := mt_keepP hk1 hP
  have hS := hS1
  clear hS1
  have hw0 := hpo
  clear hpo
  refine lv_iload_n hx hb dXT_join_10 rfl (lv_at hl 3 rfl) ?_
  refine lv_if_lt (tgt := 21) hx hb dXT_join_11 (by decide) (fun hcx1 => ?_) (fun hcx1 => ?_)
  · obtain ⟨sa, hsa⟩ := hE.s _ _ _ (show (RXT, 64, "keys are parted at 0 to 256") ∈ mt_strs by decide +kernel)
    exact vx_throwS (names := ["java/lang/RuntimeException", "java/lang/Exception"]) hx hb hl0 hown (by decide +kernel) (by decide +kernel) (hts _ (List.mem_cons_of_mem _ mw_119)) (hts _ (List.mem_cons_of_mem _ mw_9)) hsa (vx_hat (L := vx_atS RXT 66 "java/lang/IndexOutOfBoundsException" ["java/lang/RuntimeException", "java/lang/Exception"]) (B := [.castable "java/lang/IndexOutOfBoundsException" "java/lang/IndexOutOfBoundsException", .declares ⟨"java/lang/RuntimeException", "<init>", "(Ljava/lang/String;)V"⟩, .declares ⟨"java/lang/Exception", "<init>", "(Ljava/lang/String;)V"⟩, .declares ⟨"java/lang/Throwable", "<init>", "(Ljava/lang/String;)V"⟩]) (fun w hw => hts w (List.mem_cons_of_mem _ (at_66 w hw))) (by decide +kernel) (vx_c (va_Nw.use rfl (hE.w (.castable "java/lang/IndexOutOfBoundsException" "java/lang/IndexOutOfBoundsException") (by decide +kernel))) (vx_c (va_Nw.use rfl (hE.w (.declares ⟨"java/lang/RuntimeException", "<init>", "(Ljava/lang/String;)V"⟩) (by decide +kernel))) (vx_c (va_Nw.use rfl (hE.w (.declares ⟨"java/lang/Exception", "<init>", "(Ljava/lang/String;)V"⟩) (by decide +kernel))) (vx_c (va_Nw.use rfl (hE.w (.declares ⟨"java/lang/Throwable", "<init>", "(Ljava/lang/String;)V"⟩) (by decide +kernel))) (vx_n)))))) (by decide +kernel) hE.u hE.n hS (by rw [hml]; exact hl.1) dXT_join_21 dXT_join_24 dXT_join_25 dXT_join_27 dXT_join_30 (fun x hx9 => (hnx x hx9).elim) (Nat.le_of_ble_eq_true rfl) (Nat.le_of_ble_eq_true rfl) (by show 2 + 1 ≤ 4 + 2 * na; omega) (by show 12 + 6 ≤ 24 + (7 * na + mt_gr n cap na); omega) hlocks (fun t hvm h1 h2 => ⟨(), trivial, Or.inl ⟨rfl, fun h9 => absurd hcx1 (Int32.not_lt.mpr h9.2.2.1)⟩, hU.ext h1 h2⟩) hS.2.2 (by show 2 + 1 ≤ 4 + 2 * na; omega) (by show 12 + 6 ≤ 24 + (7 * na + mt_gr n cap na); omega)
  · refine lv_iload_n hx hb dXT_join_14 rfl (lv_at hl 3 rfl) ?_
    refine lv_sipush (v := (nI 256)) hx hb dXT_join_15 (by decide +kernel) ?_
    refine lv_icmp_le (tgt := 31) hx hb dXT_join_18 (by decide) (fun hcx2 => ?_) (fun hcx2 => ?_)
    · have hkb : mt_kb k := ⟨Int32.not_lt.mp hcx1, hcx2⟩
      refine lv_aload_n hx hb dXT_join_31 rfl (lv_at hl 0 rfl) ?_
      refine vx_callv (vx_runV (As := []) (rest := []) ⟨hx, hb, hml, hown, hts⟩ (c_needRoom l hl0 g _ 4 5 x ar al cn fr rfl rfl hcn) (cwV 0 hts (mt_giV mw_178 mw_179 mw_466 mw_1 (mt_gi mw_180)) rfl rfl rfl (by decide +kernel) ⟨Nat.le_of_ble_eq_true rfl, Nat.le_of_ble_eq_true rfl⟩) (mt_preV hE hz hS hP hD (va_recv hK hP (q := (RXT, TXT, 3)) rfl hT)) rfl rfl hl.1 rfl (lv_room (Nat.le_of_ble_eq_true rfl)) dXT_join_32 ⟨by show 2 + 1 ≤ 4 + 2 * na; omega, by show 12 + 6 ≤ 24 + (7 * na + mt_gr n cap na); omega⟩) hS (fun _ _ h => h.elim) (fun _ h => h) (fun _ _ h => h.elim) (fun E ce q9 u t H1 locs1 ht hvm hpx hBX hz1 hk1 hS1 hce hcv hcl => ?_) (fun u t H1 locs1 ht hvm hpo _ hz1 hk1 hS1 => ?_)
      · have hU1 := hU.step hz1 hk1
        subst hBX
        exact vx_out (fun x hx9 => (hnx x hx9).elim) hlocks hce hcv hcl (fun t ht9 _ => ⟨(), trivial, Or.inr ⟨rfl, ⟨hv0, hw0, hkb⟩, by omega⟩, hU1.F ht9⟩) (fun z hz9 => hS1.2.2 z hz9) (by show 2 + 1 ≤ 4 + 2 * na; omega) (by show 12 + 6 ≤ 24 + (7 * na + mt_gr n cap na); omega)
      have hU := hU.step hz1 hk1
      have hP := mt_keepP hk1 hP
      have hS := hS1
      clear hS1
      obtain ⟨rfl, hj1⟩ := hj hv0
      obtain ⟨rfl, hi1⟩ := hi hw0
      obtain ⟨rfl, hy1⟩ := hy hkb
      refine lv_iload_n hx hb dXT_join_35 rfl (lv_at hl 3 rfl) ?_
      refine lv_sipush (v := (nI 256)) hx hb dXT_join_36 (by decide +kernel) ?_
      by_cases hy256 : y = 256
      · subst hy256
        rw [if_neg (Nat.lt_irrefl 256)] at hna
        subst hna
        refine lv_icmp_ne (tgt := 53) hx hb dXT_join_39 (by decide) (fun z => absurd rfl z) (fun _ => ?_)
        refine lv_aload_n hx hb dXT_join_42 rfl (lv_at hl 0 rfl) ?_
        refine lv_aload_n hx hb dXT_join_43 rfl (lv_at hl 0 rfl) ?_
        refine va_get (D := g.1) (ci := 1) (v := .ref ar) (C := RXT) (T := TXT) (N := 3) hx hb hts (fun w h => List.mem_cons_of_mem _ (in_XT w h)) hown hK hP 4 rfl rfl 0 (by decide) (hts _ (List.mem_cons_of_mem _ mw_53)) (fun _ h9 => h9) rfl dXT_join_44 ?_
        refine lv_iload_n hx hb dXT_join_47 rfl (lv_at hl 1 rfl) ?_
        refine va_aldq (D := g.1) (cl := vwCl) hx hb hK hP 5 1 rfl rfl (vp_in_nI (n := j) (by omega) (by decide)) dXT_join_48 ?_
        refine qa_q (y := fr j) (by rw [nI_clamp (by omega)]) ?_
        refine va_calli (va_runV (As := [va_rf (fr j)]) (rest := []) ⟨hx, hb, hml, hown, hts⟩ (c_keep l g c0 c1 c2 c3 x ar al cn fr _ LP nf (mt_pool_pl LL LP nf) hpo (fr j) (mt_rep_mem (hrep j hj1))) (cwV 1 hts (mt_giV mw_285 mw_286 mw_470 mw_1 (mt_gi mw_287)) rfl rfl rfl (by decide +kernel) ⟨Nat.le_of_ble_eq_true rfl, Nat.le_of_ble_eq_true rfl⟩) (mt_preV hE hz hS hP hD (va_recv hK hP (q := (RXT, TXT, 3)) (q0 := 4) rfl rfl)) rfl rfl hl.1 rfl (lv_room (Nat.le_of_ble_eq_true rfl)) dXT_join_49 ⟨Nat.le_of_ble_eq_true rfl, by show 18 + 0 ≤ 24 + (7 * 0 + 0); omega⟩) hS (fun _ _ h9 => h9) (fun _ h9 => h9) (fun r3 u3 t3 H locs ht3 hvm3 hpo3 hB3 hz3 hk3 hS => ?_)
        subst hpo3
        obtain ⟨hP, hD⟩ := hB3
        rw [ht3] at hP
        refine vx_ret ?_
        refine W.widen (k := 4 + 2 * 0) (n := 24 + (7 * 0 + mt_gr n cap 0)) (by decide) (by show 18 + 0 ≤ 24 + (7 * 0 + 0); omega) ?_
        exact W.iret (v := nI cn) hx hb hr (fun t9 ht hW => ⟨⟨nI cn, (LL, LP, nf, fr j), rfl, ⟨⟨hv0, hw0, hkb⟩, hpo, rfl, hLL, fun _ h9 => ⟨h9, rfl⟩, hok, mt_rep_ext (fun o ho => if_pos (by omega)) (hrep j hj1)⟩, by rw [ht]; exact hP, hD⟩, hS.F ht⟩) hS.2.2 dXT_join_52
      · refine lv_icmp_ne (tgt := 53) hx hb dXT_join_39 (by decide) (fun _ => ?_) (fun z => absurd z (fun e9 => hy256 ((nI_eq (by omega) (by omega)).mp e9)))
        have hy2 : y < 256 := by omega
        rw [if_pos hy2] at hna
        refine lv_aload_n hx hb dXT_join_53 rfl (lv_at hl 0 rfl) ?_
        refine lv_aload_n hx hb dXT_join_54 rfl (lv_at hl 0 rfl) ?_
        refine va_get (D := g.1) (ci := 1) (v := .ref ar) (C := RXT) (T := TXT) (N := 3) hx hb hts (fun w h => List.mem_cons_of_mem _ (in_XT w h)) hown hK hP 4 rfl rfl 0 (by decide) (hts _ (List.mem_cons_of_mem _ mw_53)) (fun _ h9 => h9) rfl dXT_join_55 ?_
        refine lv_iload_n hx hb dXT_join_58 rfl (lv_at hl 1 rfl) ?_
        refine va_aldq (D := g.1) (cl := vwCl) hx hb hK hP 5 1 rfl rfl (vp_in_nI (n := j) (by omega) (by decide)) dXT_join_59 ?_
        refine qa_q (y := fr j) (by rw [nI_clamp (by omega)]) ?_
        refine lv_aload_n hx hb dXT_join_60 rfl (lv_at hl 0 rfl) ?_
        refine va_get (D := g.1) (ci := 1) (v := .ref ar) (C := RXT) (T := TXT) (N := 3) hx hb hts (fun w h => List.mem_cons_of_mem _ (in_XT w h)) hown hK hP 4 rfl rfl 0 (by decide) (hts _ (List.mem_cons_of_mem _ mw_53)) (fun _ h9 => h9) rfl dXT_join_61 ?_
        refine lv_iload_n hx hb dXT_join_64 rfl (lv_at hl 2 rfl) ?_
        refine va_aldq (D := g.1) (cl := vwCl) hx hb hK hP 5 1 rfl rfl (vp_in_nI (n := i) (by omega) (by decide)) dXT_join_65 ?_
        refine qa_q (y := fr i) (by rw [nI_clamp (by omega)]) ?_
        refine lv_bipush (v := (nI 8)) hx hb dXT_join_66 (by decide +kernel) ?_
        refine lv_iload_n hx hb dXT_join_68 rfl (lv_at hl 3 rfl) ?_
        refine lv_aload_n hx hb dXT_join_69 rfl (lv_at hl 0 rfl) ?_
        refine va_get (D := g.1) (ci := 1) (v := .ref ar) (C := RXT) (T := TXT) (N := 3) hx hb hts (fun w h => List.mem_cons_of_mem _ (in_XT w h)) hown hK hP 4 rfl rfl 0 (by decide) (hts _ (List.mem_cons_of_mem _ mw_53)) (fun _ h9 => h9) rfl dXT_join_70 ?_
        refine lv_iload_n hx hb dXT_join_73 rfl (lv_at hl 2 rfl) ?_
        refine va_aldq (D := g.1) (cl := vwCl) hx hb hK hP 5 1 rfl rfl (vp_in_nI (n := i) (by omega) (by decide)) dXT_join_74 ?_
        refine qa_q (y := fr i) (by rw [nI_clamp (by omega)]) ?_
        refine lv_iload_n hx hb dXT_join_75 rfl (lv_at hl 3 rfl) ?_
        refine va_csq (W.runS (As := [va_rf (fr i), .int (nI y)]) (rest := [.int (nI y), .int (nI 8), va_rf (fr i), va_rf (fr j), .ref x]) ⟨hx, hb, hml, hown, hts⟩ (c_leafAt l g _ LP nf hp (tab i) (fr i) (hrep i hi1) hy2) (va_cwS 2 hts (mt_giS mw_296 mw_297 mw_1 (mt_gi mw_298)) rfl rfl rfl (by decide +kernel) ⟨Nat.le_of_ble_eq_true rfl, Nat.le_of_ble_eq_true rfl⟩) (mt_preS hE hz hS hP hD) rfl rfl hl.1 rfl (lv_room (by simp only [List.map_cons, List.map_nil, List.sum_cons, List.sum_nil, qa_cat, qa_ci, qa_cl, qa_cr, qa_cn]; exact Nat.le_of_ble_eq_true rfl)) dXT_join_76 ⟨by show 3 + 0 ≤ 4 + 2 * na; omega, by show 18 + 0 ≤ 24 + (7 * na + mt_gr n cap na); omega⟩) (fun z hz0 => ?_)
        refine lv_aload_n hx hb dXT_join_79 rfl (lv_at hl 0 rfl) ?_
        refine va_get (D := g.1) (ci := 1) (v := .ref al) (C := RXT) (T := TXT) (N := 3) hx hb hts (fun w h => List.mem_cons_of_mem _ (in_XT w h)) hown hK hP 4 rfl rfl 1 (by decide) (hts _ (List.mem_cons_of_mem _ mw_54)) (fun _ h9 => h9) rfl dXT_join_80 ?_
        have hmel := c_meld l g c0 c1 c2 c3 (x, .inr (1, [.ref ar, .ref al, .int (nI cn)])) (ar, .inl (g.2.2.2 1, 600, .inr (.inr (.inr (.inr fr))))) al n cap LL LP nf hLL hlc (by omega) hok y hy2 z (mt_join (tab j) (tab i) y) 8 (Nat.le_refl _) (fr j) (fr i) (tab j) (tab i) (by rw [mt_base8 hy2]; exact hrep j hj1) (by rw [mt_base8 hy2]; exact hrep i hi1) (fun o h8 h9 => if_pos h9) (fun o h8 h9 => if_neg (by omega)) (mt_rep_ext (fun o ho => if_neg (by omega)) hz0)
        rw [hna] at hmel
        refine va_callq (va_runS (As := [va_rf (fr j), va_rf (fr i), .int (nI 8), .int (nI y), va_rf z, .ref al]) (rest := [.ref x]) ⟨hx, hb, hml, hown, hts⟩ hmel (va_cwS 6 hts (mt_giS mw_271 mw_272 mw_1 (mt_gi mw_273)) rfl rfl rfl (by decide +kernel) ⟨Nat.le_of_ble_eq_true rfl, Nat.le_of_ble_eq_true rfl⟩) (mt_preS hE hz hS hP hD) rfl rfl hl.1 rfl (lv_room (Nat.le_of_ble_eq_true rfl)) dXT_join_83 ⟨by show 3 + 2 * na ≤ 4 + 2 * na; omega, by show 18 + (7 * na + mt_gr n cap na) ≤ 24 + (7 * na + mt_gr n cap na); omega⟩) hS (fun _ _ h9 => h9) (fun _ h9 => h9) (fun r1 u1 t1 H locs ht1 hvm1 hpo1 hB1 hz1 hk1 hS => ?_)
        obtain ⟨LL1, LP1, nf1⟩ := u1
        obtain ⟨hLL1, hkp1, hok1, hr1⟩ := hpo1
        obtain ⟨hP, hD⟩ := hB1
        rw [ht1] at hP
        dsimp only at hLL1 hkp1 hok1 hr1 hP hD
        rw [mt_base8 hy2] at hr1
        refine va_calli (va_runV (As := [va_rf r1]) (rest := []) ⟨hx, hb, hml, hown, hts⟩ (c_keep l g c0 c1 c2 c3 x ar al cn fr _ LP1 nf1 (mt_pool_pl LL1 LP1 nf1) hpo r1 (mt_rep_mem hr1)) (cwV 1 hts (mt_giV mw_285 mw_286 mw_470 mw_1 (mt_gi mw_287)) rfl rfl rfl (by decide +kernel) ⟨Nat.le_of_ble_eq_true rfl, Nat.le_of_ble_eq_true rfl⟩) (mt_preV hE hz hS hP hD (va_recv hK hP (q := (RXT, TXT, 3)) (q0 := 4) rfl rfl)) rfl rfl hl.1 rfl (lv_room (Nat.le_of_ble_eq_true rfl)) dXT_join_86 ⟨by show 3 + 2 * na + 0 ≤ 4 + 2 * na; omega, by show 18 + (7 * na + mt_gr n cap na) + 0 ≤ 24 + (7 * na + mt_gr n cap na); omega⟩) hS (fun _ _ h9 => h9) (fun _ h9 => h9) (fun r3 u3 t3 H locs ht3 hvm3 hpo3 hB3 hz3 hk3 hS => ?_)
        subst hpo3
        obtain ⟨hP, hD⟩ := hB3
        rw [ht3] at hP
        refine vx_ret ?_
        refine W.widen (k := 4 + 2 * na) (n := 24 + (7 * na + mt_gr n cap na)) (by omega) (by omega) ?_
        exact W.iret (v := nI cn) hx hb hr (fun t9 ht hW => ⟨⟨nI cn, (LL1, LP1, nf1, r1), rfl, ⟨⟨hv0, hw0, hkb⟩, hpo, rfl, hLL1, hkp1, hok1, hr1⟩, by rw [ht]; exact hP, hD⟩, hS.F ht⟩) hS.2.2 dXT_join_89
    · obtain ⟨sa, hsa⟩ := hE.s _ _ _ (show (RXT, 64, "keys are parted at 0 to 256") ∈ mt_strs by decide +kernel)
      exact vx_throwS (names := ["java/lang/RuntimeException", "java/lang/Exception"]) hx hb hl0 hown (by decide +kernel) (by decide +kernel) (hts _ (List.mem_cons_of_mem _ mw_119)) (hts _ (List.mem_cons_of_mem _ mw_9)) hsa (vx_hat (L := vx_atS RXT 66 "java/lang/IndexOutOfBoundsException" ["java/lang/RuntimeException", "java/lang/Exception"]) (B := [.castable "java/lang/IndexOutOfBoundsException" "java/lang/IndexOutOfBoundsException", .declares ⟨"java/lang/RuntimeException", "<init>", "(Ljava/lang/String;)V"⟩, .declares ⟨"java/lang/Exception", "<init>", "(Ljava/lang/String;)V"⟩, .declares ⟨"java/lang/Throwable", "<init>", "(Ljava/lang/String;)V"⟩]) (fun w hw => hts w (List.mem_cons_of_mem _ (at_66 w hw))) (by decide +kernel) (vx_c (va_Nw.use rfl (hE.w (.castable "java/lang/IndexOutOfBoundsException" "java/lang/IndexOutOfBoundsException") (by decide +kernel))) (vx_c (va_Nw.use rfl (hE.w (.declares ⟨"java/lang/RuntimeException", "<init>", "(Ljava/lang/String;)V"⟩) (by decide +kernel))) (vx_c (va_Nw.use rfl (hE.w (.declares ⟨"java/lang/Exception", "<init>", "(Ljava/lang/String;)V"⟩) (by decide +kernel))) (vx_c (va_Nw.use rfl (hE.w (.declares ⟨"java/lang/Throwable", "<init>", "(Ljava/lang/String;)V"⟩) (by decide +kernel))) (vx_n)))))) (by decide +kernel) hE.u hE.n hS (by rw [hml]; exact hl.1) dXT_join_21 dXT_join_24 dXT_join_25 dXT_join_27 dXT_join_30 (fun x hx9 => (hnx x hx9).elim) (Nat.le_of_ble_eq_true rfl) (Nat.le_of_ble_eq_true rfl) (by show 2 + 1 ≤ 4 + 2 * na; omega) (by show 12 + 6 ≤ 24 + (7 * na + mt_gr n cap na); omega) hlocks (fun t hvm h1 h2 => ⟨(), trivial, Or.inl ⟨rfl, fun h9 => hcx2 h9.2.2.2⟩, hU.ext h1 h2⟩) hS.2.2 (by show 2 + 1 ≤ 4 + 2 * na; omega) (by show 12 + 6 ≤ 24 + (7 * na + mt_gr n cap na); omega)
