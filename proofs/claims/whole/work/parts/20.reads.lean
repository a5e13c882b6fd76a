set_option maxHeartbeats 4000000 in
set_option maxRecDepth 100000 in
/-- get(v, k) -/
theorem c_get (l : Launch) (hl0 : l.stackTraces = false) (g : mt_G) (ws : va_W) (qT qR x ar al cn : Nat) (fr : Nat → Option Nat) (hT : ws[qT]? = some (x, .inr (1, [.ref ar, .ref al, .int (nI cn)]))) (hR : ws[qR]? = some (ar, .inl (g.2.2.2 1, 600, .inr (.inr (.inr (.inr fr)))))) (hcn : cn ≤ 600) (LP : List Nat) (nf : Nat → mt_N) (hp : mt_pool ws LP nf) (tab : Nat → mt_T) (hrep : ∀ j, j < cn → mt_rep LP nf (tab j) 8 0 (fr j)) (v k : Int32) : vx_Met l yXT_get wsXT_get ({ frames := 12, cells := 3, slots := 18, locals := 400 }) (mt_Pc g ws [.ref x, .int v, .int k]) (va_Qi (fun r (_ : Unit) => ∃ j i, j < cn ∧ i < 256 ∧ v = nI j ∧ k = nI i ∧ tab j i = some r) (fun _ _ => True) (fun _ => False)) (vx_X (fun _ : Unit => True) (fun E _ _ => (E = "java/lang/IndexOutOfBoundsException" ∧ ¬ (mt_ver v cn ∧ mt_key k)) ∨ (E = "java/util/NoSuchElementException" ∧ ∃ j i, j < cn ∧ i < 256 ∧ v = nI j ∧ k = nI i ∧ tab j i = none)) (fun _ => False)) (3) (18) (mt_A g) := by
  refine vx_ofW (cc := cXT_get) (maxL := 4) (ret := (some .int)) (by decide) rfl ?_
  intro p e s m args below meth c s₁ B hml hnx hv
  obtain ⟨rfl, hE, hz, hP, hD⟩ := hv
  have hx := B.exec
  have hb := B.bytes
  have hr := B.returns
  have hts := atoms_spec (ws := wsXT_get) B.pre
  have hown : s.vm.findClass RXT = some m.cls := findClass_of_methodNamed B.named
  have hlocks := B.notSynchronized
  have hK := hE.k
  have hA : ∀ q : Nat, s.heap.size ≤ q → mt_A g q := fun q h => Nat.le_trans hz h
  have hS : va_S (mt_A g) s.heap s.heap [] := va_S.rf
  have hl := lv_entry ([.ref x, .int v, .int k]) (n := 4) (Nat.le_of_ble_eq_true rfl)
  rw [lg_entry_eq]
  generalize (lg_sl ([.ref x, .int v, .int k]) ++ List.replicate (4 - (lg_sl ([.ref x, .int v, .int k])).length) Slot.unset).toArray = ls at hl ⊢
  have hl : lv_has ls 4 [(0, .ref x), (1, .int v), (2, .int k)] := hl
  have hH : s.heap = s.heap := rfl
  have hU : mt_same s s.heap := mt_same.rf
  refine lv_aload_n hx hb dXT_get_0 rfl (lv_at hl 0 rfl) ?_
  refine lv_iload_n hx hb dXT_get_1 rfl (lv_at hl 1 rfl) ?_
  refine vx_callv (vx_runV (As := [.int v]) (rest := []) ⟨hx, hb, hml, hown, hts⟩ (c_needVersion l hl0 g ws qT qR x ar al cn fr hT hR hcn v) (cwV 1 hts (mt_giV mw_116 mw_117 mw_464 mw_1 (mt_gi mw_118)) rfl rfl rfl (by decide +kernel) ⟨Nat.le_of_ble_eq_true rfl, Nat.le_of_ble_eq_true rfl⟩) (mt_preV hE hz hS hP hD (va_recv hK hP (q := (RXT, TXT, 3)) rfl hT)) rfl rfl hl.1 rfl (lv_room (Nat.le_of_ble_eq_true rfl)) dXT_get_2 ⟨by decide, by decide⟩) hS (fun _ _ h => h.elim) (fun _ h => h) (fun _ _ h => h.elim) (fun E ce q9 u t H1 locs1 ht hvm hpx hBX hz1 hk1 hS1 hce hcv hcl => ?_) (fun u t H1 locs1 ht hvm hpo _ hz1 hk1 hS1 => ?_)
  · have hU1 := hU.step hz1 hk1
    subst hBX
    exact vx_out (fun x hx9 => (hnx x hx9).elim) hlocks hce hcv hcl (fun t ht9 _ => ⟨(), trivial, Or.inl ⟨rfl, fun h9 => hpx h9.1⟩, hU1.F ht9⟩) (fun z hz9 => hS1.2.2 z hz9) (by decide) (by decide)
  have hU := hU.step hz1 hk1
  have hP := mt_keepP hk1 hP
  have hS := hS1
  clear hS1
  have hv0 := hpo
  clear hpo
  refine lv_iload_n hx hb dXT_get_5 rfl (lv_at hl 2 rfl) ?_
  refine vx_callv (vx_runS (As := [.int k]) (rest := []) ⟨hx, hb, hml, hown, hts⟩ (c_needKey l hl0 g ws k) (va_cwS 1 hts (mt_giS mw_175 mw_176 mw_1 (mt_gi mw_177)) rfl rfl rfl (by decide +kernel) ⟨Nat.le_of_ble_eq_true rfl, Nat.le_of_ble_eq_true rfl⟩) (mt_preS hE hz hS hP hD) rfl rfl hl.1 rfl (lv_room (Nat.le_of_ble_eq_true rfl)) dXT_get_6 ⟨by decide, by decide⟩) hS (fun _ _ h => h.elim) (fun _ h => h) (fun _ _ h => h.elim) (fun E ce q9 u t H1 locs1 ht hvm hpx hBX hz1 hk1 hS1 hce hcv hcl => ?_) (fun u t H1 locs1 ht hvm hpo _ hz1 hk1 hS1 => ?_)
  · have hU1 := hU.step hz1 hk1
    subst hBX
    exact vx_out (fun x hx9 => (hnx x hx9).elim) hlocks hce hcv hcl (fun t ht9 _ => ⟨(), trivial, Or.inl ⟨rfl, fun h9 => hpx h9.2⟩, hU1.F ht9⟩) (fun z hz9 => hS1.2.2 z hz9) (by decide) (by decide)
  have hU := hU.step hz1 hk1
  have hP := mt_keepP hk1 hP
  have hS := hS1
  clear hS1
  obtain ⟨j, hj, rfl⟩ := mt_ver_nat hcn hv0
  obtain ⟨i, hi, rfl⟩ := mt_key_nat hpo
  refine lv_aload_n hx hb dXT_get_9 rfl (lv_at hl 0 rfl) ?_
  refine va_get (D := g.1) (ci := 1) (v := .ref ar) (C := RXT) (T := TXT) (N := 3) hx hb hts (fun w h => List.mem_cons_of_mem _ (in_XT w h)) hown hK hP qT hT rfl 0 (by decide) (hts _ (List.mem_cons_of_mem _ mw_53)) (fun _ h9 => h9) rfl dXT_get_10 ?_
  refine lv_iload_n hx hb dXT_get_13 rfl (lv_at hl 1 rfl) ?_
  refine va_aldq (D := g.1) (cl := vwCl) hx hb hK hP qR 1 hR rfl (vp_in_nI (n := j) (by omega) (by decide)) dXT_get_14 ?_
  refine qa_q (y := fr j) (by rw [nI_clamp (by omega)]) ?_
  refine lv_iload_n hx hb dXT_get_15 rfl (lv_at hl 2 rfl) ?_
  refine va_csq (W.runS (As := [va_rf (fr j), .int (nI i)]) (rest := []) ⟨hx, hb, hml, hown, hts⟩ (c_leafAt l g ws LP nf hp (tab j) (fr j) (hrep j hj) hi) (va_cwS 2 hts (mt_giS mw_296 mw_297 mw_1 (mt_gi mw_298)) rfl rfl rfl (by decide +kernel) ⟨by decide, by decide⟩) (mt_preS hE hz hS hP hD) rfl rfl hl.1 rfl (lv_room (Nat.le_of_ble_eq_true rfl)) dXT_get_16 ⟨by decide, by decide⟩) (fun z hz0 => ?_)
  refine qa_astore_n (i := 3) (lv' := [(3, va_rf z), (0, .ref x), (1, .int (nI j)), (2, .int (nI i))]) hx hb dXT_get_19 rfl hl (by decide) (by simp [List.filter, qa_cat, qa_ci, qa_cl, qa_cr, qa_cn]) (fun ls hl => ?_)
  refine qa_aload_n hx hb dXT_get_20 rfl (lv_at hl 0 rfl) ?_
  refine qa_ifnonnull (tgt := 34) hx hb dXT_get_21 (by decide) (fun av c1 => ?_) (fun c1 => ?_)
  · subst c1
    obtain ⟨hm, x1, ht1, hx1⟩ := hz0
    obtain ⟨kv, hkv⟩ := hp av hm
    have hl : lv_has ls 4 [(3, .ref av), (0, .ref x), (1, .int (nI j)), (2, .int (nI i))] := hl
    refine lv_aload_n hx hb dXT_get_34 rfl (lv_at hl 0 rfl) ?_
    refine va_getN (D := g.1) (ci := 0) (v := .int ((nf av).2.2.2.2.1)) (C := RXN) (T := TXN) (N := 7) hx hb hts (fun w h => List.mem_cons_of_mem _ (in_XN w h)) hown hK hP kv hkv rfl 4 (by decide) (va_Nw.use rfl (hE.w (.fieldLinkNest "MeldTree" 67 "MeldTree$Node" "value" "I" "MeldTree") (by decide +kernel))) (fun _ h9 => h9) rfl dXT_get_35 ?_
    refine vx_ret ?_
    refine W.widen (k := 3) (n := 18) (by decide) (by decide) ?_
    exact W.iret (v := (nf av).2.2.2.2.1) hx hb hr (fun t9 ht hW => ⟨⟨(nf av).2.2.2.2.1, (), rfl, ⟨j, i, hj, hi, rfl, rfl, by rw [hx1]; exact ht1⟩, trivial⟩, hU.F ht⟩) hS.2.2 dXT_get_38
  · obtain ⟨sa, hsa⟩ := hE.s _ _ _ (show (RXT, 57, "the version has not this key") ∈ mt_strs by decide +kernel)
    exact nx_throwS (Yc := "java/lang/RuntimeException") (names := ["java/lang/Exception"]) hx hb hl0 hown (by decide +kernel) (by decide +kernel) (by decide +kernel) nx_b0 nx_b1 nx_b2 nx_b5 (hts _ (List.mem_cons_of_mem _ mw_299)) (hts _ (List.mem_cons_of_mem _ mw_16)) hsa (vx_hat (L := (nx_all RXT 59 "java/util/NoSuchElementException" "java/lang/RuntimeException" 13 prog_22_method_4_code ["java/lang/Exception"]).filter vx_no) (B := [.castable "java/util/NoSuchElementException" "java/util/NoSuchElementException", .declares ⟨"java/lang/RuntimeException", "<init>", "(Ljava/lang/String;)V"⟩, .declares ⟨"java/lang/Exception", "<init>", "(Ljava/lang/String;)V"⟩, .declares ⟨"java/lang/Throwable", "<init>", "(Ljava/lang/String;)V"⟩]) (fun w hw => hts w (List.mem_cons_of_mem _ (nx_at w hw))) (by decide +kernel) (vx_c (va_Nw.use rfl (hE.w (.castable "java/util/NoSuchElementException" "java/util/NoSuchElementException") (by decide +kernel))) (vx_c (va_Nw.use rfl (hE.w (.declares ⟨"java/lang/RuntimeException", "<init>", "(Ljava/lang/String;)V"⟩) (by decide +kernel))) (vx_c (va_Nw.use rfl (hE.w (.declares ⟨"java/lang/Exception", "<init>", "(Ljava/lang/String;)V"⟩) (by decide +kernel))) (vx_c (va_Nw.use rfl (hE.w (.declares ⟨"java/lang/Throwable", "<init>", "(Ljava/lang/String;)V"⟩) (by decide +kernel))) (vx_n)))))) (by decide +kernel) hE.u hE.n hS (by rw [hml]; exact hl.1) dXT_get_24 dXT_get_27 dXT_get_28 dXT_get_30 dXT_get_33 (fun x hx9 => (hnx x hx9).elim) (by decide) (by decide) (by decide) (by decide) hlocks (fun t hvm h1 h2 => ⟨(), trivial, Or.inr ⟨rfl, j, i, hj, hi, rfl, rfl, by rw [c1] at hz0; exact hz0⟩, hU.ext h1 h2⟩) hS.2.2 (by decide) (by decide)
set_option maxHeartbeats 4000000 in
set_option maxRecDepth 100000 in
/-- select(v, i) -/
theorem c_select (l : Launch) (hl0 : l.stackTraces = false) (g : mt_G) (ws : va_W) (qT qR x ar al cn : Nat) (fr : Nat → Option Nat) (hT : ws[qT]? = some (x, .inr (1, [.ref ar, .ref al, .int (nI cn)]))) (hR : ws[qR]? = some (ar, .inl (g.2.2.2 1, 600, .inr (.inr (.inr (.inr fr)))))) (hcn : cn ≤ 600) (LP : List Nat) (nf : Nat → mt_N) (hp : mt_pool ws LP nf) (tab : Nat → mt_T) (hrep : ∀ j, j < cn → mt_rep LP nf (tab j) 8 0 (fr j)) (v i : Int32) : vx_Met l yXT_select wsXT_select ({ frames := 12, cells := 2, slots := 12, locals := 400 }) (mt_Pc g ws [.ref x, .int v, .int i]) (va_Qi (fun r (_ : Unit) => ∃ j n k, j < cn ∧ v = nI j ∧ i = nI n ∧ n < 256 ∧ k < 256 ∧ r = nI k ∧ tab j k ≠ none ∧ mt_c (tab j) 0 k = n) (fun _ _ => True) (fun _ => False)) (vx_X (fun _ : Unit => True) (fun E _ _ => E = "java/lang/IndexOutOfBoundsException" ∧ ¬ (∃ j, j < cn ∧ v = nI j ∧ 0 ≤ i ∧ i < nI (mt_c (tab j) 0 256))) (fun _ => False)) (2) (12) (mt_A g) := by
  refine vx_ofW (cc := cXT_select) (maxL := 3) (ret := (some .int)) (by decide) rfl ?_
  intro p e s m args below meth c s₁ B hml hnx hv
  obtain ⟨rfl, hE, hz, hP, hD⟩ := hv
  have hx := B.exec
  have hb := B.bytes
  have hr := B.returns
  have hts := atoms_spec (ws := wsXT_select) B.pre
  have hown : s.vm.findClass RXT = some m.cls := findClass_of_methodNamed B.named
  have hlocks := B.notSynchronized
  have hK := hE.k
  have hA : ∀ q : Nat, s.heap.size ≤ q → mt_A g q := fun q h => Nat.le_trans hz h
  have hS : va_S (mt_A g) s.heap s.heap [] := va_S.rf
  have hl := lv_entry ([.ref x, .int v, .int i]) (n := 3) (Nat.le_of_ble_eq_true rfl)
  rw [lg_entry_eq]
  generalize (lg_sl ([.ref x, .int v, .int i]) ++ List.replicate (3 - (lg_sl ([.ref x, .int v, .int i])).length) Slot.unset).toArray = ls at hl ⊢
  have hl : lv_has ls 3 [(0, .ref x), (1, .int v), (2, .int i)] := hl
  have hH : s.heap = s.heap := rfl
  have hU : mt_same s s.heap := mt_same.rf
  refine lv_aload_n hx hb dXT_select_0 rfl (lv_at hl 0 rfl) ?_
  refine lv_iload_n hx hb dXT_select_1 rfl (lv_at hl 1 rfl) ?_
  refine vx_callv (vx_runV (As := [.int v]) (rest := []) ⟨hx, hb, hml, hown, hts⟩ (c_needVersion l hl0 g ws qT qR x ar al cn fr hT hR hcn v) (cwV 1 hts (mt_giV mw_116 mw_117 mw_464 mw_1 (mt_gi mw_118)) rfl rfl rfl (by decide +kernel) ⟨Nat.le_of_ble_eq_true rfl, Nat.le_of_ble_eq_true rfl⟩) (mt_preV hE hz hS hP hD (va_recv hK hP (q := (RXT, TXT, 3)) rfl hT)) rfl rfl hl.1 rfl (lv_room (Nat.le_of_ble_eq_true rfl)) dXT_select_2 ⟨by decide, by decide⟩) hS (fun _ _ h => h.elim) (fun _ h => h) (fun _ _ h => h.elim) (fun E ce q9 u t H1 locs1 ht hvm hpx hBX hz1 hk1 hS1 hce hcv hcl => ?_) (fun u t H1 locs1 ht hvm hpo _ hz1 hk1 hS1 => ?_)
  · have hU1 := hU.step hz1 hk1
    subst hBX
    exact vx_out (fun x hx9 => (hnx x hx9).elim) hlocks hce hcv hcl (fun t ht9 _ => ⟨(), trivial, ⟨rfl, fun ⟨j, hj, e9, _⟩ => hpx (mt_ver_of hcn hj e9)⟩, hU1.F ht9⟩) (fun z hz9 => hS1.2.2 z hz9) (by decide) (by decide)
  have hU := hU.step hz1 hk1
  have hP := mt_keepP hk1 hP
  have hS := hS1
  clear hS1
  obtain ⟨j, hj, rfl⟩ := mt_ver_nat hcn hpo
  have hone : ∀ j2, j2 < cn → nI j = nI j2 → j = j2 := fun j2 h9 e9 => (nI_eq (by omega) (by omega)).mp e9
  refine lv_iload_n hx hb dXT_select_5 rfl (lv_at hl 2 rfl) ?_
  refine lv_if_lt (tgt := 22) hx hb dXT_select_6 (by decide) (fun c1 => ?_) (fun c1 => ?_)
  · obtain ⟨sa, hsa⟩ := hE.s _ _ _ (show (RXT, 73, "the version has not so many keys") ∈ mt_strs by decide +kernel)
    exact vx_throwS (names := ["java/lang/RuntimeException", "java/lang/Exception"]) hx hb hl0 hown (by decide +kernel) (by decide +kernel) (hts _ (List.mem_cons_of_mem _ mw_119)) (hts _ (List.mem_cons_of_mem _ mw_9)) hsa (vx_hat (L := vx_atS RXT 66 "java/lang/IndexOutOfBoundsException" ["java/lang/RuntimeException", "java/lang/Exception"]) (B := [.castable "java/lang/IndexOutOfBoundsException" "java/lang/IndexOutOfBoundsException", .declares ⟨"java/lang/RuntimeException", "<init>", "(Ljava/lang/String;)V"⟩, .declares ⟨"java/lang/Exception", "<init>", "(Ljava/lang/String;)V"⟩, .declares ⟨"java/lang/Throwable", "<init>", "(Ljava/lang/String;)V"⟩]) (fun w hw => hts w (List.mem_cons_of_mem _ (at_66 w hw))) (by decide +kernel) (vx_c (va_Nw.use rfl (hE.w (.castable "java/lang/IndexOutOfBoundsException" "java/lang/IndexOutOfBoundsException") (by decide +kernel))) (vx_c (va_Nw.use rfl (hE.w (.declares ⟨"java/lang/RuntimeException", "<init>", "(Ljava/lang/String;)V"⟩) (by decide +kernel))) (vx_c (va_Nw.use rfl (hE.w (.declares ⟨"java/lang/Exception", "<init>", "(Ljava/lang/String;)V"⟩) (by decide +kernel))) (vx_c (va_Nw.use rfl (hE.w (.declares ⟨"java/lang/Throwable", "<init>", "(Ljava/lang/String;)V"⟩) (by decide +kernel))) (vx_n)))))) (by decide +kernel) hE.u hE.n hS (by rw [hml]; exact hl.1) dXT_select_22 dXT_select_25 dXT_select_26 dXT_select_28 dXT_select_31 (fun x hx9 => (hnx x hx9).elim) (by decide) (by decide) (by decide) (by decide) hlocks (fun t hvm h1 h2 => ⟨(), trivial, ⟨rfl, fun ⟨_, _, _, h9, _⟩ => absurd c1 (Int32.not_lt.mpr h9)⟩, hU.ext h1 h2⟩) hS.2.2 (by decide) (by decide)
  · refine lv_iload_n hx hb dXT_select_9 rfl (lv_at hl 2 rfl) ?_
    refine lv_aload_n hx hb dXT_select_10 rfl (lv_at hl 0 rfl) ?_
    refine va_get (D := g.1) (ci := 1) (v := .ref ar) (C := RXT) (T := TXT) (N := 3) hx hb hts (fun w h => List.mem_cons_of_mem _ (in_XT w h)) hown hK hP qT hT rfl 0 (by decide) (hts _ (List.mem_cons_of_mem _ mw_53)) (fun _ h9 => h9) rfl dXT_select_11 ?_
    refine lv_iload_n hx hb dXT_select_14 rfl (lv_at hl 1 rfl) ?_
    refine va_aldq (D := g.1) (cl := vwCl) hx hb hK hP qR 1 hR rfl (vp_in_nI (n := j) (by omega) (by decide)) dXT_select_15 ?_
    refine qa_q (y := fr j) (by rw [nI_clamp (by omega)]) ?_
    refine vp_callSi (W.runS (As := [va_rf (fr j)]) (rest := [.int i]) ⟨hx, hb, hml, hown, hts⟩ (c_sizeOf l g ws LP nf hp (fr j) (mt_rep_mem (hrep j hj))) (va_cwS 1 hts (mt_giS mw_101 mw_102 mw_1 (mt_gi mw_103)) rfl rfl rfl (by decide +kernel) ⟨by decide, by decide⟩) (mt_preS hE hz hS hP hD) rfl rfl hl.1 rfl (lv_room (Nat.le_of_ble_eq_true rfl)) dXT_select_16 ⟨by decide, by decide⟩) (fun z e1 => ?_)
    rw [(mt_rep_sz (hrep j hj)).1] at e1
    subst e1
    refine lv_icmp_lt (tgt := 32) hx hb dXT_select_19 (by decide) (fun c2 => ?_) (fun c2 => ?_)
    · obtain ⟨n, hn31, rfl⟩ := nI_of (x := i) c1
      have hcl := mt_c_le (tab j) 0 256
      have hn : n < mt_c (tab j) 0 256 := (nI_ltI hn31 (by show mt_c (tab j) 0 256 < 2 ^ 31; omega)).mp c2
      refine lv_aload_n hx hb dXT_select_32 rfl (lv_at hl 0 rfl) ?_
      refine va_get (D := g.1) (ci := 1) (v := .ref ar) (C := RXT) (T := TXT) (N := 3) hx hb hts (fun w h => List.mem_cons_of_mem _ (in_XT w h)) hown hK hP qT hT rfl 0 (by decide) (hts _ (List.mem_cons_of_mem _ mw_53)) (fun _ h9 => h9) rfl dXT_select_33 ?_
      refine lv_iload_n hx hb dXT_select_36 rfl (lv_at hl 1 rfl) ?_
      refine va_aldq (D := g.1) (cl := vwCl) hx hb hK hP qR 1 hR rfl (vp_in_nI (n := j) (by omega) (by decide)) dXT_select_37 ?_
      refine qa_q (y := fr j) (by rw [nI_clamp (by omega)]) ?_
      refine lv_iload_n hx hb dXT_select_38 rfl (lv_at hl 2 rfl) ?_
      refine vp_callSi (W.runS (As := [va_rf (fr j), .int (nI n)]) (rest := []) ⟨hx, hb, hml, hown, hts⟩ (c_keyAt l g ws LP nf hp (tab j) (fr j) (hrep j hj) hn) (va_cwS 2 hts (mt_giS mw_334 mw_335 mw_1 (mt_gi mw_336)) rfl rfl rfl (by decide +kernel) ⟨by decide, by decide⟩) (mt_preS hE hz hS hP hD) rfl rfl hl.1 rfl (lv_room (Nat.le_of_ble_eq_true rfl)) dXT_select_39 ⟨by decide, by decide⟩) (fun z hz0 => ?_)
      obtain ⟨k, hk, rfl, hk1, hk2⟩ := hz0
      refine vx_ret ?_
      refine W.widen (k := 2) (n := 12) (by decide) (by decide) ?_
      exact W.iret (v := (nI k)) hx hb hr (fun t9 ht hW => ⟨⟨(nI k), (), rfl, ⟨j, n, k, hj, rfl, rfl, by omega, hk, rfl, hk1, hk2⟩, trivial⟩, hU.F ht⟩) hS.2.2 dXT_select_42
    · obtain ⟨sa, hsa⟩ := hE.s _ _ _ (show (RXT, 73, "the version has not so many keys") ∈ mt_strs by decide +kernel)
      exact vx_throwS (names := ["java/lang/RuntimeException", "java/lang/Exception"]) hx hb hl0 hown (by decide +kernel) (by decide +kernel) (hts _ (List.mem_cons_of_mem _ mw_119)) (hts _ (List.mem_cons_of_mem _ mw_9)) hsa (vx_hat (L := vx_atS RXT 66 "java/lang/IndexOutOfBoundsException" ["java/lang/RuntimeException", "java/lang/Exception"]) (B := [.castable "java/lang/IndexOutOfBoundsException" "java/lang/IndexOutOfBoundsException", .declares ⟨"java/lang/RuntimeException", "<init>", "(Ljava/lang/String;)V"⟩, .declares ⟨"java/lang/Exception", "<init>", "(Ljava/lang/String;)V"⟩, .declares ⟨"java/lang/Throwable", "<init>", "(Ljava/lang/String;)V"⟩]) (fun w hw => hts w (List.mem_cons_of_mem _ (at_66 w hw))) (by decide +kernel) (vx_c (va_Nw.use rfl (hE.w (.castable "java/lang/IndexOutOfBoundsException" "java/lang/IndexOutOfBoundsException") (by decide +kernel))) (vx_c (va_Nw.use rfl (hE.w (.declares ⟨"java/lang/RuntimeException", "<init>", "(Ljava/lang/String;)V"⟩) (by decide +kernel))) (vx_c (va_Nw.use rfl (hE.w (.declares ⟨"java/lang/Exception", "<init>", "(Ljava/lang/String;)V"⟩) (by decide +kernel))) (vx_c (va_Nw.use rfl (hE.w (.declares ⟨"java/lang/Throwable", "<init>", "(Ljava/lang/String;)V"⟩) (by decide +kernel))) (vx_n)))))) (by decide +kernel) hE.u hE.n hS (by rw [hml]; exact hl.1) dXT_select_22 dXT_select_25 dXT_select_26 dXT_select_28 dXT_select_31 (fun x hx9 => (hnx x hx9).elim) (by decide) (by decide) (by decide) (by decide) hlocks (fun t hvm h1 h2 => ⟨(), trivial, ⟨rfl, fun ⟨j2, h8, e8, _, h9⟩ => c2 (by rw [hone j2 h8 e8]; exact h9)⟩, hU.ext h1 h2⟩) hS.2.2 (by decide) (by decide)
set_option maxHeartbeats 4000000 in
set_option maxRecDepth 100000 in
/-- many(v, a, b) -/
theorem c_many (l : Launch) (hl0 : l.stackTraces = false) (g : mt_G) (ws : va_W) (qT qR x ar al cn : Nat) (fr : Nat → Option Nat) (hT : ws[qT]? = some (x, .inr (1, [.ref ar, .ref al, .int (nI cn)]))) (hR : ws[qR]? = some (ar, .inl (g.2.2.2 1, 600, .inr (.inr (.inr (.inr fr)))))) (hcn : cn ≤ 600) (LP : List Nat) (nf : Nat → mt_N) (hp : mt_pool ws LP nf) (tab : Nat → mt_T) (hrep : ∀ j, j < cn → mt_rep LP nf (tab j) 8 0 (fr j)) (v a b : Int32) : vx_Met l yXT_many wsXT_many ({ frames := 12, cells := 1, slots := 6, locals := 400 }) (mt_Pc g ws [.ref x, .int v, .int a, .int b]) (va_Qi (fun r (_ : Unit) => ∃ j, j < cn ∧ v = nI j ∧ r = nI (mt_m (tab j) (mt_cl a) (mt_cl b) 256)) (fun _ _ => True) (fun _ => False)) (vx_X (fun _ : Unit => True) (fun E _ _ => E = "java/lang/IndexOutOfBoundsException" ∧ ¬ mt_ver v cn) (fun _ => False)) (1) (6) (mt_A g) := by
  refine vx_ofW (cc := cXT_many) (maxL := 4) (ret := (some .int)) (by decide) rfl ?_
  intro p e s m args below meth c s₁ B hml hnx hv
  obtain ⟨rfl, hE, hz, hP, hD⟩ := hv
  have hx := B.exec
  have hb := B.bytes
  have hr := B.returns
  have hts := atoms_spec (ws := wsXT_many) B.pre
  have hown : s.vm.findClass RXT = some m.cls := findClass_of_methodNamed B.named
  have hlocks := B.notSynchronized
  have hK := hE.k
  have hA : ∀ q : Nat, s.heap.size ≤ q → mt_A g q := fun q h => Nat.le_trans hz h
  have hS : va_S (mt_A g) s.heap s.heap [] := va_S.rf
  have hl := lv_entry ([.ref x, .int v, .int a, .int b]) (n := 4) (Nat.le_of_ble_eq_true rfl)
  rw [lg_entry_eq]
  generalize (lg_sl ([.ref x, .int v, .int a, .int b]) ++ List.replicate (4 - (lg_sl ([.ref x, .int v, .int a, .int b])).length) Slot.unset).toArray = ls at hl ⊢
  have hl : lv_has ls 4 [(0, .ref x), (1, .int v), (2, .int a), (3, .int b)] := hl
  have hH : s.heap = s.heap := rfl
  have hU : mt_same s s.heap := mt_same.rf
  refine lv_aload_n hx hb dXT_many_0 rfl (lv_at hl 0 rfl) ?_
  refine lv_iload_n hx hb dXT_many_1 rfl (lv_at hl 1 rfl) ?_
  refine vx_callv (vx_runV (As := [.int v]) (rest := []) ⟨hx, hb, hml, hown, hts⟩ (c_needVersion l hl0 g ws qT qR x ar al cn fr hT hR hcn v) (cwV 1 hts (mt_giV mw_116 mw_117 mw_464 mw_1 (mt_gi mw_118)) rfl rfl rfl (by decide +kernel) ⟨Nat.le_of_ble_eq_true rfl, Nat.le_of_ble_eq_true rfl⟩) (mt_preV hE hz hS hP hD (va_recv hK hP (q := (RXT, TXT, 3)) rfl hT)) rfl rfl hl.1 rfl (lv_room (Nat.le_of_ble_eq_true rfl)) dXT_many_2 ⟨by decide, by decide⟩) hS (fun _ _ h => h.elim) (fun _ h => h) (fun _ _ h => h.elim) (fun E ce q9 u t H1 locs1 ht hvm hpx hBX hz1 hk1 hS1 hce hcv hcl => ?_) (fun u t H1 locs1 ht hvm hpo _ hz1 hk1 hS1 => ?_)
  · have hU1 := hU.step hz1 hk1
    subst hBX
    exact vx_out (fun x hx9 => (hnx x hx9).elim) hlocks hce hcv hcl (fun t ht9 _ => ⟨(), trivial, ⟨rfl, hpx⟩, hU1.F ht9⟩) (fun z hz9 => hS1.2.2 z hz9) (by decide) (by decide)
  have hU := hU.step hz1 hk1
  have hP := mt_keepP hk1 hP
  have hS := hS1
  clear hS1
  obtain ⟨j, hj, rfl⟩ := mt_ver_nat hcn hpo
  have hans := mt_many (tab j) a b
  refine lv_iload_n hx hb dXT_many_5 rfl (lv_at hl 2 rfl) ?_
  refine lv_iload_n hx hb dXT_many_6 rfl (lv_at hl 3 rfl) ?_
  refine lv_icmp_ge (tgt := 34) hx hb dXT_many_7 (by decide) (fun c1 => ?_) (fun c1 => ?_)
  · refine lv_iconst (v := 0) hx hb dXT_many_34 (by decide +kernel) ?_
    rw [if_neg (Int32.not_lt.mpr c1)] at hans
    refine vx_ret ?_
    refine W.widen (k := 1) (n := 6) (by decide) (by decide) ?_
    exact W.iret (v := 0) hx hb hr (fun t9 ht hW => ⟨⟨0, (), rfl, ⟨j, hj, rfl, hans⟩, trivial⟩, hU.F ht⟩) hS.2.2 dXT_many_35
  · refine lv_aload_n hx hb dXT_many_10 rfl (lv_at hl 0 rfl) ?_
    refine va_get (D := g.1) (ci := 1) (v := .ref ar) (C := RXT) (T := TXT) (N := 3) hx hb hts (fun w h => List.mem_cons_of_mem _ (in_XT w h)) hown hK hP qT hT rfl 0 (by decide) (hts _ (List.mem_cons_of_mem _ mw_53)) (fun _ h9 => h9) rfl dXT_many_11 ?_
    refine lv_iload_n hx hb dXT_many_14 rfl (lv_at hl 1 rfl) ?_
    refine va_aldq (D := g.1) (cl := vwCl) hx hb hK hP qR 1 hR rfl (vp_in_nI (n := j) (by omega) (by decide)) dXT_many_15 ?_
    refine qa_q (y := fr j) (by rw [nI_clamp (by omega)]) ?_
    refine lv_iload_n hx hb dXT_many_16 rfl (lv_at hl 3 rfl) ?_
    refine vp_callSi (W.runS (As := [va_rf (fr j), .int b]) (rest := []) ⟨hx, hb, hml, hown, hts⟩ (c_sizeBelow l g ws LP nf hp (tab j) (fr j) (hrep j hj) b) (va_cwS 2 hts (mt_giS mw_344 mw_345 mw_1 (mt_gi mw_346)) rfl rfl rfl (by decide +kernel) ⟨by decide, by decide⟩) (mt_preS hE hz hS hP hD) rfl rfl hl.1 rfl (lv_room (Nat.le_of_ble_eq_true rfl)) dXT_many_17 ⟨by decide, by decide⟩) (fun z e1 => ?_)
    subst e1
    refine lv_aload_n hx hb dXT_many_20 rfl (lv_at hl 0 rfl) ?_
    refine va_get (D := g.1) (ci := 1) (v := .ref ar) (C := RXT) (T := TXT) (N := 3) hx hb hts (fun w h => List.mem_cons_of_mem _ (in_XT w h)) hown hK hP qT hT rfl 0 (by decide) (hts _ (List.mem_cons_of_mem _ mw_53)) (fun _ h9 => h9) rfl dXT_many_21 ?_
    refine lv_iload_n hx hb dXT_many_24 rfl (lv_at hl 1 rfl) ?_
    refine va_aldq (D := g.1) (cl := vwCl) hx hb hK hP qR 1 hR rfl (vp_in_nI (n := j) (by omega) (by decide)) dXT_many_25 ?_
    refine qa_q (y := fr j) (by rw [nI_clamp (by omega)]) ?_
    refine lv_iload_n hx hb dXT_many_26 rfl (lv_at hl 2 rfl) ?_
    refine vp_callSi (W.runS (As := [va_rf (fr j), .int a]) (rest := [.int (nI (mt_c (tab j) 0 (mt_cl b)))]) ⟨hx, hb, hml, hown, hts⟩ (c_sizeBelow l g ws LP nf hp (tab j) (fr j) (hrep j hj) a) (va_cwS 2 hts (mt_giS mw_344 mw_345 mw_1 (mt_gi mw_346)) rfl rfl rfl (by decide +kernel) ⟨by decide, by decide⟩) (mt_preS hE hz hS hP hD) rfl rfl hl.1 rfl (lv_room (Nat.le_of_ble_eq_true rfl)) dXT_many_27 ⟨by decide, by decide⟩) (fun z e1 => ?_)
    subst e1
    refine lv_isub hx hb dXT_many_30 ?_
    refine lv_goto (tgt := 35) hx hb dXT_many_31 (by decide) ?_
    rw [if_pos (Int32.not_le.mp c1)] at hans
    refine vx_ret ?_
    refine W.widen (k := 1) (n := 6) (by decide) (by decide) ?_
    exact W.iret (v := ((nI (mt_c (tab j) 0 (mt_cl b))) - (nI (mt_c (tab j) 0 (mt_cl a))))) hx hb hr (fun t9 ht hW => ⟨⟨((nI (mt_c (tab j) 0 (mt_cl b))) - (nI (mt_c (tab j) 0 (mt_cl a)))), (), rfl, ⟨j, hj, rfl, hans⟩, trivial⟩, hU.F ht⟩) hS.2.2 dXT_many_35
set_option maxHeartbeats 4000000 in
set_option maxRecDepth 100000 in
/-- sum(v, a, b) -/
theorem c_sum (l : Launch) (hl0 : l.stackTraces = false) (g : mt_G) (ws : va_W) (qT qR x ar al cn : Nat) (fr : Nat → Option Nat) (hT : ws[qT]? = some (x, .inr (1, [.ref ar, .ref al, .int (nI cn)]))) (hR : ws[qR]? = some (ar, .inl (g.2.2.2 1, 600, .inr (.inr (.inr (.inr fr)))))) (hcn : cn ≤ 600) (LP : List Nat) (nf : Nat → mt_N) (hp : mt_pool ws LP nf) (tab : Nat → mt_T) (hrep : ∀ j, j < cn → mt_rep LP nf (tab j) 8 0 (fr j)) (v a b : Int32) : vx_Met l yXT_sum wsXT_sum ({ frames := 12, cells := 1, slots := 6, locals := 400 }) (mt_Pc g ws [.ref x, .int v, .int a, .int b]) (va_Ql (fun r (_ : Unit) => ∃ j, j < cn ∧ v = nI j ∧ r = mt_ms (tab j) (mt_cl a) (mt_cl b) 256) (fun _ _ => True) (fun _ => False)) (vx_X (fun _ : Unit => True) (fun E _ _ => E = "java/lang/IndexOutOfBoundsException" ∧ ¬ mt_ver v cn) (fun _ => False)) (1) (6) (mt_A g) := by
  refine vx_ofW (cc := cXT_sum) (maxL := 4) (ret := (some .long)) (by decide) rfl ?_
  intro p e s m args below meth c s₁ B hml hnx hv
  obtain ⟨rfl, hE, hz, hP, hD⟩ := hv
  have hx := B.exec
  have hb := B.bytes
  have hr := B.returns
  have hts := atoms_spec (ws := wsXT_sum) B.pre
  have hown : s.vm.findClass RXT = some m.cls := findClass_of_methodNamed B.named
  have hlocks := B.notSynchronized
  have hK := hE.k
  have hA : ∀ q : Nat, s.heap.size ≤ q → mt_A g q := fun q h => Nat.le_trans hz h
  have hS : va_S (mt_A g) s.heap s.heap [] := va_S.rf
  have hl := lv_entry ([.ref x, .int v, .int a, .int b]) (n := 4) (Nat.le_of_ble_eq_true rfl)
  rw [lg_entry_eq]
  generalize (lg_sl ([.ref x, .int v, .int a, .int b]) ++ List.replicate (4 - (lg_sl ([.ref x, .int v, .int a, .int b])).length) Slot.unset).toArray = ls at hl ⊢
  have hl : lv_has ls 4 [(0, .ref x), (1, .int v), (2, .int a), (3, .int b)] := hl
  have hH : s.heap = s.heap := rfl
  have hU : mt_same s s.heap := mt_same.rf
  refine lv_aload_n hx hb dXT_sum_0 rfl (lv_at hl 0 rfl) ?_
  refine lv_iload_n hx hb dXT_sum_1 rfl (lv_at hl 1 rfl) ?_
  refine vx_callv (vx_runV (As := [.int v]) (rest := []) ⟨hx, hb, hml, hown, hts⟩ (c_needVersion l hl0 g ws qT qR x ar al cn fr hT hR hcn v) (cwV 1 hts (mt_giV mw_116 mw_117 mw_464 mw_1 (mt_gi mw_118)) rfl rfl rfl (by decide +kernel) ⟨Nat.le_of_ble_eq_true rfl, Nat.le_of_ble_eq_true rfl⟩) (mt_preV hE hz hS hP hD (va_recv hK hP (q := (RXT, TXT, 3)) rfl hT)) rfl rfl hl.1 rfl (lv_room (Nat.le_of_ble_eq_true rfl)) dXT_sum_2 ⟨by decide, by decide⟩) hS (fun _ _ h => h.elim) (fun _ h => h) (fun _ _ h => h.elim) (fun E ce q9 u t H1 locs1 ht hvm hpx hBX hz1 hk1 hS1 hce hcv hcl => ?_) (fun u t H1 locs1 ht hvm hpo _ hz1 hk1 hS1 => ?_)
  · have hU1 := hU.step hz1 hk1
    subst hBX
    exact vx_out (fun x hx9 => (hnx x hx9).elim) hlocks hce hcv hcl (fun t ht9 _ => ⟨(), trivial, ⟨rfl, hpx⟩, hU1.F ht9⟩) (fun z hz9 => hS1.2.2 z hz9) (by decide) (by decide)
  have hU := hU.step hz1 hk1
  have hP := mt_keepP hk1 hP
  have hS := hS1
  clear hS1
  obtain ⟨j, hj, rfl⟩ := mt_ver_nat hcn hpo
  have hans := mt_sum (tab j) a b
  refine lv_iload_n hx hb dXT_sum_5 rfl (lv_at hl 2 rfl) ?_
  refine lv_iload_n hx hb dXT_sum_6 rfl (lv_at hl 3 rfl) ?_
  refine lv_icmp_ge (tgt := 34) hx hb dXT_sum_7 (by decide) (fun c1 => ?_) (fun c1 => ?_)
  · refine lv_lconst (v := 0) hx hb dXT_sum_34 (by decide +kernel) ?_
    rw [if_neg (Int32.not_lt.mpr c1)] at hans
    refine vx_ret ?_
    refine W.widen (k := 1) (n := 6) (by decide) (by decide) ?_
    exact W.lret (v := 0) hx hb hr (fun t9 ht hW => ⟨⟨0, (), rfl, ⟨j, hj, rfl, hans⟩, trivial⟩, hU.F ht⟩) hS.2.2 dXT_sum_35
  · refine lv_aload_n hx hb dXT_sum_10 rfl (lv_at hl 0 rfl) ?_
    refine va_get (D := g.1) (ci := 1) (v := .ref ar) (C := RXT) (T := TXT) (N := 3) hx hb hts (fun w h => List.mem_cons_of_mem _ (in_XT w h)) hown hK hP qT hT rfl 0 (by decide) (hts _ (List.mem_cons_of_mem _ mw_53)) (fun _ h9 => h9) rfl dXT_sum_11 ?_
    refine lv_iload_n hx hb dXT_sum_14 rfl (lv_at hl 1 rfl) ?_
    refine va_aldq (D := g.1) (cl := vwCl) hx hb hK hP qR 1 hR rfl (vp_in_nI (n := j) (by omega) (by decide)) dXT_sum_15 ?_
    refine qa_q (y := fr j) (by rw [nI_clamp (by omega)]) ?_
    refine lv_iload_n hx hb dXT_sum_16 rfl (lv_at hl 3 rfl) ?_
    refine vp_callSl (W.runS (As := [va_rf (fr j), .int b]) (rest := []) ⟨hx, hb, hml, hown, hts⟩ (c_totalBelow l g ws LP nf hp (tab j) (fr j) (hrep j hj) b) (va_cwS 2 hts (mt_giS mw_354 mw_355 mw_1 (mt_gi mw_356)) rfl rfl rfl (by decide +kernel) ⟨by decide, by decide⟩) (mt_preS hE hz hS hP hD) rfl rfl hl.1 rfl (lv_room (Nat.le_of_ble_eq_true rfl)) dXT_sum_17 ⟨by decide, by decide⟩) (fun z e1 => ?_)
    subst e1
    refine lv_aload_n hx hb dXT_sum_20 rfl (lv_at hl 0 rfl) ?_
    refine va_get (D := g.1) (ci := 1) (v := .ref ar) (C := RXT) (T := TXT) (N := 3) hx hb hts (fun w h => List.mem_cons_of_mem _ (in_XT w h)) hown hK hP qT hT rfl 0 (by decide) (hts _ (List.mem_cons_of_mem _ mw_53)) (fun _ h9 => h9) rfl dXT_sum_21 ?_
    refine lv_iload_n hx hb dXT_sum_24 rfl (lv_at hl 1 rfl) ?_
    refine va_aldq (D := g.1) (cl := vwCl) hx hb hK hP qR 1 hR rfl (vp_in_nI (n := j) (by omega) (by decide)) dXT_sum_25 ?_
    refine qa_q (y := fr j) (by rw [nI_clamp (by omega)]) ?_
    refine lv_iload_n hx hb dXT_sum_26 rfl (lv_at hl 2 rfl) ?_
    refine vp_callSl (W.runS (As := [va_rf (fr j), .int a]) (rest := [.long (mt_s (tab j) 0 (mt_cl b))]) ⟨hx, hb, hml, hown, hts⟩ (c_totalBelow l g ws LP nf hp (tab j) (fr j) (hrep j hj) a) (va_cwS 2 hts (mt_giS mw_354 mw_355 mw_1 (mt_gi mw_356)) rfl rfl rfl (by decide +kernel) ⟨by decide, by decide⟩) (mt_preS hE hz hS hP hD) rfl rfl hl.1 rfl (lv_room (Nat.le_of_ble_eq_true rfl)) dXT_sum_27 ⟨by decide, by decide⟩) (fun z e1 => ?_)
    subst e1
    refine lv_lsub hx hb dXT_sum_30 ?_
    refine lv_goto (tgt := 35) hx hb dXT_sum_31 (by decide) ?_
    rw [if_pos (Int32.not_le.mp c1)] at hans
    refine vx_ret ?_
    refine W.widen (k := 1) (n := 6) (by decide) (by decide) ?_
    exact W.lret (v := ((mt_s (tab j) 0 (mt_cl b)) - (mt_s (tab j) 0 (mt_cl a)))) hx hb hr (fun t9 ht hW => ⟨⟨((mt_s (tab j) 0 (mt_cl b)) - (mt_s (tab j) 0 (mt_cl a))), (), rfl, ⟨j, hj, rfl, hans⟩, trivial⟩, hU.F ht⟩) hS.2.2 dXT_sum_35
set_option maxHeartbeats 4000000 in
set_option maxRecDepth 100000 in
/-- differ(v, w) -/
theorem c_differ (l : Launch) (hl0 : l.stackTraces = false) (g : mt_G) (ws : va_W) (qT qR x ar al cn : Nat) (fr : Nat → Option Nat) (hT : ws[qT]? = some (x, .inr (1, [.ref ar, .ref al, .int (nI cn)]))) (hR : ws[qR]? = some (ar, .inl (g.2.2.2 1, 600, .inr (.inr (.inr (.inr fr)))))) (hcn : cn ≤ 600) (LP : List Nat) (nf : Nat → mt_N) (hp : mt_pool ws LP nf) (tab : Nat → mt_T) (hrep : ∀ j, j < cn → mt_rep LP nf (tab j) 8 0 (fr j)) (v w : Int32) : vx_Met l yXT_differ wsXT_differ ({ frames := 12, cells := 2, slots := 12, locals := 400 }) (mt_Pc g ws [.ref x, .int v, .int w]) (va_Qi (fun r (_ : Unit) => ∃ j i, j < cn ∧ i < cn ∧ v = nI j ∧ w = nI i ∧ r = nI (mt_d (tab j) (tab i) 0 256)) (fun _ _ => True) (fun _ => False)) (vx_X (fun _ : Unit => True) (fun E _ _ => E = "java/lang/IndexOutOfBoundsException" ∧ ¬ (mt_ver v cn ∧ mt_ver w cn)) (fun _ => False)) (2) (12) (mt_A g) := by
  refine vx_ofW (cc := cXT_differ) (maxL := 3) (ret := (some .int)) (by decide) rfl ?_
  intro p e s m args below meth c s₁ B hml hnx hv
  obtain ⟨rfl, hE, hz, hP, hD⟩ := hv
  have hx := B.exec
  have hb := B.bytes
  have hr := B.returns
  have hts := atoms_spec (ws := wsXT_differ) B.pre
  have hown : s.vm.findClass RXT = some m.cls := findClass_of_methodNamed B.named
  have hlocks := B.notSynchronized
  have hK := hE.k
  have hA : ∀ q : Nat, s.heap.size ≤ q → mt_A g q := fun q h => Nat.le_trans hz h
  have hS : va_S (mt_A g) s.heap s.heap [] := va_S.rf
  have hl := lv_entry ([.ref x, .int v, .int w]) (n := 3) (Nat.le_of_ble_eq_true rfl)
  rw [lg_entry_eq]
  generalize (lg_sl ([.ref x, .int v, .int w]) ++ List.replicate (3 - (lg_sl ([.ref x, .int v, .int w])).length) Slot.unset).toArray = ls at hl ⊢
  have hl : lv_has ls 3 [(0, .ref x), (1, .int v), (2, .int w)] := hl
  have hH : s.heap = s.heap := rfl
  have hU : mt_same s s.heap := mt_same.rf
  refine lv_aload_n hx hb dXT_differ_0 rfl (lv_at hl 0 rfl) ?_
  refine lv_iload_n hx hb dXT_differ_1 rfl (lv_at hl 1 rfl) ?_
  refine vx_callv (vx_runV (As := [.int v]) (rest := []) ⟨hx, hb, hml, hown, hts⟩ (c_needVersion l hl0 g ws qT qR x ar al cn fr hT hR hcn v) (cwV 1 hts (mt_giV mw_116 mw_117 mw_464 mw_1 (mt_gi mw_118)) rfl rfl rfl (by decide +kernel) ⟨Nat.le_of_ble_eq_true rfl, Nat.le_of_ble_eq_true rfl⟩) (mt_preV hE hz hS hP hD (va_recv hK hP (q := (RXT, TXT, 3)) rfl hT)) rfl rfl hl.1 rfl (lv_room (Nat.le_of_ble_eq_true rfl)) dXT_differ_2 ⟨by decide, by decide⟩) hS (fun _ _ h => h.elim) (fun _ h => h) (fun _ _ h => h.elim) (fun E ce q9 u t H1 locs1 ht hvm hpx hBX hz1 hk1 hS1 hce hcv hcl => ?_) (fun u t H1 locs1 ht hvm hpo _ hz1 hk1 hS1 => ?_)
  · have hU1 := hU.step hz1 hk1
    subst hBX
    exact vx_out (fun x hx9 => (hnx x hx9).elim) hlocks hce hcv hcl (fun t ht9 _ => ⟨(), trivial, ⟨rfl, fun h9 => hpx h9.1⟩, hU1.F ht9⟩) (fun z hz9 => hS1.2.2 z hz9) (by decide) (by decide)
  have hU := hU.step hz1 hk1
  have hP := mt_keepP hk1 hP
  have hS := hS1
  clear hS1
  obtain ⟨j, hj, rfl⟩ := mt_ver_nat hcn hpo
  refine lv_aload_n hx hb dXT_differ_5 rfl (lv_at hl 0 rfl) ?_
  refine lv_iload_n hx hb dXT_differ_6 rfl (lv_at hl 2 rfl) ?_
  refine vx_callv (vx_runV (As := [.int w]) (rest := []) ⟨hx, hb, hml, hown, hts⟩ (c_needVersion l hl0 g ws qT qR x ar al cn fr hT hR hcn w) (cwV 1 hts (mt_giV mw_116 mw_117 mw_464 mw_1 (mt_gi mw_118)) rfl rfl rfl (by decide +kernel) ⟨Nat.le_of_ble_eq_true rfl, Nat.le_of_ble_eq_true rfl⟩) (mt_preV hE hz hS hP hD (va_recv hK hP (q := (RXT, TXT, 3)) rfl hT)) rfl rfl hl.1 rfl (lv_room (Nat.le_of_ble_eq_true rfl)) dXT_differ_7 ⟨by decide, by decide⟩) hS (fun _ _ h => h.elim) (fun _ h => h) (fun _ _ h => h.elim) (fun E ce q9 u t H1 locs1 ht hvm hpx hBX hz1 hk1 hS1 hce hcv hcl => ?_) (fun u t H1 locs1 ht hvm hpo _ hz1 hk1 hS1 => ?_)
  · have hU1 := hU.step hz1 hk1
    subst hBX
    exact vx_out (fun x hx9 => (hnx x hx9).elim) hlocks hce hcv hcl (fun t ht9 _ => ⟨(), trivial, ⟨rfl, fun h9 => hpx h9.2⟩, hU1.F ht9⟩) (fun z hz9 => hS1.2.2 z hz9) (by decide) (by decide)
  have hU := hU.step hz1 hk1
  have hP := mt_keepP hk1 hP
  have hS := hS1
  clear hS1
  obtain ⟨i, hi, rfl⟩ := mt_ver_nat hcn hpo
  refine lv_aload_n hx hb dXT_differ_10 rfl (lv_at hl 0 rfl) ?_
  refine va_get (D := g.1) (ci := 1) (v := .ref ar) (C := RXT) (T := TXT) (N := 3) hx hb hts (fun w h => List.mem_cons_of_mem _ (in_XT w h)) hown hK hP qT hT rfl 0 (by decide) (hts _ (List.mem_cons_of_mem _ mw_53)) (fun _ h9 => h9) rfl dXT_differ_11 ?_
  refine lv_iload_n hx hb dXT_differ_14 rfl (lv_at hl 1 rfl) ?_
  refine va_aldq (D := g.1) (cl := vwCl) hx hb hK hP qR 1 hR rfl (vp_in_nI (n := j) (by omega) (by decide)) dXT_differ_15 ?_
  refine qa_q (y := fr j) (by rw [nI_clamp (by omega)]) ?_
  refine lv_aload_n hx hb dXT_differ_16 rfl (lv_at hl 0 rfl) ?_
  refine va_get (D := g.1) (ci := 1) (v := .ref ar) (C := RXT) (T := TXT) (N := 3) hx hb hts (fun w h => List.mem_cons_of_mem _ (in_XT w h)) hown hK hP qT hT rfl 0 (by decide) (hts _ (List.mem_cons_of_mem _ mw_53)) (fun _ h9 => h9) rfl dXT_differ_17 ?_
  refine lv_iload_n hx hb dXT_differ_20 rfl (lv_at hl 2 rfl) ?_
  refine va_aldq (D := g.1) (cl := vwCl) hx hb hK hP qR 1 hR rfl (vp_in_nI (n := i) (by omega) (by decide)) dXT_differ_21 ?_
  refine qa_q (y := fr i) (by rw [nI_clamp (by omega)]) ?_
  refine lv_bipush (v := (nI 8)) hx hb dXT_differ_22 (by decide +kernel) ?_
  refine vp_callSi (W.runS (As := [va_rf (fr j), va_rf (fr i), .int (nI 8)]) (rest := []) ⟨hx, hb, hml, hown, hts⟩ (c_differences l g ws LP nf hp (tab j) (tab i) 8 (Nat.le_refl _) 0 (fr j) (fr i) (hrep j hj) (hrep i hi) (by decide)) (va_cwS 3 hts (mt_giS mw_364 mw_365 mw_1 (mt_gi mw_366)) rfl rfl rfl (by decide +kernel) ⟨by decide, by decide⟩) (mt_preS hE hz hS hP hD) rfl rfl hl.1 rfl (lv_room (Nat.le_of_ble_eq_true rfl)) dXT_differ_24 ⟨by decide, by decide⟩) (fun z e1 => ?_)
  subst e1
  refine vx_ret ?_
  refine W.widen (k := 2) (n := 12) (by decide) (by decide) ?_
  exact W.iret (v := (nI (mt_d (tab j) (tab i) 0 (2 ^ 8)))) hx hb hr (fun t9 ht hW => ⟨⟨(nI (mt_d (tab j) (tab i) 0 (2 ^ 8))), (), rfl, ⟨j, i, hj, hi, rfl, rfl, rfl⟩, trivial⟩, hU.F ht⟩) hS.2.2 dXT_differ_27
set_option maxHeartbeats 4000000 in
set_option maxRecDepth 100000 in
/-- digest(v) -/
theorem c_digest (l : Launch) (hl0 : l.stackTraces = false) (g : mt_G) (ws : va_W) (qT qR x ar al cn : Nat) (fr : Nat → Option Nat) (hT : ws[qT]? = some (x, .inr (1, [.ref ar, .ref al, .int (nI cn)]))) (hR : ws[qR]? = some (ar, .inl (g.2.2.2 1, 600, .inr (.inr (.inr (.inr fr)))))) (hcn : cn ≤ 600) (LP : List Nat) (nf : Nat → mt_N) (hp : mt_pool ws LP nf) (tab : Nat → mt_T) (hrep : ∀ j, j < cn → mt_rep LP nf (tab j) 8 0 (fr j)) (v : Int32) : vx_Met l yXT_digest wsXT_digest ({ frames := 12, cells := 1, slots := 6, locals := 400 }) (mt_Pc g ws [.ref x, .int v]) (va_Ql (fun r (_ : Unit) => ∃ j, j < cn ∧ v = nI j ∧ r = mt_g (tab j) 0 7 256) (fun _ _ => True) (fun _ => False)) (vx_X (fun _ : Unit => True) (fun E _ _ => E = "java/lang/IndexOutOfBoundsException" ∧ ¬ mt_ver v cn) (fun _ => False)) (1) (6) (mt_A g) := by
  refine vx_ofW (cc := cXT_digest) (maxL := 2) (ret := (some .long)) (by decide) rfl ?_
  intro p e s m args below meth c s₁ B hml hnx hv
  obtain ⟨rfl, hE, hz, hP, hD⟩ := hv
  have hx := B.exec
  have hb := B.bytes
  have hr := B.returns
  have hts := atoms_spec (ws := wsXT_digest) B.pre
  have hown : s.vm.findClass RXT = some m.cls := findClass_of_methodNamed B.named
  have hlocks := B.notSynchronized
  have hK := hE.k
  have hA : ∀ q : Nat, s.heap.size ≤ q → mt_A g q := fun q h => Nat.le_trans hz h
  have hS : va_S (mt_A g) s.heap s.heap [] := va_S.rf
  have hl := lv_entry ([.ref x, .int v]) (n := 2) (Nat.le_of_ble_eq_true rfl)
  rw [lg_entry_eq]
  generalize (lg_sl ([.ref x, .int v]) ++ List.replicate (2 - (lg_sl ([.ref x, .int v])).length) Slot.unset).toArray = ls at hl ⊢
  have hl : lv_has ls 2 [(0, .ref x), (1, .int v)] := hl
  have hH : s.heap = s.heap := rfl
  have hU : mt_same s s.heap := mt_same.rf
  refine lv_aload_n hx hb dXT_digest_0 rfl (lv_at hl 0 rfl) ?_
  refine lv_iload_n hx hb dXT_digest_1 rfl (lv_at hl 1 rfl) ?_
  refine vx_callv (vx_runV (As := [.int v]) (rest := []) ⟨hx, hb, hml, hown, hts⟩ (c_needVersion l hl0 g ws qT qR x ar al cn fr hT hR hcn v) (cwV 1 hts (mt_giV mw_116 mw_117 mw_464 mw_1 (mt_gi mw_118)) rfl rfl rfl (by decide +kernel) ⟨Nat.le_of_ble_eq_true rfl, Nat.le_of_ble_eq_true rfl⟩) (mt_preV hE hz hS hP hD (va_recv hK hP (q := (RXT, TXT, 3)) rfl hT)) rfl rfl hl.1 rfl (lv_room (Nat.le_of_ble_eq_true rfl)) dXT_digest_2 ⟨by decide, by decide⟩) hS (fun _ _ h => h.elim) (fun _ h => h) (fun _ _ h => h.elim) (fun E ce q9 u t H1 locs1 ht hvm hpx hBX hz1 hk1 hS1 hce hcv hcl => ?_) (fun u t H1 locs1 ht hvm hpo _ hz1 hk1 hS1 => ?_)
  · have hU1 := hU.step hz1 hk1
    subst hBX
    exact vx_out (fun x hx9 => (hnx x hx9).elim) hlocks hce hcv hcl (fun t ht9 _ => ⟨(), trivial, ⟨rfl, hpx⟩, hU1.F ht9⟩) (fun z hz9 => hS1.2.2 z hz9) (by decide) (by decide)
  have hU := hU.step hz1 hk1
  have hP := mt_keepP hk1 hP
  have hS := hS1
  clear hS1
  obtain ⟨j, hj, rfl⟩ := mt_ver_nat hcn hpo
  refine lv_ldc2 (v := 7) hx hb hown (hts _ (List.mem_cons_of_mem _ mw_374)) dXT_digest_5 ?_
  refine lv_aload_n hx hb dXT_digest_8 rfl (lv_at hl 0 rfl) ?_
  refine va_get (D := g.1) (ci := 1) (v := .ref ar) (C := RXT) (T := TXT) (N := 3) hx hb hts (fun w h => List.mem_cons_of_mem _ (in_XT w h)) hown hK hP qT hT rfl 0 (by decide) (hts _ (List.mem_cons_of_mem _ mw_53)) (fun _ h9 => h9) rfl dXT_digest_9 ?_
  refine lv_iload_n hx hb dXT_digest_12 rfl (lv_at hl 1 rfl) ?_
  refine va_aldq (D := g.1) (cl := vwCl) hx hb hK hP qR 1 hR rfl (vp_in_nI (n := j) (by omega) (by decide)) dXT_digest_13 ?_
  refine qa_q (y := fr j) (by rw [nI_clamp (by omega)]) ?_
  refine lv_bipush (v := (nI 8)) hx hb dXT_digest_14 (by decide +kernel) ?_
  refine vp_callSl (W.runS (As := [.long 7, va_rf (fr j), .int (nI 8)]) (rest := []) ⟨hx, hb, hml, hown, hts⟩ (c_digestOn l g ws LP nf hp (tab j) 8 (Nat.le_refl _) 0 7 (fr j) (hrep j hj) (by decide)) (va_cwS 3 hts (mt_giS mw_375 mw_376 mw_1 (mt_gi mw_377)) rfl rfl rfl (by decide +kernel) ⟨by decide, by decide⟩) (mt_preS hE hz hS hP hD) rfl rfl hl.1 rfl (lv_room (Nat.le_of_ble_eq_true rfl)) dXT_digest_16 ⟨by decide, by decide⟩) (fun z e1 => ?_)
  subst e1
  refine vx_ret ?_
  refine W.widen (k := 1) (n := 6) (by decide) (by decide) ?_
  exact W.lret (v := (mt_g (tab j) 0 7 (2 ^ 8))) hx hb hr (fun t9 ht hW => ⟨⟨(mt_g (tab j) 0 7 (2 ^ 8)), (), rfl, ⟨j, hj, rfl, rfl⟩, trivial⟩, hU.F ht⟩) hS.2.2 dXT_digest_19
set_option maxHeartbeats 4000000 in
set_option maxRecDepth 100000 in
/-- versions() -/
theorem c_versions (l : Launch) (g : mt_G) (ws : va_W) (qT qR x ar al cn : Nat) (fr : Nat → Option Nat) (hT : ws[qT]? = some (x, .inr (1, [.ref ar, .ref al, .int (nI cn)]))) (hR : ws[qR]? = some (ar, .inl (g.2.2.2 1, 600, .inr (.inr (.inr (.inr fr)))))) (hcn : cn ≤ 600) : Met l yXT_versions wsXT_versions ({ frames := 0, cells := 0, slots := 0, locals := 0 }) (mt_Pc g ws [.ref x]) (vp_Si (fun z => z = nI cn)) (0) (0) (fun _ => False) := by
  refine Met.ofW (cc := cXT_versions) (maxL := 1) (ret := (some .int)) (by decide) rfl ?_
  intro p e s m args below meth c s₁ B hml hv
  obtain ⟨rfl, hE, hz, hP, hD⟩ := hv
  have hx := B.exec
  have hb := B.bytes
  have hr := B.returns
  have hts := atoms_spec (ws := wsXT_versions) B.pre
  have hown : s.vm.findClass RXT = some m.cls := findClass_of_methodNamed B.named
  have hlocks := B.notSynchronized
  have hK := hE.k
  have hA : ∀ q : Nat, s.heap.size ≤ q → mt_A g q := fun q h => Nat.le_trans hz h
  have hS : va_S (mt_A g) s.heap s.heap [] := va_S.rf
  have hl := lv_entry ([.ref x]) (n := 1) (Nat.le_of_ble_eq_true rfl)
  rw [lg_entry_eq]
  generalize (lg_sl ([.ref x]) ++ List.replicate (1 - (lg_sl ([.ref x])).length) Slot.unset).toArray = ls at hl ⊢
  have hl : lv_has ls 1 [(0, .ref x)] := hl
  have hH : s.heap = s.heap := rfl
  refine lv_aload_n hx hb dXT_versions_0 rfl (lv_at hl 0 rfl) ?_
  refine va_get (D := g.1) (ci := 1) (v := .int (nI cn)) (C := RXT) (T := TXT) (N := 3) hx hb hts (fun w h => List.mem_cons_of_mem _ (in_XT w h)) hown hK hP qT hT rfl 2 (by decide) (hts _ (List.mem_cons_of_mem _ mw_55)) (fun _ h9 => h9) rfl dXT_versions_1 ?_
  exact W.iret (v := (nI cn)) hx hb hr (fun t9 ht hW => ⟨(nI cn), rfl, rfl, ht⟩) t_nil dXT_versions_4
