set_option maxHeartbeats 4000000 in
set_option maxRecDepth 100000 in
/-- the law: get -/
theorem c_L_get (l : Launch) (g : mt_G) (hl0 : l.stackTraces = false) (c0 c1 c2 : Nat × va_E) (ao : Nat) (fo : Nat → Int64) (x ar al cn : Nat) (fr : Nat → Option Nat) (n cap : Nat) (LL : va_W) (LP : List Nat) (nf : Nat → mt_N) (hLL : mt_LL g al LP n cap LL) (hlc : mt_lc n cap) (hn5 : n < 4900) (hok : ∀ a, a ∈ LP → mt_ok LP nf a) (tab : Nat → mt_T) (hrep : ∀ j, j < cn → mt_rep LP nf (tab j) 8 0 (fr j)) (hcn : cn ≤ 600) (v k : Int32) : Met l yXL_get wsXL_get ({ frames := 30, cells := 3, slots := 18, locals := 1000 }) (mt_Pc g (mt_TW g c0 c1 c2 (ao, .inl (g.2.2.2 4, 1, .inr (.inl fo))) x ar al cn fr (LL ++ va_pl LP (fun a => mt_nE (nf a)))) [.ref x, .int v, .int k, .ref ao]) (va_Qi (fun r (q : (Nat × (Nat → Option Nat) × va_W × List Nat × (Nat → mt_N) × (Nat → Int64))) => (r = 1 ∧ ¬ (mt_ver v cn ∧ mt_key k) ∧ q = (cn, fr, LL, LP, nf, fo)) ∨ (r = 2 ∧ (∃ j i, j < cn ∧ i < 256 ∧ v = nI j ∧ k = nI i ∧ tab j i = none) ∧ q = (cn, fr, LL, LP, nf, fo)) ∨ (r = 0 ∧ ∃ z, (∃ j i, j < cn ∧ i < 256 ∧ v = nI j ∧ k = nI i ∧ tab j i = some z) ∧ q = (cn, fr, LL, LP, nf, vp_updL fo 0 (z.toInt64)))) (fun (q : (Nat × (Nat → Option Nat) × va_W × List Nat × (Nat → mt_N) × (Nat → Int64))) t => mt_B g (mt_TW g c0 c1 c2 (ao, .inl (g.2.2.2 4, 1, .inr (.inl q.2.2.2.2.2))) x ar al q.1 q.2.1 (q.2.2.1 ++ va_pl q.2.2.2.1 (fun a => mt_nE (q.2.2.2.2.1 a)))) t) (mt_A g)) (3) (18) (mt_A g) := by
  refine va_MetW (cc := cXL_get) (maxL := 5) (ret := (some .int)) (hh := [(0, 10, 13, 13), (0, 10, 17, 21)]) (by decide) rfl ?_
  intro p e s m args below meth c s₁ B hml hv
  obtain ⟨rfl, hE, hz, hP, hD⟩ := hv
  have hx := B.exec
  have hb := B.bytes
  have hr := B.returns
  have hts := atoms_spec (ws := wsXL_get) B.pre
  have hown : s.vm.findClass RXL = some m.cls := findClass_of_methodNamed B.named
  have hlocks := B.notSynchronized
  have hK := hE.k
  have hA : ∀ q : Nat, s.heap.size ≤ q → mt_A g q := fun q h => Nat.le_trans hz h
  have hS : va_S (mt_A g) s.heap s.heap [] := va_S.rf
  have hl := lv_entry ([.ref x, .int v, .int k, .ref ao]) (n := 5) (Nat.le_of_ble_eq_true rfl)
  rw [lg_entry_eq]
  generalize (lg_sl ([.ref x, .int v, .int k, .ref ao]) ++ List.replicate (5 - (lg_sl ([.ref x, .int v, .int k, .ref ao])).length) Slot.unset).toArray = ls at hl ⊢
  have hl : lv_has ls 5 [(0, .ref x), (1, .int v), (2, .int k), (3, .ref ao)] := hl
  have hH : s.heap = s.heap := rfl
  have htab : c.exceptionTable.toList = [⟨0, 10, 13, 13⟩, ⟨0, 10, 17, 21⟩] := (vx_table (x := yXL_get) B (hts _ List.mem_cons_self)).trans rfl
  refine lv_aload_n hx hb dXL_get_0 rfl (lv_at hl 3 rfl) ?_
  refine lv_iconst (v := 0) hx hb dXL_get_1 (by decide +kernel) ?_
  refine lv_aload_n hx hb dXL_get_2 rfl (lv_at hl 0 rfl) ?_
  refine lv_iload_n hx hb dXL_get_3 rfl (lv_at hl 1 rfl) ?_
  refine lv_iload_n hx hb dXL_get_4 rfl (lv_at hl 2 rfl) ?_
  refine vx_calli (vx_runV (As := [.int v, .int k]) (rest := [.int 0, .ref ao]) ⟨hx, hb, hml, hown, hts⟩ (c_get l hl0 g _ 4 5 x ar al cn fr rfl rfl hcn LP nf mt_LW_pool tab hrep v k) (cwV 2 hts (mt_giV mw_323 mw_324 mw_325 mw_1 (mt_gi mw_326)) rfl rfl rfl (by decide +kernel) ⟨Nat.le_of_ble_eq_true rfl, Nat.le_of_ble_eq_true rfl⟩) (mt_preV hE hz hS hP hD (va_recv hK hP (q := (RXT, TXT, 3)) (q0 := 4) rfl rfl)) rfl rfl hl.1 rfl (lv_room (Nat.le_of_ble_eq_true rfl)) dXL_get_5 ⟨Nat.le_of_eq (Nat.zero_add _), Nat.le_of_eq (Nat.zero_add _)⟩) hS (fun _ _ h => h.elim) (fun _ h => h) (fun _ _ h => h.elim) (fun E ce q9 u t H locs ht hvm hpx hBX hz1 hk1 hS hce hcv hcl => ?_) (fun r u t H locs ht hvm hpo hB hz1 hk1 hS => ?_)
  · have hP := mt_keepP hk1 hP
    rcases hBX with ⟨rfl, hbx⟩ | ⟨rfl, hbx⟩
    · refine vx_catch (E := "java/lang/IndexOutOfBoundsException") (name := "java/lang/IndexOutOfBoundsException") hown [] ⟨0, 10, 13, 13⟩ [⟨0, 10, 17, 21⟩] htab (fun z hz9 => nomatch hz9) (by decide) (by decide) (hts _ (List.mem_cons_of_mem _ mw_110)) (va_Nw.use rfl (hE.w (.castable "java/lang/IndexOutOfBoundsException" "java/lang/IndexOutOfBoundsException") (by decide +kernel))) hce hcv hcl ?_
      refine lv_astore (i := 4) (lv' := [(4, .ref q9), (0, .ref x), (1, .int v), (2, .int k), (3, .ref ao)]) hx hb dXL_get_13 hl (by decide) rfl (fun ls hl => ?_)
      refine lv_iconst (v := 1) hx hb dXL_get_15 (by decide +kernel) ?_
      refine W.widen (k := 3) (n := 18) (Nat.le_of_eq (Nat.zero_add _)) (Nat.le_of_eq (Nat.zero_add _)) ?_
      exact W.iret (v := 1) hx hb hr (fun t9 ht hW => ⟨⟨1, (cn, fr, LL, LP, nf, fo), rfl, Or.inl (⟨rfl, hbx, rfl⟩), by rw [ht]; exact hP, hD⟩, hS.F ht⟩) hS.2.2 dXL_get_16
    · refine vx_catch (E := "java/util/NoSuchElementException") (name := "java/util/NoSuchElementException") hown [⟨0, 10, 13, 13⟩] ⟨0, 10, 17, 21⟩ [] htab (List.forall_mem_cons.mpr ⟨Or.inr ⟨by decide, "java/lang/IndexOutOfBoundsException", hts _ (List.mem_cons_of_mem _ mw_110), hE.nc "java/util/NoSuchElementException" "java/lang/IndexOutOfBoundsException" (by decide +kernel)⟩, fun z hz9 => nomatch hz9⟩) (by decide) (by decide) (hts _ (List.mem_cons_of_mem _ mw_291)) (va_Nw.use rfl (hE.w (.castable "java/util/NoSuchElementException" "java/util/NoSuchElementException") (by decide +kernel))) hce hcv hcl ?_
      refine lv_astore (i := 4) (lv' := [(4, .ref q9), (0, .ref x), (1, .int v), (2, .int k), (3, .ref ao)]) hx hb dXL_get_17 hl (by decide) rfl (fun ls hl => ?_)
      refine lv_iconst (v := (nI 2)) hx hb dXL_get_19 (by decide +kernel) ?_
      refine W.widen (k := 3) (n := 18) (Nat.le_of_eq (Nat.zero_add _)) (Nat.le_of_eq (Nat.zero_add _)) ?_
      exact W.iret (v := (nI 2)) hx hb hr (fun t9 ht hW => ⟨⟨(nI 2), (cn, fr, LL, LP, nf, fo), rfl, Or.inr (Or.inl (⟨rfl, hbx, rfl⟩)), by rw [ht]; exact hP, hD⟩, hS.F ht⟩) hS.2.2 dXL_get_20
  have hP := mt_keepP hk1 hP
  refine lv_i2l (v := r.toInt64) hx hb dXL_get_8 rfl ?_
  refine va_last (D := g.1) (cl := vwCl) hx hb hK hP hD hS 3 4 rfl rfl (show vp_in 0 1 by unfold vp_in; decide) dXL_get_9 (fun H locs hP hD hS => ?_)
  have hP : va_P g.1 vwCl (mt_TW g c0 c1 c2 (ao, .inl (g.2.2.2 4, 1, .inr (.inl (vp_updL fo 0 r.toInt64)))) x ar al cn fr (LL ++ va_pl LP (fun a => mt_nE (nf a)))) H := hP
  have hD : va_D (mt_A g) (mt_TW g c0 c1 c2 (ao, .inl (g.2.2.2 4, 1, .inr (.inl (vp_updL fo 0 r.toInt64)))) x ar al cn fr (LL ++ va_pl LP (fun a => mt_nE (nf a)))) := hD
  refine lv_goto (tgt := 21) hx hb dXL_get_10 (by decide) ?_
  refine lv_iconst (v := 0) hx hb dXL_get_21 (by decide +kernel) ?_
  refine W.widen (k := 3) (n := 18) (Nat.le_of_eq (Nat.zero_add _)) (Nat.le_of_eq (Nat.zero_add _)) ?_
  exact W.iret (v := 0) hx hb hr (fun t9 ht hW => ⟨⟨0, (cn, fr, LL, LP, nf, vp_updL fo 0 r.toInt64), rfl, Or.inr (Or.inr (⟨rfl, r, hpo, rfl⟩)), by rw [ht]; exact hP, hD⟩, hS.F ht⟩) hS.2.2 dXL_get_22
set_option maxHeartbeats 4000000 in
set_option maxRecDepth 100000 in
/-- the law: select -/
theorem c_L_select (l : Launch) (g : mt_G) (hl0 : l.stackTraces = false) (c0 c1 c2 : Nat × va_E) (ao : Nat) (fo : Nat → Int64) (x ar al cn : Nat) (fr : Nat → Option Nat) (n cap : Nat) (LL : va_W) (LP : List Nat) (nf : Nat → mt_N) (hLL : mt_LL g al LP n cap LL) (hlc : mt_lc n cap) (hn5 : n < 4900) (hok : ∀ a, a ∈ LP → mt_ok LP nf a) (tab : Nat → mt_T) (hrep : ∀ j, j < cn → mt_rep LP nf (tab j) 8 0 (fr j)) (hcn : cn ≤ 600) (v i : Int32) : Met l yXL_select wsXL_select ({ frames := 30, cells := 2, slots := 12, locals := 1000 }) (mt_Pc g (mt_TW g c0 c1 c2 (ao, .inl (g.2.2.2 4, 1, .inr (.inl fo))) x ar al cn fr (LL ++ va_pl LP (fun a => mt_nE (nf a)))) [.ref x, .int v, .int i, .ref ao]) (va_Qi (fun r (q : (Nat × (Nat → Option Nat) × va_W × List Nat × (Nat → mt_N) × (Nat → Int64))) => (r = 1 ∧ ¬ (∃ j, j < cn ∧ v = nI j ∧ 0 ≤ i ∧ i < nI (mt_c (tab j) 0 256)) ∧ q = (cn, fr, LL, LP, nf, fo)) ∨ (r = 0 ∧ ∃ z, (∃ j n k, j < cn ∧ v = nI j ∧ i = nI n ∧ n < 256 ∧ k < 256 ∧ z = nI k ∧ tab j k ≠ none ∧ mt_c (tab j) 0 k = n) ∧ q = (cn, fr, LL, LP, nf, vp_updL fo 0 (z.toInt64)))) (fun (q : (Nat × (Nat → Option Nat) × va_W × List Nat × (Nat → mt_N) × (Nat → Int64))) t => mt_B g (mt_TW g c0 c1 c2 (ao, .inl (g.2.2.2 4, 1, .inr (.inl q.2.2.2.2.2))) x ar al q.1 q.2.1 (q.2.2.1 ++ va_pl q.2.2.2.1 (fun a => mt_nE (q.2.2.2.2.1 a)))) t) (mt_A g)) (2) (12) (mt_A g) := by
  refine va_MetW (cc := cXL_select) (maxL := 5) (ret := (some .int)) (hh := [(0, 10, 13, 13)]) (by decide) rfl ?_
  intro p e s m args below meth c s₁ B hml hv
  obtain ⟨rfl, hE, hz, hP, hD⟩ := hv
  have hx := B.exec
  have hb := B.bytes
  have hr := B.returns
  have hts := atoms_spec (ws := wsXL_select) B.pre
  have hown : s.vm.findClass RXL = some m.cls := findClass_of_methodNamed B.named
  have hlocks := B.notSynchronized
  have hK := hE.k
  have hA : ∀ q : Nat, s.heap.size ≤ q → mt_A g q := fun q h => Nat.le_trans hz h
  have hS : va_S (mt_A g) s.heap s.heap [] := va_S.rf
  have hl := lv_entry ([.ref x, .int v, .int i, .ref ao]) (n := 5) (Nat.le_of_ble_eq_true rfl)
  rw [lg_entry_eq]
  generalize (lg_sl ([.ref x, .int v, .int i, .ref ao]) ++ List.replicate (5 - (lg_sl ([.ref x, .int v, .int i, .ref ao])).length) Slot.unset).toArray = ls at hl ⊢
  have hl : lv_has ls 5 [(0, .ref x), (1, .int v), (2, .int i), (3, .ref ao)] := hl
  have hH : s.heap = s.heap := rfl
  have htab : c.exceptionTable.toList = [⟨0, 10, 13, 13⟩] := (vx_table (x := yXL_select) B (hts _ List.mem_cons_self)).trans rfl
  refine lv_aload_n hx hb dXL_select_0 rfl (lv_at hl 3 rfl) ?_
  refine lv_iconst (v := 0) hx hb dXL_select_1 (by decide +kernel) ?_
  refine lv_aload_n hx hb dXL_select_2 rfl (lv_at hl 0 rfl) ?_
  refine lv_iload_n hx hb dXL_select_3 rfl (lv_at hl 1 rfl) ?_
  refine lv_iload_n hx hb dXL_select_4 rfl (lv_at hl 2 rfl) ?_
  refine vx_calli (vx_runV (As := [.int v, .int i]) (rest := [.int 0, .ref ao]) ⟨hx, hb, hml, hown, hts⟩ (c_select l hl0 g _ 4 5 x ar al cn fr rfl rfl hcn LP nf mt_LW_pool tab hrep v i) (cwV 2 hts (mt_giV mw_330 mw_331 mw_332 mw_1 (mt_gi mw_333)) rfl rfl rfl (by decide +kernel) ⟨Nat.le_of_ble_eq_true rfl, Nat.le_of_ble_eq_true rfl⟩) (mt_preV hE hz hS hP hD (va_recv hK hP (q := (RXT, TXT, 3)) (q0 := 4) rfl rfl)) rfl rfl hl.1 rfl (lv_room (Nat.le_of_ble_eq_true rfl)) dXL_select_5 ⟨Nat.le_of_eq (Nat.zero_add _), Nat.le_of_eq (Nat.zero_add _)⟩) hS (fun _ _ h => h.elim) (fun _ h => h) (fun _ _ h => h.elim) (fun E ce q9 u t H locs ht hvm hpx hBX hz1 hk1 hS hce hcv hcl => ?_) (fun r u t H locs ht hvm hpo hB hz1 hk1 hS => ?_)
  · have hP := mt_keepP hk1 hP
    obtain ⟨rfl, hbx⟩ := hBX
    refine vx_catch (E := "java/lang/IndexOutOfBoundsException") (name := "java/lang/IndexOutOfBoundsException") hown [] ⟨0, 10, 13, 13⟩ [] htab (fun z hz9 => nomatch hz9) (by decide) (by decide) (hts _ (List.mem_cons_of_mem _ mw_110)) (va_Nw.use rfl (hE.w (.castable "java/lang/IndexOutOfBoundsException" "java/lang/IndexOutOfBoundsException") (by decide +kernel))) hce hcv hcl ?_
    refine lv_astore (i := 4) (lv' := [(4, .ref q9), (0, .ref x), (1, .int v), (2, .int i), (3, .ref ao)]) hx hb dXL_select_13 hl (by decide) rfl (fun ls hl => ?_)
    refine lv_iconst (v := 1) hx hb dXL_select_15 (by decide +kernel) ?_
    refine W.widen (k := 2) (n := 12) (Nat.le_of_eq (Nat.zero_add _)) (Nat.le_of_eq (Nat.zero_add _)) ?_
    exact W.iret (v := 1) hx hb hr (fun t9 ht hW => ⟨⟨1, (cn, fr, LL, LP, nf, fo), rfl, Or.inl (⟨rfl, hbx, rfl⟩), by rw [ht]; exact hP, hD⟩, hS.F ht⟩) hS.2.2 dXL_select_16
  have hP := mt_keepP hk1 hP
  refine lv_i2l (v := r.toInt64) hx hb dXL_select_8 rfl ?_
  refine va_last (D := g.1) (cl := vwCl) hx hb hK hP hD hS 3 4 rfl rfl (show vp_in 0 1 by unfold vp_in; decide) dXL_select_9 (fun H locs hP hD hS => ?_)
  have hP : va_P g.1 vwCl (mt_TW g c0 c1 c2 (ao, .inl (g.2.2.2 4, 1, .inr (.inl (vp_updL fo 0 r.toInt64)))) x ar al cn fr (LL ++ va_pl LP (fun a => mt_nE (nf a)))) H := hP
  have hD : va_D (mt_A g) (mt_TW g c0 c1 c2 (ao, .inl (g.2.2.2 4, 1, .inr (.inl (vp_updL fo 0 r.toInt64)))) x ar al cn fr (LL ++ va_pl LP (fun a => mt_nE (nf a)))) := hD
  refine lv_goto (tgt := 17) hx hb dXL_select_10 (by decide) ?_
  refine lv_iconst (v := 0) hx hb dXL_select_17 (by decide +kernel) ?_
  refine W.widen (k := 2) (n := 12) (Nat.le_of_eq (Nat.zero_add _)) (Nat.le_of_eq (Nat.zero_add _)) ?_
  exact W.iret (v := 0) hx hb hr (fun t9 ht hW => ⟨⟨0, (cn, fr, LL, LP, nf, vp_updL fo 0 r.toInt64), rfl, Or.inr (⟨rfl, r, hpo, rfl⟩), by rw [ht]; exact hP, hD⟩, hS.F ht⟩) hS.2.2 dXL_select_18
set_option maxHeartbeats 4000000 in
set_option maxRecDepth 100000 in
/-- the law: many -/
theorem c_L_many (l : Launch) (g : mt_G) (hl0 : l.stackTraces = false) (c0 c1 c2 : Nat × va_E) (ao : Nat) (fo : Nat → Int64) (x ar al cn : Nat) (fr : Nat → Option Nat) (n cap : Nat) (LL : va_W) (LP : List Nat) (nf : Nat → mt_N) (hLL : mt_LL g al LP n cap LL) (hlc : mt_lc n cap) (hn5 : n < 4900) (hok : ∀ a, a ∈ LP → mt_ok LP nf a) (tab : Nat → mt_T) (hrep : ∀ j, j < cn → mt_rep LP nf (tab j) 8 0 (fr j)) (hcn : cn ≤ 600) (v a b : Int32) : Met l yXL_many wsXL_many ({ frames := 30, cells := 1, slots := 6, locals := 1000 }) (mt_Pc g (mt_TW g c0 c1 c2 (ao, .inl (g.2.2.2 4, 1, .inr (.inl fo))) x ar al cn fr (LL ++ va_pl LP (fun a => mt_nE (nf a)))) [.ref x, .int v, .int a, .int b, .ref ao]) (va_Qi (fun r (q : (Nat × (Nat → Option Nat) × va_W × List Nat × (Nat → mt_N) × (Nat → Int64))) => (r = 1 ∧ ¬ mt_ver v cn ∧ q = (cn, fr, LL, LP, nf, fo)) ∨ (r = 0 ∧ ∃ z, (∃ j, j < cn ∧ v = nI j ∧ z = nI (mt_m (tab j) (mt_cl a) (mt_cl b) 256)) ∧ q = (cn, fr, LL, LP, nf, vp_updL fo 0 (z.toInt64)))) (fun (q : (Nat × (Nat → Option Nat) × va_W × List Nat × (Nat → mt_N) × (Nat → Int64))) t => mt_B g (mt_TW g c0 c1 c2 (ao, .inl (g.2.2.2 4, 1, .inr (.inl q.2.2.2.2.2))) x ar al q.1 q.2.1 (q.2.2.1 ++ va_pl q.2.2.2.1 (fun a => mt_nE (q.2.2.2.2.1 a)))) t) (mt_A g)) (1) (6) (mt_A g) := by
  refine va_MetW (cc := cXL_many) (maxL := 6) (ret := (some .int)) (hh := [(0, 12, 15, 13)]) (by decide) rfl ?_
  intro p e s m args below meth c s₁ B hml hv
  obtain ⟨rfl, hE, hz, hP, hD⟩ := hv
  have hx := B.exec
  have hb := B.bytes
  have hr := B.returns
  have hts := atoms_spec (ws := wsXL_many) B.pre
  have hown : s.vm.findClass RXL = some m.cls := findClass_of_methodNamed B.named
  have hlocks := B.notSynchronized
  have hK := hE.k
  have hA : ∀ q : Nat, s.heap.size ≤ q → mt_A g q := fun q h => Nat.le_trans hz h
  have hS : va_S (mt_A g) s.heap s.heap [] := va_S.rf
  have hl := lv_entry ([.ref x, .int v, .int a, .int b, .ref ao]) (n := 6) (Nat.le_of_ble_eq_true rfl)
  rw [lg_entry_eq]
  generalize (lg_sl ([.ref x, .int v, .int a, .int b, .ref ao]) ++ List.replicate (6 - (lg_sl ([.ref x, .int v, .int a, .int b, .ref ao])).length) Slot.unset).toArray = ls at hl ⊢
  have hl : lv_has ls 6 [(0, .ref x), (1, .int v), (2, .int a), (3, .int b), (4, .ref ao)] := hl
  have hH : s.heap = s.heap := rfl
  have htab : c.exceptionTable.toList = [⟨0, 12, 15, 13⟩] := (vx_table (x := yXL_many) B (hts _ List.mem_cons_self)).trans rfl
  refine lv_aload hx hb dXL_many_0 (lv_at hl 4 rfl) ?_
  refine lv_iconst (v := 0) hx hb dXL_many_2 (by decide +kernel) ?_
  refine lv_aload_n hx hb dXL_many_3 rfl (lv_at hl 0 rfl) ?_
  refine lv_iload_n hx hb dXL_many_4 rfl (lv_at hl 1 rfl) ?_
  refine lv_iload_n hx hb dXL_many_5 rfl (lv_at hl 2 rfl) ?_
  refine lv_iload_n hx hb dXL_many_6 rfl (lv_at hl 3 rfl) ?_
  refine vx_calli (vx_runV (As := [.int v, .int a, .int b]) (rest := [.int 0, .ref ao]) ⟨hx, hb, hml, hown, hts⟩ (c_many l hl0 g _ 4 5 x ar al cn fr rfl rfl hcn LP nf mt_LW_pool tab hrep v a b) (cwV 3 hts (mt_giV mw_340 mw_341 mw_342 mw_1 (mt_gi mw_343)) rfl rfl rfl (by decide +kernel) ⟨Nat.le_of_ble_eq_true rfl, Nat.le_of_ble_eq_true rfl⟩) (mt_preV hE hz hS hP hD (va_recv hK hP (q := (RXT, TXT, 3)) (q0 := 4) rfl rfl)) rfl rfl hl.1 rfl (lv_room (Nat.le_of_ble_eq_true rfl)) dXL_many_7 ⟨Nat.le_of_eq (Nat.zero_add _), Nat.le_of_eq (Nat.zero_add _)⟩) hS (fun _ _ h => h.elim) (fun _ h => h) (fun _ _ h => h.elim) (fun E ce q9 u t H locs ht hvm hpx hBX hz1 hk1 hS hce hcv hcl => ?_) (fun r u t H locs ht hvm hpo hB hz1 hk1 hS => ?_)
  · have hP := mt_keepP hk1 hP
    obtain ⟨rfl, hbx⟩ := hBX
    refine vx_catch (E := "java/lang/IndexOutOfBoundsException") (name := "java/lang/IndexOutOfBoundsException") hown [] ⟨0, 12, 15, 13⟩ [] htab (fun z hz9 => nomatch hz9) (by decide) (by decide) (hts _ (List.mem_cons_of_mem _ mw_110)) (va_Nw.use rfl (hE.w (.castable "java/lang/IndexOutOfBoundsException" "java/lang/IndexOutOfBoundsException") (by decide +kernel))) hce hcv hcl ?_
    refine lv_astore (i := 5) (lv' := [(5, .ref q9), (0, .ref x), (1, .int v), (2, .int a), (3, .int b), (4, .ref ao)]) hx hb dXL_many_15 hl (by decide) rfl (fun ls hl => ?_)
    refine lv_iconst (v := 1) hx hb dXL_many_17 (by decide +kernel) ?_
    refine W.widen (k := 1) (n := 6) (Nat.le_of_eq (Nat.zero_add _)) (Nat.le_of_eq (Nat.zero_add _)) ?_
    exact W.iret (v := 1) hx hb hr (fun t9 ht hW => ⟨⟨1, (cn, fr, LL, LP, nf, fo), rfl, Or.inl (⟨rfl, hbx, rfl⟩), by rw [ht]; exact hP, hD⟩, hS.F ht⟩) hS.2.2 dXL_many_18
  have hP := mt_keepP hk1 hP
  refine lv_i2l (v := r.toInt64) hx hb dXL_many_10 rfl ?_
  refine va_last (D := g.1) (cl := vwCl) hx hb hK hP hD hS 3 4 rfl rfl (show vp_in 0 1 by unfold vp_in; decide) dXL_many_11 (fun H locs hP hD hS => ?_)
  have hP : va_P g.1 vwCl (mt_TW g c0 c1 c2 (ao, .inl (g.2.2.2 4, 1, .inr (.inl (vp_updL fo 0 r.toInt64)))) x ar al cn fr (LL ++ va_pl LP (fun a => mt_nE (nf a)))) H := hP
  have hD : va_D (mt_A g) (mt_TW g c0 c1 c2 (ao, .inl (g.2.2.2 4, 1, .inr (.inl (vp_updL fo 0 r.toInt64)))) x ar al cn fr (LL ++ va_pl LP (fun a => mt_nE (nf a)))) := hD
  refine lv_goto (tgt := 19) hx hb dXL_many_12 (by decide) ?_
  refine lv_iconst (v := 0) hx hb dXL_many_19 (by decide +kernel) ?_
  refine W.widen (k := 1) (n := 6) (Nat.le_of_eq (Nat.zero_add _)) (Nat.le_of_eq (Nat.zero_add _)) ?_
  exact W.iret (v := 0) hx hb hr (fun t9 ht hW => ⟨⟨0, (cn, fr, LL, LP, nf, vp_updL fo 0 r.toInt64), rfl, Or.inr (⟨rfl, r, hpo, rfl⟩), by rw [ht]; exact hP, hD⟩, hS.F ht⟩) hS.2.2 dXL_many_20
set_option maxHeartbeats 4000000 in
set_option maxRecDepth 100000 in
/-- the law: sum -/
theorem c_L_sum (l : Launch) (g : mt_G) (hl0 : l.stackTraces = false) (c0 c1 c2 : Nat × va_E) (ao : Nat) (fo : Nat → Int64) (x ar al cn : Nat) (fr : Nat → Option Nat) (n cap : Nat) (LL : va_W) (LP : List Nat) (nf : Nat → mt_N) (hLL : mt_LL g al LP n cap LL) (hlc : mt_lc n cap) (hn5 : n < 4900) (hok : ∀ a, a ∈ LP → mt_ok LP nf a) (tab : Nat → mt_T) (hrep : ∀ j, j < cn → mt_rep LP nf (tab j) 8 0 (fr j)) (hcn : cn ≤ 600) (v a b : Int32) : Met l yXL_sum wsXL_sum ({ frames := 30, cells := 1, slots := 6, locals := 1000 }) (mt_Pc g (mt_TW g c0 c1 c2 (ao, .inl (g.2.2.2 4, 1, .inr (.inl fo))) x ar al cn fr (LL ++ va_pl LP (fun a => mt_nE (nf a)))) [.ref x, .int v, .int a, .int b, .ref ao]) (va_Qi (fun r (q : (Nat × (Nat → Option Nat) × va_W × List Nat × (Nat → mt_N) × (Nat → Int64))) => (r = 1 ∧ ¬ mt_ver v cn ∧ q = (cn, fr, LL, LP, nf, fo)) ∨ (r = 0 ∧ ∃ z, (∃ j, j < cn ∧ v = nI j ∧ z = mt_ms (tab j) (mt_cl a) (mt_cl b) 256) ∧ q = (cn, fr, LL, LP, nf, vp_updL fo 0 (z)))) (fun (q : (Nat × (Nat → Option Nat) × va_W × List Nat × (Nat → mt_N) × (Nat → Int64))) t => mt_B g (mt_TW g c0 c1 c2 (ao, .inl (g.2.2.2 4, 1, .inr (.inl q.2.2.2.2.2))) x ar al q.1 q.2.1 (q.2.2.1 ++ va_pl q.2.2.2.1 (fun a => mt_nE (q.2.2.2.2.1 a)))) t) (mt_A g)) (1) (6) (mt_A g) := by
  refine va_MetW (cc := cXL_sum) (maxL := 6) (ret := (some .int)) (hh := [(0, 11, 14, 13)]) (by decide) rfl ?_
  intro p e s m args below meth c s₁ B hml hv
  obtain ⟨rfl, hE, hz, hP, hD⟩ := hv
  have hx := B.exec
  have hb := B.bytes
  have hr := B.returns
  have hts := atoms_spec (ws := wsXL_sum) B.pre
  have hown : s.vm.findClass RXL = some m.cls := findClass_of_methodNamed B.named
  have hlocks := B.notSynchronized
  have hK := hE.k
  have hA : ∀ q : Nat, s.heap.size ≤ q → mt_A g q := fun q h => Nat.le_trans hz h
  have hS : va_S (mt_A g) s.heap s.heap [] := va_S.rf
  have hl := lv_entry ([.ref x, .int v, .int a, .int b, .ref ao]) (n := 6) (Nat.le_of_ble_eq_true rfl)
  rw [lg_entry_eq]
  generalize (lg_sl ([.ref x, .int v, .int a, .int b, .ref ao]) ++ List.replicate (6 - (lg_sl ([.ref x, .int v, .int a, .int b, .ref ao])).length) Slot.unset).toArray = ls at hl ⊢
  have hl : lv_has ls 6 [(0, .ref x), (1, .int v), (2, .int a), (3, .int b), (4, .ref ao)] := hl
  have hH : s.heap = s.heap := rfl
  have htab : c.exceptionTable.toList = [⟨0, 11, 14, 13⟩] := (vx_table (x := yXL_sum) B (hts _ List.mem_cons_self)).trans rfl
  refine lv_aload hx hb dXL_sum_0 (lv_at hl 4 rfl) ?_
  refine lv_iconst (v := 0) hx hb dXL_sum_2 (by decide +kernel) ?_
  refine lv_aload_n hx hb dXL_sum_3 rfl (lv_at hl 0 rfl) ?_
  refine lv_iload_n hx hb dXL_sum_4 rfl (lv_at hl 1 rfl) ?_
  refine lv_iload_n hx hb dXL_sum_5 rfl (lv_at hl 2 rfl) ?_
  refine lv_iload_n hx hb dXL_sum_6 rfl (lv_at hl 3 rfl) ?_
  refine vx_calll (vx_runV (As := [.int v, .int a, .int b]) (rest := [.int 0, .ref ao]) ⟨hx, hb, hml, hown, hts⟩ (c_sum l hl0 g _ 4 5 x ar al cn fr rfl rfl hcn LP nf mt_LW_pool tab hrep v a b) (cwV 3 hts (mt_giV mw_350 mw_351 mw_352 mw_1 (mt_gi mw_353)) rfl rfl rfl (by decide +kernel) ⟨Nat.le_of_ble_eq_true rfl, Nat.le_of_ble_eq_true rfl⟩) (mt_preV hE hz hS hP hD (va_recv hK hP (q := (RXT, TXT, 3)) (q0 := 4) rfl rfl)) rfl rfl hl.1 rfl (lv_room (Nat.le_of_ble_eq_true rfl)) dXL_sum_7 ⟨Nat.le_of_eq (Nat.zero_add _), Nat.le_of_eq (Nat.zero_add _)⟩) hS (fun _ _ h => h.elim) (fun _ h => h) (fun _ _ h => h.elim) (fun E ce q9 u t H locs ht hvm hpx hBX hz1 hk1 hS hce hcv hcl => ?_) (fun r u t H locs ht hvm hpo hB hz1 hk1 hS => ?_)
  · have hP := mt_keepP hk1 hP
    obtain ⟨rfl, hbx⟩ := hBX
    refine vx_catch (E := "java/lang/IndexOutOfBoundsException") (name := "java/lang/IndexOutOfBoundsException") hown [] ⟨0, 11, 14, 13⟩ [] htab (fun z hz9 => nomatch hz9) (by decide) (by decide) (hts _ (List.mem_cons_of_mem _ mw_110)) (va_Nw.use rfl (hE.w (.castable "java/lang/IndexOutOfBoundsException" "java/lang/IndexOutOfBoundsException") (by decide +kernel))) hce hcv hcl ?_
    refine lv_astore (i := 5) (lv' := [(5, .ref q9), (0, .ref x), (1, .int v), (2, .int a), (3, .int b), (4, .ref ao)]) hx hb dXL_sum_14 hl (by decide) rfl (fun ls hl => ?_)
    refine lv_iconst (v := 1) hx hb dXL_sum_16 (by decide +kernel) ?_
    refine W.widen (k := 1) (n := 6) (Nat.le_of_eq (Nat.zero_add _)) (Nat.le_of_eq (Nat.zero_add _)) ?_
    exact W.iret (v := 1) hx hb hr (fun t9 ht hW => ⟨⟨1, (cn, fr, LL, LP, nf, fo), rfl, Or.inl (⟨rfl, hbx, rfl⟩), by rw [ht]; exact hP, hD⟩, hS.F ht⟩) hS.2.2 dXL_sum_17
  have hP := mt_keepP hk1 hP
  refine va_last (D := g.1) (cl := vwCl) hx hb hK hP hD hS 3 4 rfl rfl (show vp_in 0 1 by unfold vp_in; decide) dXL_sum_10 (fun H locs hP hD hS => ?_)
  have hP : va_P g.1 vwCl (mt_TW g c0 c1 c2 (ao, .inl (g.2.2.2 4, 1, .inr (.inl (vp_updL fo 0 r)))) x ar al cn fr (LL ++ va_pl LP (fun a => mt_nE (nf a)))) H := hP
  have hD : va_D (mt_A g) (mt_TW g c0 c1 c2 (ao, .inl (g.2.2.2 4, 1, .inr (.inl (vp_updL fo 0 r)))) x ar al cn fr (LL ++ va_pl LP (fun a => mt_nE (nf a)))) := hD
  refine lv_goto (tgt := 18) hx hb dXL_sum_11 (by decide) ?_
  refine lv_iconst (v := 0) hx hb dXL_sum_18 (by decide +kernel) ?_
  refine W.widen (k := 1) (n := 6) (Nat.le_of_eq (Nat.zero_add _)) (Nat.le_of_eq (Nat.zero_add _)) ?_
  exact W.iret (v := 0) hx hb hr (fun t9 ht hW => ⟨⟨0, (cn, fr, LL, LP, nf, vp_updL fo 0 r), rfl, Or.inr (⟨rfl, r, hpo, rfl⟩), by rw [ht]; exact hP, hD⟩, hS.F ht⟩) hS.2.2 dXL_sum_19
set_option maxHeartbeats 4000000 in
set_option maxRecDepth 100000 in
/-- the law: differ -/
theorem c_L_differ (l : Launch) (g : mt_G) (hl0 : l.stackTraces = false) (c0 c1 c2 : Nat × va_E) (ao : Nat) (fo : Nat → Int64) (x ar al cn : Nat) (fr : Nat → Option Nat) (n cap : Nat) (LL : va_W) (LP : List Nat) (nf : Nat → mt_N) (hLL : mt_LL g al LP n cap LL) (hlc : mt_lc n cap) (hn5 : n < 4900) (hok : ∀ a, a ∈ LP → mt_ok LP nf a) (tab : Nat → mt_T) (hrep : ∀ j, j < cn → mt_rep LP nf (tab j) 8 0 (fr j)) (hcn : cn ≤ 600) (v w : Int32) : Met l yXL_differ wsXL_differ ({ frames := 30, cells := 2, slots := 12, locals := 1000 }) (mt_Pc g (mt_TW g c0 c1 c2 (ao, .inl (g.2.2.2 4, 1, .inr (.inl fo))) x ar al cn fr (LL ++ va_pl LP (fun a => mt_nE (nf a)))) [.ref x, .int v, .int w, .ref ao]) (va_Qi (fun r (q : (Nat × (Nat → Option Nat) × va_W × List Nat × (Nat → mt_N) × (Nat → Int64))) => (r = 1 ∧ ¬ (mt_ver v cn ∧ mt_ver w cn) ∧ q = (cn, fr, LL, LP, nf, fo)) ∨ (r = 0 ∧ ∃ z, (∃ j i, j < cn ∧ i < cn ∧ v = nI j ∧ w = nI i ∧ z = nI (mt_d (tab j) (tab i) 0 256)) ∧ q = (cn, fr, LL, LP, nf, vp_updL fo 0 (z.toInt64)))) (fun (q : (Nat × (Nat → Option Nat) × va_W × List Nat × (Nat → mt_N) × (Nat → Int64))) t => mt_B g (mt_TW g c0 c1 c2 (ao, .inl (g.2.2.2 4, 1, .inr (.inl q.2.2.2.2.2))) x ar al q.1 q.2.1 (q.2.2.1 ++ va_pl q.2.2.2.1 (fun a => mt_nE (q.2.2.2.2.1 a)))) t) (mt_A g)) (2) (12) (mt_A g) := by
  refine va_MetW (cc := cXL_differ) (maxL := 5) (ret := (some .int)) (hh := [(0, 10, 13, 13)]) (by decide) rfl ?_
  intro p e s m args below meth c s₁ B hml hv
  obtain ⟨rfl, hE, hz, hP, hD⟩ := hv
  have hx := B.exec
  have hb := B.bytes
  have hr := B.returns
  have hts := atoms_spec (ws := wsXL_differ) B.pre
  have hown : s.vm.findClass RXL = some m.cls := findClass_of_methodNamed B.named
  have hlocks := B.notSynchronized
  have hK := hE.k
  have hA : ∀ q : Nat, s.heap.size ≤ q → mt_A g q := fun q h => Nat.le_trans hz h
  have hS : va_S (mt_A g) s.heap s.heap [] := va_S.rf
  have hl := lv_entry ([.ref x, .int v, .int w, .ref ao]) (n := 5) (Nat.le_of_ble_eq_true rfl)
  rw [lg_entry_eq]
  generalize (lg_sl ([.ref x, .int v, .int w, .ref ao]) ++ List.replicate (5 - (lg_sl ([.ref x, .int v, .int w, .ref ao])).length) Slot.unset).toArray = ls at hl ⊢
  have hl : lv_has ls 5 [(0, .ref x), (1, .int v), (2, .int w), (3, .ref ao)] := hl
  have hH : s.heap = s.heap := rfl
  have htab : c.exceptionTable.toList = [⟨0, 10, 13, 13⟩] := (vx_table (x := yXL_differ) B (hts _ List.mem_cons_self)).trans rfl
  refine lv_aload_n hx hb dXL_differ_0 rfl (lv_at hl 3 rfl) ?_
  refine lv_iconst (v := 0) hx hb dXL_differ_1 (by decide +kernel) ?_
  refine lv_aload_n hx hb dXL_differ_2 rfl (lv_at hl 0 rfl) ?_
  refine lv_iload_n hx hb dXL_differ_3 rfl (lv_at hl 1 rfl) ?_
  refine lv_iload_n hx hb dXL_differ_4 rfl (lv_at hl 2 rfl) ?_
  refine vx_calli (vx_runV (As := [.int v, .int w]) (rest := [.int 0, .ref ao]) ⟨hx, hb, hml, hown, hts⟩ (c_differ l hl0 g _ 4 5 x ar al cn fr rfl rfl hcn LP nf mt_LW_pool tab hrep v w) (cwV 2 hts (mt_giV mw_360 mw_361 mw_362 mw_1 (mt_gi mw_363)) rfl rfl rfl (by decide +kernel) ⟨Nat.le_of_ble_eq_true rfl, Nat.le_of_ble_eq_true rfl⟩) (mt_preV hE hz hS hP hD (va_recv hK hP (q := (RXT, TXT, 3)) (q0 := 4) rfl rfl)) rfl rfl hl.1 rfl (lv_room (Nat.le_of_ble_eq_true rfl)) dXL_differ_5 ⟨Nat.le_of_eq (Nat.zero_add _), Nat.le_of_eq (Nat.zero_add _)⟩) hS (fun _ _ h => h.elim) (fun _ h => h) (fun _ _ h => h.elim) (fun E ce q9 u t H locs ht hvm hpx hBX hz1 hk1 hS hce hcv hcl => ?_) (fun r u t H locs ht hvm hpo hB hz1 hk1 hS => ?_)
  · have hP := mt_keepP hk1 hP
    obtain ⟨rfl, hbx⟩ := hBX
    refine vx_catch (E := "java/lang/IndexOutOfBoundsException") (name := "java/lang/IndexOutOfBoundsException") hown [] ⟨0, 10, 13, 13⟩ [] htab (fun z hz9 => nomatch hz9) (by decide) (by decide) (hts _ (List.mem_cons_of_mem _ mw_110)) (va_Nw.use rfl (hE.w (.castable "java/lang/IndexOutOfBoundsException" "java/lang/IndexOutOfBoundsException") (by decide +kernel))) hce hcv hcl ?_
    refine lv_astore (i := 4) (lv' := [(4, .ref q9), (0, .ref x), (1, .int v), (2, .int w), (3, .ref ao)]) hx hb dXL_differ_13 hl (by decide) rfl (fun ls hl => ?_)
    refine lv_iconst (v := 1) hx hb dXL_differ_15 (by decide +kernel) ?_
    refine W.widen (k := 2) (n := 12) (Nat.le_of_eq (Nat.zero_add _)) (Nat.le_of_eq (Nat.zero_add _)) ?_
    exact W.iret (v := 1) hx hb hr (fun t9 ht hW => ⟨⟨1, (cn, fr, LL, LP, nf, fo), rfl, Or.inl (⟨rfl, hbx, rfl⟩), by rw [ht]; exact hP, hD⟩, hS.F ht⟩) hS.2.2 dXL_differ_16
  have hP := mt_keepP hk1 hP
  refine lv_i2l (v := r.toInt64) hx hb dXL_differ_8 rfl ?_
  refine va_last (D := g.1) (cl := vwCl) hx hb hK hP hD hS 3 4 rfl rfl (show vp_in 0 1 by unfold vp_in; decide) dXL_differ_9 (fun H locs hP hD hS => ?_)
  have hP : va_P g.1 vwCl (mt_TW g c0 c1 c2 (ao, .inl (g.2.2.2 4, 1, .inr (.inl (vp_updL fo 0 r.toInt64)))) x ar al cn fr (LL ++ va_pl LP (fun a => mt_nE (nf a)))) H := hP
  have hD : va_D (mt_A g) (mt_TW g c0 c1 c2 (ao, .inl (g.2.2.2 4, 1, .inr (.inl (vp_updL fo 0 r.toInt64)))) x ar al cn fr (LL ++ va_pl LP (fun a => mt_nE (nf a)))) := hD
  refine lv_goto (tgt := 17) hx hb dXL_differ_10 (by decide) ?_
  refine lv_iconst (v := 0) hx hb dXL_differ_17 (by decide +kernel) ?_
  refine W.widen (k := 2) (n := 12) (Nat.le_of_eq (Nat.zero_add _)) (Nat.le_of_eq (Nat.zero_add _)) ?_
  exact W.iret (v := 0) hx hb hr (fun t9 ht hW => ⟨⟨0, (cn, fr, LL, LP, nf, vp_updL fo 0 r.toInt64), rfl, Or.inr (⟨rfl, r, hpo, rfl⟩), by rw [ht]; exact hP, hD⟩, hS.F ht⟩) hS.2.2 dXL_differ_18
set_option maxHeartbeats 4000000 in
set_option maxRecDepth 100000 in
/-- the law: digest -/
theorem c_L_digest (l : Launch) (g : mt_G) (hl0 : l.stackTraces = false) (c0 c1 c2 : Nat × va_E) (ao : Nat) (fo : Nat → Int64) (x ar al cn : Nat) (fr : Nat → Option Nat) (n cap : Nat) (LL : va_W) (LP : List Nat) (nf : Nat → mt_N) (hLL : mt_LL g al LP n cap LL) (hlc : mt_lc n cap) (hn5 : n < 4900) (hok : ∀ a, a ∈ LP → mt_ok LP nf a) (tab : Nat → mt_T) (hrep : ∀ j, j < cn → mt_rep LP nf (tab j) 8 0 (fr j)) (hcn : cn ≤ 600) (v : Int32) : Met l yXL_digest wsXL_digest ({ frames := 30, cells := 1, slots := 6, locals := 1000 }) (mt_Pc g (mt_TW g c0 c1 c2 (ao, .inl (g.2.2.2 4, 1, .inr (.inl fo))) x ar al cn fr (LL ++ va_pl LP (fun a => mt_nE (nf a)))) [.ref x, .int v, .ref ao]) (va_Qi (fun r (q : (Nat × (Nat → Option Nat) × va_W × List Nat × (Nat → mt_N) × (Nat → Int64))) => (r = 1 ∧ ¬ mt_ver v cn ∧ q = (cn, fr, LL, LP, nf, fo)) ∨ (r = 0 ∧ ∃ z, (∃ j, j < cn ∧ v = nI j ∧ z = mt_g (tab j) 0 7 256) ∧ q = (cn, fr, LL, LP, nf, vp_updL fo 0 (z)))) (fun (q : (Nat × (Nat → Option Nat) × va_W × List Nat × (Nat → mt_N) × (Nat → Int64))) t => mt_B g (mt_TW g c0 c1 c2 (ao, .inl (g.2.2.2 4, 1, .inr (.inl q.2.2.2.2.2))) x ar al q.1 q.2.1 (q.2.2.1 ++ va_pl q.2.2.2.1 (fun a => mt_nE (q.2.2.2.2.1 a)))) t) (mt_A g)) (1) (6) (mt_A g) := by
  refine va_MetW (cc := cXL_digest) (maxL := 4) (ret := (some .int)) (hh := [(0, 8, 11, 13)]) (by decide) rfl ?_
  intro p e s m args below meth c s₁ B hml hv
  obtain ⟨rfl, hE, hz, hP, hD⟩ := hv
  have hx := B.exec
  have hb := B.bytes
  have hr := B.returns
  have hts := atoms_spec (ws := wsXL_digest) B.pre
  have hown : s.vm.findClass RXL = some m.cls := findClass_of_methodNamed B.named
  have hlocks := B.notSynchronized
  have hK := hE.k
  have hA : ∀ q : Nat, s.heap.size ≤ q → mt_A g q := fun q h => Nat.le_trans hz h
  have hS : va_S (mt_A g) s.heap s.heap [] := va_S.rf
  have hl := lv_entry ([.ref x, .int v, .ref ao]) (n := 4) (Nat.le_of_ble_eq_true rfl)
  rw [lg_entry_eq]
  generalize (lg_sl ([.ref x, .int v, .ref ao]) ++ List.replicate (4 - (lg_sl ([.ref x, .int v, .ref ao])).length) Slot.unset).toArray = ls at hl ⊢
  have hl : lv_has ls 4 [(0, .ref x), (1, .int v), (2, .ref ao)] := hl
  have hH : s.heap = s.heap := rfl
  have htab : c.exceptionTable.toList = [⟨0, 8, 11, 13⟩] := (vx_table (x := yXL_digest) B (hts _ List.mem_cons_self)).trans rfl
  refine lv_aload_n hx hb dXL_digest_0 rfl (lv_at hl 2 rfl) ?_
  refine lv_iconst (v := 0) hx hb dXL_digest_1 (by decide +kernel) ?_
  refine lv_aload_n hx hb dXL_digest_2 rfl (lv_at hl 0 rfl) ?_
  refine lv_iload_n hx hb dXL_digest_3 rfl (lv_at hl 1 rfl) ?_
  refine vx_calll (vx_runV (As := [.int v]) (rest := [.int 0, .ref ao]) ⟨hx, hb, hml, hown, hts⟩ (c_digest l hl0 g _ 4 5 x ar al cn fr rfl rfl hcn LP nf mt_LW_pool tab hrep v) (cwV 1 hts (mt_giV mw_370 mw_371 mw_372 mw_1 (mt_gi mw_373)) rfl rfl rfl (by decide +kernel) ⟨Nat.le_of_ble_eq_true rfl, Nat.le_of_ble_eq_true rfl⟩) (mt_preV hE hz hS hP hD (va_recv hK hP (q := (RXT, TXT, 3)) (q0 := 4) rfl rfl)) rfl rfl hl.1 rfl (lv_room (Nat.le_of_ble_eq_true rfl)) dXL_digest_4 ⟨Nat.le_of_eq (Nat.zero_add _), Nat.le_of_eq (Nat.zero_add _)⟩) hS (fun _ _ h => h.elim) (fun _ h => h) (fun _ _ h => h.elim) (fun E ce q9 u t H locs ht hvm hpx hBX hz1 hk1 hS hce hcv hcl => ?_) (fun r u t H locs ht hvm hpo hB hz1 hk1 hS => ?_)
  · have hP := mt_keepP hk1 hP
    obtain ⟨rfl, hbx⟩ := hBX
    refine vx_catch (E := "java/lang/IndexOutOfBoundsException") (name := "java/lang/IndexOutOfBoundsException") hown [] ⟨0, 8, 11, 13⟩ [] htab (fun z hz9 => nomatch hz9) (by decide) (by decide) (hts _ (List.mem_cons_of_mem _ mw_110)) (va_Nw.use rfl (hE.w (.castable "java/lang/IndexOutOfBoundsException" "java/lang/IndexOutOfBoundsException") (by decide +kernel))) hce hcv hcl ?_
    refine lv_astore_n (i := 3) (lv' := [(3, .ref q9), (0, .ref x), (1, .int v), (2, .ref ao)]) hx hb dXL_digest_11 rfl hl (by decide) rfl (fun ls hl => ?_)
    refine lv_iconst (v := 1) hx hb dXL_digest_12 (by decide +kernel) ?_
    refine W.widen (k := 1) (n := 6) (Nat.le_of_eq (Nat.zero_add _)) (Nat.le_of_eq (Nat.zero_add _)) ?_
    exact W.iret (v := 1) hx hb hr (fun t9 ht hW => ⟨⟨1, (cn, fr, LL, LP, nf, fo), rfl, Or.inl (⟨rfl, hbx, rfl⟩), by rw [ht]; exact hP, hD⟩, hS.F ht⟩) hS.2.2 dXL_digest_13
  have hP := mt_keepP hk1 hP
  refine va_last (D := g.1) (cl := vwCl) hx hb hK hP hD hS 3 4 rfl rfl (show vp_in 0 1 by unfold vp_in; decide) dXL_digest_7 (fun H locs hP hD hS => ?_)
  have hP : va_P g.1 vwCl (mt_TW g c0 c1 c2 (ao, .inl (g.2.2.2 4, 1, .inr (.inl (vp_updL fo 0 r)))) x ar al cn fr (LL ++ va_pl LP (fun a => mt_nE (nf a)))) H := hP
  have hD : va_D (mt_A g) (mt_TW g c0 c1 c2 (ao, .inl (g.2.2.2 4, 1, .inr (.inl (vp_updL fo 0 r)))) x ar al cn fr (LL ++ va_pl LP (fun a => mt_nE (nf a)))) := hD
  refine lv_goto (tgt := 14) hx hb dXL_digest_8 (by decide) ?_
  refine lv_iconst (v := 0) hx hb dXL_digest_14 (by decide +kernel) ?_
  refine W.widen (k := 1) (n := 6) (Nat.le_of_eq (Nat.zero_add _)) (Nat.le_of_eq (Nat.zero_add _)) ?_
  exact W.iret (v := 0) hx hb hr (fun t9 ht hW => ⟨⟨0, (cn, fr, LL, LP, nf, vp_updL fo 0 r), rfl, Or.inr (⟨rfl, r, hpo, rfl⟩), by rw [ht]; exact hP, hD⟩, hS.F ht⟩) hS.2.2 dXL_digest_15
