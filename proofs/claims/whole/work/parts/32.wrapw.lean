set_option maxHeartbeats 4000000 in
set_option maxRecDepth 100000 in
/-- the law: put -/
theorem c_L_put (l : Launch) (g : mt_G) (hl0 : l.stackTraces = false) (c0 c1 c2 : Nat × va_E) (ao : Nat) (fo : Nat → Int64) (x ar al cn : Nat) (fr : Nat → Option Nat) (n cap : Nat) (LL : va_W) (LP : List Nat) (nf : Nat → mt_N) (hLL : mt_LL g al LP n cap LL) (hlc : mt_lc n cap) (hn5 : n < 4900) (hok : ∀ a, a ∈ LP → mt_ok LP nf a) (tab : Nat → mt_T) (hrep : ∀ j, j < cn → mt_rep LP nf (tab j) 8 0 (fr j)) (hcn : cn ≤ 600) (v k xv : Int32) (j i : Nat) (hj : mt_ver v cn → v = nI j ∧ j < cn) (hi : mt_key k → k = nI i ∧ i < 256) : Met l yXL_put wsXL_put ({ frames := 30, cells := 5 + 2 * mt_na (mt_put (tab j) i xv) i 8, slots := 25 + mt_gr1 n cap + (7 * mt_na (mt_put (tab j) i xv) i 8 + mt_gr (n + 1) (mt_cap1 n cap) (mt_na (mt_put (tab j) i xv) i 8)), locals := 1000 }) (mt_Pc g (mt_TW g c0 c1 c2 (ao, .inl (g.2.2.2 4, 1, .inr (.inl fo))) x ar al cn fr (LL ++ va_pl LP (fun a => mt_nE (nf a)))) [.ref x, .int v, .int k, .int xv, .ref ao]) (va_Qi (fun r (q : (Nat × (Nat → Option Nat) × va_W × List Nat × (Nat → mt_N) × (Nat → Int64))) => (r = 1 ∧ ¬ (mt_ver v cn ∧ mt_key k) ∧ q = (cn, fr, LL, LP, nf, fo)) ∨ (r = 2 ∧ (mt_ver v cn ∧ mt_key k) ∧ cn = 600 ∧ q = (cn, fr, LL, LP, nf, fo)) ∨ (r = 0 ∧ (mt_ver v cn ∧ mt_key k) ∧ cn < 600 ∧ ∃ LL1 LP1 nf1 rt, q = (cn + 1, va_up fr cn rt, LL1, LP1, nf1, vp_updL fo 0 (nI cn).toInt64) ∧ mt_LL g al LP1 ((n + 1) + mt_na (mt_put (tab j) i xv) i 8) (mt_cap (n + 1) (mt_cap1 n cap) (mt_na (mt_put (tab j) i xv) i 8)) LL1 ∧ (∀ a, a ∈ LP → a ∈ LP1 ∧ nf1 a = nf a) ∧ (∀ a, a ∈ LP1 → mt_ok LP1 nf1 a) ∧ mt_rep LP1 nf1 (mt_put (tab j) i xv) 8 0 rt)) (fun (q : (Nat × (Nat → Option Nat) × va_W × List Nat × (Nat → mt_N) × (Nat → Int64))) t => mt_B g (mt_TW g c0 c1 c2 (ao, .inl (g.2.2.2 4, 1, .inr (.inl q.2.2.2.2.2))) x ar al q.1 q.2.1 (q.2.2.1 ++ va_pl q.2.2.2.1 (fun a => mt_nE (q.2.2.2.2.1 a)))) t) (mt_A g)) (5 + 2 * mt_na (mt_put (tab j) i xv) i 8) (25 + mt_gr1 n cap + (7 * mt_na (mt_put (tab j) i xv) i 8 + mt_gr (n + 1) (mt_cap1 n cap) (mt_na (mt_put (tab j) i xv) i 8))) (mt_A g) := by
  refine va_MetW (cc := cXL_put) (maxL := 6) (ret := (some .int)) (hh := [(0, 12, 15, 13), (0, 12, 19, 15)]) (by decide) rfl ?_
  intro p e s m args below meth c s₁ B hml hv
  obtain ⟨rfl, hE, hz, hP, hD⟩ := hv
  have hx := B.exec
  have hb := B.bytes
  have hr := B.returns
  have hts := atoms_spec (ws := wsXL_put) B.pre
  have hown : s.vm.findClass RXL = some m.cls := findClass_of_methodNamed B.named
  have hlocks := B.notSynchronized
  have hK := hE.k
  have hA : ∀ q : Nat, s.heap.size ≤ q → mt_A g q := fun q h => Nat.le_trans hz h
  have hS : va_S (mt_A g) s.heap s.heap [] := va_S.rf
  have hl := lv_entry ([.ref x, .int v, .int k, .int xv, .ref ao]) (n := 6) (Nat.le_of_ble_eq_true rfl)
  rw [lg_entry_eq]
  generalize (lg_sl ([.ref x, .int v, .int k, .int xv, .ref ao]) ++ List.replicate (6 - (lg_sl ([.ref x, .int v, .int k, .int xv, .ref ao])).length) Slot.unset).toArray = ls at hl ⊢
  have hl : lv_has ls 6 [(0, .ref x), (1, .int v), (2, .int k), (3, .int xv), (4, .ref ao)] := hl
  have hH : s.heap = s.heap := rfl
  have htab : c.exceptionTable.toList = [⟨0, 12, 15, 13⟩, ⟨0, 12, 19, 15⟩] := (vx_table (x := yXL_put) B (hts _ List.mem_cons_self)).trans rfl
  refine lv_aload hx hb dXL_put_0 (lv_at hl 4 rfl) ?_
  refine lv_iconst (v := 0) hx hb dXL_put_2 (by decide +kernel) ?_
  refine lv_aload_n hx hb dXL_put_3 rfl (lv_at hl 0 rfl) ?_
  refine lv_iload_n hx hb dXL_put_4 rfl (lv_at hl 1 rfl) ?_
  refine lv_iload_n hx hb dXL_put_5 rfl (lv_at hl 2 rfl) ?_
  refine lv_iload_n hx hb dXL_put_6 rfl (lv_at hl 3 rfl) ?_
  refine vx_calli (vx_runV (As := [.int v, .int k, .int xv]) (rest := [.int 0, .ref ao]) ⟨hx, hb, hml, hown, hts⟩ (c_put l hl0 g c0 c1 c2 (ao, .inl (g.2.2.2 4, 1, .inr (.inl fo))) x ar al cn fr n cap LL LP nf hLL hlc hn5 hok tab hrep hcn v k xv j i hj hi) (cwV 3 hts (mt_giV mw_112 mw_113 mw_114 mw_1 (mt_gi mw_115)) rfl rfl rfl (by decide +kernel) ⟨Nat.le_of_ble_eq_true rfl, Nat.le_of_ble_eq_true rfl⟩) (mt_preV hE hz hS hP hD (va_recv hK hP (q := (RXT, TXT, 3)) (q0 := 4) rfl rfl)) rfl rfl hl.1 rfl (lv_room (Nat.le_of_ble_eq_true rfl)) dXL_put_7 ⟨Nat.le_of_eq (Nat.zero_add _), Nat.le_of_eq (Nat.zero_add _)⟩) hS (fun _ _ h => h) (fun _ h => h) (fun _ _ h => h.elim) (fun E ce q9 u t H locs ht hvm hpx hBX hz1 hk1 hS hce hcv hcl => ?_) (fun r u t H locs ht hvm hpo hB hz1 hk1 hS => ?_)
  · have hP := mt_keepP hk1 hP
    rcases hBX with ⟨rfl, hbx⟩ | ⟨rfl, hbx⟩
    · refine vx_catch (E := "java/lang/IndexOutOfBoundsException") (name := "java/lang/IndexOutOfBoundsException") hown [] ⟨0, 12, 15, 13⟩ [⟨0, 12, 19, 15⟩] htab (fun z hz9 => nomatch hz9) (by decide) (by decide) (hts _ (List.mem_cons_of_mem _ mw_110)) (va_Nw.use rfl (hE.w (.castable "java/lang/IndexOutOfBoundsException" "java/lang/IndexOutOfBoundsException") (by decide +kernel))) hce hcv hcl ?_
      refine lv_astore (i := 5) (lv' := [(5, .ref q9), (0, .ref x), (1, .int v), (2, .int k), (3, .int xv), (4, .ref ao)]) hx hb dXL_put_15 hl (by decide) rfl (fun ls hl => ?_)
      refine lv_iconst (v := 1) hx hb dXL_put_17 (by decide +kernel) ?_
      refine W.widen (k := 5 + 2 * mt_na (mt_put (tab j) i xv) i 8) (n := 25 + mt_gr1 n cap + (7 * mt_na (mt_put (tab j) i xv) i 8 + mt_gr (n + 1) (mt_cap1 n cap) (mt_na (mt_put (tab j) i xv) i 8))) (Nat.le_of_eq (Nat.zero_add _)) (Nat.le_of_eq (Nat.zero_add _)) ?_
      exact W.iret (v := 1) hx hb hr (fun t9 ht hW => ⟨⟨1, (cn, fr, LL, LP, nf, fo), rfl, Or.inl (⟨rfl, hbx, rfl⟩), by rw [ht]; exact hP, hD⟩, hS.F ht⟩) hS.2.2 dXL_put_18
    · refine vx_catch (E := "java/lang/IllegalStateException") (name := "java/lang/IllegalStateException") hown [⟨0, 12, 15, 13⟩] ⟨0, 12, 19, 15⟩ [] htab (List.forall_mem_cons.mpr ⟨Or.inr ⟨by decide, "java/lang/IndexOutOfBoundsException", hts _ (List.mem_cons_of_mem _ mw_110), hE.nc "java/lang/IllegalStateException" "java/lang/IndexOutOfBoundsException" (by decide +kernel)⟩, fun z hz9 => nomatch hz9⟩) (by decide) (by decide) (hts _ (List.mem_cons_of_mem _ mw_111)) (va_Nw.use rfl (hE.w (.castable "java/lang/IllegalStateException" "java/lang/IllegalStateException") (by decide +kernel))) hce hcv hcl ?_
      refine lv_astore (i := 5) (lv' := [(5, .ref q9), (0, .ref x), (1, .int v), (2, .int k), (3, .int xv), (4, .ref ao)]) hx hb dXL_put_19 hl (by decide) rfl (fun ls hl => ?_)
      refine lv_iconst (v := (nI 2)) hx hb dXL_put_21 (by decide +kernel) ?_
      refine W.widen (k := 5 + 2 * mt_na (mt_put (tab j) i xv) i 8) (n := 25 + mt_gr1 n cap + (7 * mt_na (mt_put (tab j) i xv) i 8 + mt_gr (n + 1) (mt_cap1 n cap) (mt_na (mt_put (tab j) i xv) i 8))) (Nat.le_of_eq (Nat.zero_add _)) (Nat.le_of_eq (Nat.zero_add _)) ?_
      exact W.iret (v := (nI 2)) hx hb hr (fun t9 ht hW => ⟨⟨(nI 2), (cn, fr, LL, LP, nf, fo), rfl, Or.inr (Or.inl (⟨rfl, hbx.1, hbx.2, rfl⟩)), by rw [ht]; exact hP, hD⟩, hS.F ht⟩) hS.2.2 dXL_put_22
  obtain ⟨LL1, LP1, nf1, rt⟩ := u
  obtain ⟨hP, hD⟩ := hB
  rw [ht] at hP
  obtain ⟨hvk, hc6, rfl, hLL1, hkp, hok1, hrp⟩ := hpo
  dsimp only at hP hD hLL1 hkp hok1 hrp
  refine lv_i2l (v := (nI cn).toInt64) hx hb dXL_put_10 rfl ?_
  refine va_last (D := g.1) (cl := vwCl) hx hb hK hP hD hS 3 4 rfl rfl (show vp_in 0 1 by unfold vp_in; decide) dXL_put_11 (fun H locs hP hD hS => ?_)
  have hP : va_P g.1 vwCl (mt_TW g c0 c1 c2 (ao, .inl (g.2.2.2 4, 1, .inr (.inl (vp_updL fo 0 (nI cn).toInt64)))) x ar al (cn + 1) (va_up fr cn rt) (LL1 ++ va_pl LP1 (fun a => mt_nE (nf1 a)))) H := hP
  have hD : va_D (mt_A g) (mt_TW g c0 c1 c2 (ao, .inl (g.2.2.2 4, 1, .inr (.inl (vp_updL fo 0 (nI cn).toInt64)))) x ar al (cn + 1) (va_up fr cn rt) (LL1 ++ va_pl LP1 (fun a => mt_nE (nf1 a)))) := hD
  refine lv_goto (tgt := 23) hx hb dXL_put_12 (by decide) ?_
  refine lv_iconst (v := 0) hx hb dXL_put_23 (by decide +kernel) ?_
  refine W.widen (k := 5 + 2 * mt_na (mt_put (tab j) i xv) i 8) (n := 25 + mt_gr1 n cap + (7 * mt_na (mt_put (tab j) i xv) i 8 + mt_gr (n + 1) (mt_cap1 n cap) (mt_na (mt_put (tab j) i xv) i 8))) (Nat.le_of_eq (Nat.zero_add _)) (Nat.le_of_eq (Nat.zero_add _)) ?_
  exact W.iret (v := 0) hx hb hr (fun t9 ht hW => ⟨⟨0, (cn + 1, va_up fr cn rt, LL1, LP1, nf1, vp_updL fo 0 (nI cn).toInt64), rfl, Or.inr (Or.inr (⟨rfl, hvk, hc6, LL1, LP1, nf1, rt, rfl, hLL1, hkp, hok1, hrp⟩)), by rw [ht]; exact hP, hD⟩, hS.F ht⟩) hS.2.2 dXL_put_24
set_option maxHeartbeats 4000000 in
set_option maxRecDepth 100000 in
/-- the law: remove -/
theorem c_L_remove (l : Launch) (g : mt_G) (hl0 : l.stackTraces = false) (c0 c1 c2 : Nat × va_E) (ao : Nat) (fo : Nat → Int64) (x ar al cn : Nat) (fr : Nat → Option Nat) (n cap : Nat) (LL : va_W) (LP : List Nat) (nf : Nat → mt_N) (hLL : mt_LL g al LP n cap LL) (hlc : mt_lc n cap) (hn5 : n < 4900) (hok : ∀ a, a ∈ LP → mt_ok LP nf a) (tab : Nat → mt_T) (hrep : ∀ j, j < cn → mt_rep LP nf (tab j) 8 0 (fr j)) (hcn : cn ≤ 600) (v k : Int32) (j i : Nat) (hj : mt_ver v cn → v = nI j ∧ j < cn) (hi : mt_key k → k = nI i ∧ i < 256) : Met l yXL_remove wsXL_remove ({ frames := 30, cells := 4 + 2 * mt_na (mt_rem (tab j) i) i 8, slots := 24 + (7 * mt_na (mt_rem (tab j) i) i 8 + mt_gr n cap (mt_na (mt_rem (tab j) i) i 8)), locals := 1000 }) (mt_Pc g (mt_TW g c0 c1 c2 (ao, .inl (g.2.2.2 4, 1, .inr (.inl fo))) x ar al cn fr (LL ++ va_pl LP (fun a => mt_nE (nf a)))) [.ref x, .int v, .int k, .ref ao]) (va_Qi (fun r (q : (Nat × (Nat → Option Nat) × va_W × List Nat × (Nat → mt_N) × (Nat → Int64))) => (r = 1 ∧ ¬ (mt_ver v cn ∧ mt_key k) ∧ q = (cn, fr, LL, LP, nf, fo)) ∨ (r = 2 ∧ (mt_ver v cn ∧ mt_key k) ∧ cn = 600 ∧ q = (cn, fr, LL, LP, nf, fo)) ∨ (r = 3 ∧ (mt_ver v cn ∧ mt_key k) ∧ cn < 600 ∧ tab j i = none ∧ q = (cn, fr, LL, LP, nf, fo)) ∨ (r = 0 ∧ (mt_ver v cn ∧ mt_key k) ∧ cn < 600 ∧ tab j i ≠ none ∧ ∃ LL1 LP1 nf1 rt, q = (cn + 1, va_up fr cn rt, LL1, LP1, nf1, vp_updL fo 0 (nI cn).toInt64) ∧ mt_LL g al LP1 (n + mt_na (mt_rem (tab j) i) i 8) (mt_cap n cap (mt_na (mt_rem (tab j) i) i 8)) LL1 ∧ (∀ a, a ∈ LP → a ∈ LP1 ∧ nf1 a = nf a) ∧ (∀ a, a ∈ LP1 → mt_ok LP1 nf1 a) ∧ mt_rep LP1 nf1 (mt_rem (tab j) i) 8 0 rt)) (fun (q : (Nat × (Nat → Option Nat) × va_W × List Nat × (Nat → mt_N) × (Nat → Int64))) t => mt_B g (mt_TW g c0 c1 c2 (ao, .inl (g.2.2.2 4, 1, .inr (.inl q.2.2.2.2.2))) x ar al q.1 q.2.1 (q.2.2.1 ++ va_pl q.2.2.2.1 (fun a => mt_nE (q.2.2.2.2.1 a)))) t) (mt_A g)) (4 + 2 * mt_na (mt_rem (tab j) i) i 8) (24 + (7 * mt_na (mt_rem (tab j) i) i 8 + mt_gr n cap (mt_na (mt_rem (tab j) i) i 8))) (mt_A g) := by
  refine va_MetW (cc := cXL_remove) (maxL := 5) (ret := (some .int)) (hh := [(0, 10, 13, 13), (0, 10, 17, 15), (0, 10, 21, 21)]) (by decide) rfl ?_
  intro p e s m args below meth c s₁ B hml hv
  obtain ⟨rfl, hE, hz, hP, hD⟩ := hv
  have hx := B.exec
  have hb := B.bytes
  have hr := B.returns
  have hts := atoms_spec (ws := wsXL_remove) B.pre
  have hown : s.vm.findClass RXL = some m.cls := findClass_of_methodNamed B.named
  have hlocks := B.notSynchronized
  have hK := hE.k
  have hA : ∀ q : Nat, s.heap.size ≤ q → mt_A g q := fun q h => Nat.le_trans hz h
  have hS : va_S (mt_A g) s.heap s.heap [] := va_S.rf
  have hl := lv_entry ([.ref x, .int v, .int k, .ref ao]) (n := 5) (Nat.le_of_ble_eq_true rfl)
  rw [lg_entry_eq]
  generalize (lg_sl ([.ref x, .int v, .int k, .ref ao]) ++ List.replicate (5 - (lg_sl ([.ref x, .int v, .int k, .ref ao])).length) Slot.unset).toArray = ls at hl ⊢
  have hl : lv_has ls 5 [(0, .ref x), (1, .int v), (2, .int k), (3, .ref ao)] := hl
  have hH : s.heap = s.heap := rfl
  have htab : c.exceptionTable.toList = [⟨0, 10, 13, 13⟩, ⟨0, 10, 17, 15⟩, ⟨0, 10, 21, 21⟩] := (vx_table (x := yXL_remove) B (hts _ List.mem_cons_self)).trans rfl
  refine lv_aload_n hx hb dXL_remove_0 rfl (lv_at hl 3 rfl) ?_
  refine lv_iconst (v := 0) hx hb dXL_remove_1 (by decide +kernel) ?_
  refine lv_aload_n hx hb dXL_remove_2 rfl (lv_at hl 0 rfl) ?_
  refine lv_iload_n hx hb dXL_remove_3 rfl (lv_at hl 1 rfl) ?_
  refine lv_iload_n hx hb dXL_remove_4 rfl (lv_at hl 2 rfl) ?_
  refine vx_calli (vx_runV (As := [.int v, .int k]) (rest := [.int 0, .ref ao]) ⟨hx, hb, hml, hown, hts⟩ (c_remove l hl0 g c0 c1 c2 (ao, .inl (g.2.2.2 4, 1, .inr (.inl fo))) x ar al cn fr n cap LL LP nf hLL hlc hn5 hok tab hrep hcn v k j i hj hi) (cwV 2 hts (mt_giV mw_292 mw_293 mw_294 mw_1 (mt_gi mw_295)) rfl rfl rfl (by decide +kernel) ⟨Nat.le_of_ble_eq_true rfl, Nat.le_of_ble_eq_true rfl⟩) (mt_preV hE hz hS hP hD (va_recv hK hP (q := (RXT, TXT, 3)) (q0 := 4) rfl rfl)) rfl rfl hl.1 rfl (lv_room (Nat.le_of_ble_eq_true rfl)) dXL_remove_5 ⟨Nat.le_of_eq (Nat.zero_add _), Nat.le_of_eq (Nat.zero_add _)⟩) hS (fun _ _ h => h) (fun _ h => h) (fun _ _ h => h.elim) (fun E ce q9 u t H locs ht hvm hpx hBX hz1 hk1 hS hce hcv hcl => ?_) (fun r u t H locs ht hvm hpo hB hz1 hk1 hS => ?_)
  · have hP := mt_keepP hk1 hP
    rcases hBX with ⟨rfl, hbx⟩ | ⟨rfl, hbx⟩ | ⟨rfl, hbx⟩
    · refine vx_catch (E := "java/lang/IndexOutOfBoundsException") (name := "java/lang/IndexOutOfBoundsException") hown [] ⟨0, 10, 13, 13⟩ [⟨0, 10, 17, 15⟩, ⟨0, 10, 21, 21⟩] htab (fun z hz9 => nomatch hz9) (by decide) (by decide) (hts _ (List.mem_cons_of_mem _ mw_110)) (va_Nw.use rfl (hE.w (.castable "java/lang/IndexOutOfBoundsException" "java/lang/IndexOutOfBoundsException") (by decide +kernel))) hce hcv hcl ?_
      refine lv_astore (i := 4) (lv' := [(4, .ref q9), (0, .ref x), (1, .int v), (2, .int k), (3, .ref ao)]) hx hb dXL_remove_13 hl (by decide) rfl (fun ls hl => ?_)
      refine lv_iconst (v := 1) hx hb dXL_remove_15 (by decide +kernel) ?_
      refine W.widen (k := 4 + 2 * mt_na (mt_rem (tab j) i) i 8) (n := 24 + (7 * mt_na (mt_rem (tab j) i) i 8 + mt_gr n cap (mt_na (mt_rem (tab j) i) i 8))) (Nat.le_of_eq (Nat.zero_add _)) (Nat.le_of_eq (Nat.zero_add _)) ?_
      exact W.iret (v := 1) hx hb hr (fun t9 ht hW => ⟨⟨1, (cn, fr, LL, LP, nf, fo), rfl, Or.inl (⟨rfl, hbx, rfl⟩), by rw [ht]; exact hP, hD⟩, hS.F ht⟩) hS.2.2 dXL_remove_16
    · refine vx_catch (E := "java/lang/IllegalStateException") (name := "java/lang/IllegalStateException") hown [⟨0, 10, 13, 13⟩] ⟨0, 10, 17, 15⟩ [⟨0, 10, 21, 21⟩] htab (List.forall_mem_cons.mpr ⟨Or.inr ⟨by decide, "java/lang/IndexOutOfBoundsException", hts _ (List.mem_cons_of_mem _ mw_110), hE.nc "java/lang/IllegalStateException" "java/lang/IndexOutOfBoundsException" (by decide +kernel)⟩, fun z hz9 => nomatch hz9⟩) (by decide) (by decide) (hts _ (List.mem_cons_of_mem _ mw_111)) (va_Nw.use rfl (hE.w (.castable "java/lang/IllegalStateException" "java/lang/IllegalStateException") (by decide +kernel))) hce hcv hcl ?_
      refine lv_astore (i := 4) (lv' := [(4, .ref q9), (0, .ref x), (1, .int v), (2, .int k), (3, .ref ao)]) hx hb dXL_remove_17 hl (by decide) rfl (fun ls hl => ?_)
      refine lv_iconst (v := (nI 2)) hx hb dXL_remove_19 (by decide +kernel) ?_
      refine W.widen (k := 4 + 2 * mt_na (mt_rem (tab j) i) i 8) (n := 24 + (7 * mt_na (mt_rem (tab j) i) i 8 + mt_gr n cap (mt_na (mt_rem (tab j) i) i 8))) (Nat.le_of_eq (Nat.zero_add _)) (Nat.le_of_eq (Nat.zero_add _)) ?_
      exact W.iret (v := (nI 2)) hx hb hr (fun t9 ht hW => ⟨⟨(nI 2), (cn, fr, LL, LP, nf, fo), rfl, Or.inr (Or.inl (⟨rfl, hbx.1, hbx.2, rfl⟩)), by rw [ht]; exact hP, hD⟩, hS.F ht⟩) hS.2.2 dXL_remove_20
    · refine vx_catch (E := "java/util/NoSuchElementException") (name := "java/util/NoSuchElementException") hown [⟨0, 10, 13, 13⟩, ⟨0, 10, 17, 15⟩] ⟨0, 10, 21, 21⟩ [] htab (List.forall_mem_cons.mpr ⟨Or.inr ⟨by decide, "java/lang/IndexOutOfBoundsException", hts _ (List.mem_cons_of_mem _ mw_110), hE.nc "java/util/NoSuchElementException" "java/lang/IndexOutOfBoundsException" (by decide +kernel)⟩, List.forall_mem_cons.mpr ⟨Or.inr ⟨by decide, "java/lang/IllegalStateException", hts _ (List.mem_cons_of_mem _ mw_111), hE.nc "java/util/NoSuchElementException" "java/lang/IllegalStateException" (by decide +kernel)⟩, fun z hz9 => nomatch hz9⟩⟩) (by decide) (by decide) (hts _ (List.mem_cons_of_mem _ mw_291)) (va_Nw.use rfl (hE.w (.castable "java/util/NoSuchElementException" "java/util/NoSuchElementException") (by decide +kernel))) hce hcv hcl ?_
      refine lv_astore (i := 4) (lv' := [(4, .ref q9), (0, .ref x), (1, .int v), (2, .int k), (3, .ref ao)]) hx hb dXL_remove_21 hl (by decide) rfl (fun ls hl => ?_)
      refine lv_iconst (v := (nI 3)) hx hb dXL_remove_23 (by decide +kernel) ?_
      refine W.widen (k := 4 + 2 * mt_na (mt_rem (tab j) i) i 8) (n := 24 + (7 * mt_na (mt_rem (tab j) i) i 8 + mt_gr n cap (mt_na (mt_rem (tab j) i) i 8))) (Nat.le_of_eq (Nat.zero_add _)) (Nat.le_of_eq (Nat.zero_add _)) ?_
      exact W.iret (v := (nI 3)) hx hb hr (fun t9 ht hW => ⟨⟨(nI 3), (cn, fr, LL, LP, nf, fo), rfl, Or.inr (Or.inr (Or.inl (⟨rfl, hbx.1, hbx.2.1, hbx.2.2, rfl⟩))), by rw [ht]; exact hP, hD⟩, hS.F ht⟩) hS.2.2 dXL_remove_24
  obtain ⟨LL1, LP1, nf1, rt⟩ := u
  obtain ⟨hP, hD⟩ := hB
  rw [ht] at hP
  obtain ⟨hvk, hc6, hsm, rfl, hLL1, hkp, hok1, hrp⟩ := hpo
  dsimp only at hP hD hLL1 hkp hok1 hrp
  refine lv_i2l (v := (nI cn).toInt64) hx hb dXL_remove_8 rfl ?_
  refine va_last (D := g.1) (cl := vwCl) hx hb hK hP hD hS 3 4 rfl rfl (show vp_in 0 1 by unfold vp_in; decide) dXL_remove_9 (fun H locs hP hD hS => ?_)
  have hP : va_P g.1 vwCl (mt_TW g c0 c1 c2 (ao, .inl (g.2.2.2 4, 1, .inr (.inl (vp_updL fo 0 (nI cn).toInt64)))) x ar al (cn + 1) (va_up fr cn rt) (LL1 ++ va_pl LP1 (fun a => mt_nE (nf1 a)))) H := hP
  have hD : va_D (mt_A g) (mt_TW g c0 c1 c2 (ao, .inl (g.2.2.2 4, 1, .inr (.inl (vp_updL fo 0 (nI cn).toInt64)))) x ar al (cn + 1) (va_up fr cn rt) (LL1 ++ va_pl LP1 (fun a => mt_nE (nf1 a)))) := hD
  refine lv_goto (tgt := 25) hx hb dXL_remove_10 (by decide) ?_
  refine lv_iconst (v := 0) hx hb dXL_remove_25 (by decide +kernel) ?_
  refine W.widen (k := 4 + 2 * mt_na (mt_rem (tab j) i) i 8) (n := 24 + (7 * mt_na (mt_rem (tab j) i) i 8 + mt_gr n cap (mt_na (mt_rem (tab j) i) i 8))) (Nat.le_of_eq (Nat.zero_add _)) (Nat.le_of_eq (Nat.zero_add _)) ?_
  exact W.iret (v := 0) hx hb hr (fun t9 ht hW => ⟨⟨0, (cn + 1, va_up fr cn rt, LL1, LP1, nf1, vp_updL fo 0 (nI cn).toInt64), rfl, Or.inr (Or.inr (Or.inr (⟨rfl, hvk, hc6, hsm, LL1, LP1, nf1, rt, rfl, hLL1, hkp, hok1, hrp⟩))), by rw [ht]; exact hP, hD⟩, hS.F ht⟩) hS.2.2 dXL_remove_26
set_option maxHeartbeats 4000000 in
set_option maxRecDepth 100000 in
/-- the law: join -/
theorem c_L_join (l : Launch) (g : mt_G) (hl0 : l.stackTraces = false) (c0 c1 c2 : Nat × va_E) (ao : Nat) (fo : Nat → Int64) (x ar al cn : Nat) (fr : Nat → Option Nat) (n cap : Nat) (LL : va_W) (LP : List Nat) (nf : Nat → mt_N) (hLL : mt_LL g al LP n cap LL) (hlc : mt_lc n cap) (hn5 : n < 4900) (hok : ∀ a, a ∈ LP → mt_ok LP nf a) (tab : Nat → mt_T) (hrep : ∀ j, j < cn → mt_rep LP nf (tab j) 8 0 (fr j)) (hcn : cn ≤ 600) (v w k : Int32) (j i y : Nat) (hj : mt_ver v cn → v = nI j ∧ j < cn) (hi : mt_ver w cn → w = nI i ∧ i < cn) (hy : mt_kb k → k = nI y ∧ y ≤ 256) : Met l yXL_join wsXL_join ({ frames := 30, cells := 4 + 2 * (if y < 256 then mt_na (mt_join (tab j) (tab i) y) y 8 else 0), slots := 24 + (7 * (if y < 256 then mt_na (mt_join (tab j) (tab i) y) y 8 else 0) + mt_gr n cap ((if y < 256 then mt_na (mt_join (tab j) (tab i) y) y 8 else 0))), locals := 1000 }) (mt_Pc g (mt_TW g c0 c1 c2 (ao, .inl (g.2.2.2 4, 1, .inr (.inl fo))) x ar al cn fr (LL ++ va_pl LP (fun a => mt_nE (nf a)))) [.ref x, .int v, .int w, .int k, .ref ao]) (va_Qi (fun r (q : (Nat × (Nat → Option Nat) × va_W × List Nat × (Nat → mt_N) × (Nat → Int64))) => (r = 1 ∧ ¬ (mt_ver v cn ∧ mt_ver w cn ∧ mt_kb k) ∧ q = (cn, fr, LL, LP, nf, fo)) ∨ (r = 2 ∧ (mt_ver v cn ∧ mt_ver w cn ∧ mt_kb k) ∧ cn = 600 ∧ q = (cn, fr, LL, LP, nf, fo)) ∨ (r = 0 ∧ (mt_ver v cn ∧ mt_ver w cn ∧ mt_kb k) ∧ cn < 600 ∧ ∃ LL1 LP1 nf1 rt, q = (cn + 1, va_up fr cn rt, LL1, LP1, nf1, vp_updL fo 0 (nI cn).toInt64) ∧ mt_LL g al LP1 (n + (if y < 256 then mt_na (mt_join (tab j) (tab i) y) y 8 else 0)) (mt_cap n cap ((if y < 256 then mt_na (mt_join (tab j) (tab i) y) y 8 else 0))) LL1 ∧ (∀ a, a ∈ LP → a ∈ LP1 ∧ nf1 a = nf a) ∧ (∀ a, a ∈ LP1 → mt_ok LP1 nf1 a) ∧ mt_rep LP1 nf1 (mt_join (tab j) (tab i) y) 8 0 rt)) (fun (q : (Nat × (Nat → Option Nat) × va_W × List Nat × (Nat → mt_N) × (Nat → Int64))) t => mt_B g (mt_TW g c0 c1 c2 (ao, .inl (g.2.2.2 4, 1, .inr (.inl q.2.2.2.2.2))) x ar al q.1 q.2.1 (q.2.2.1 ++ va_pl q.2.2.2.1 (fun a => mt_nE (q.2.2.2.2.1 a)))) t) (mt_A g)) (4 + 2 * (if y < 256 then mt_na (mt_join (tab j) (tab i) y) y 8 else 0)) (24 + (7 * (if y < 256 then mt_na (mt_join (tab j) (tab i) y) y 8 else 0) + mt_gr n cap ((if y < 256 then mt_na (mt_join (tab j) (tab i) y) y 8 else 0)))) (mt_A g) := by
  refine va_MetW (cc := cXL_join) (maxL := 6) (ret := (some .int)) (hh := [(0, 12, 15, 13), (0, 12, 19, 15)]) (by decide) rfl ?_
  intro p e s m args below meth c s₁ B hml hv
  obtain ⟨rfl, hE, hz, hP, hD⟩ := hv
  have hx := B.exec
  have hb := B.bytes
  have hr := B.returns
  have hts := atoms_spec (ws := wsXL_join) B.pre
  have hown : s.vm.findClass RXL = some m.cls := findClass_of_methodNamed B.named
  have hlocks := B.notSynchronized
  have hK := hE.k
  have hA : ∀ q : Nat, s.heap.size ≤ q → mt_A g q := fun q h => Nat.le_trans hz h
  have hS : va_S (mt_A g) s.heap s.heap [] := va_S.rf
  have hl := lv_entry ([.ref x, .int v, .int w, .int k, .ref ao]) (n := 6) (Nat.le_of_ble_eq_true rfl)
  rw [lg_entry_eq]
  generalize (lg_sl ([.ref x, .int v, .int w, .int k, .ref ao]) ++ List.replicate (6 - (lg_sl ([.ref x, .int v, .int w, .int k, .ref ao])).length) Slot.unset).toArray = ls at hl ⊢
  have hl : lv_has ls 6 [(0, .ref x), (1, .int v), (2, .int w), (3, .int k), (4, .ref ao)] := hl
  have hH : s.heap = s.heap := rfl
  have htab : c.exceptionTable.toList = [⟨0, 12, 15, 13⟩, ⟨0, 12, 19, 15⟩] := (vx_table (x := yXL_join) B (hts _ List.mem_cons_self)).trans rfl
  refine lv_aload hx hb dXL_join_0 (lv_at hl 4 rfl) ?_
  refine lv_iconst (v := 0) hx hb dXL_join_2 (by decide +kernel) ?_
  refine lv_aload_n hx hb dXL_join_3 rfl (lv_at hl 0 rfl) ?_
  refine lv_iload_n hx hb dXL_join_4 rfl (lv_at hl 1 rfl) ?_
  refine lv_iload_n hx hb dXL_join_5 rfl (lv_at hl 2 rfl) ?_
  refine lv_iload_n hx hb dXL_join_6 rfl (lv_at hl 3 rfl) ?_
  refine vx_calli (vx_runV (As := [.int v, .int w, .int k]) (rest := [.int 0, .ref ao]) ⟨hx, hb, hml, hown, hts⟩ (c_join l hl0 g c0 c1 c2 (ao, .inl (g.2.2.2 4, 1, .inr (.inl fo))) x ar al cn fr n cap LL LP nf hLL hlc hn5 hok tab hrep hcn v w k j i y hj hi hy) (cwV 3 hts (mt_giV mw_316 mw_317 mw_318 mw_1 (mt_gi mw_319)) rfl rfl rfl (by decide +kernel) ⟨Nat.le_of_ble_eq_true rfl, Nat.le_of_ble_eq_true rfl⟩) (mt_preV hE hz hS hP hD (va_recv hK hP (q := (RXT, TXT, 3)) (q0 := 4) rfl rfl)) rfl rfl hl.1 rfl (lv_room (Nat.le_of_ble_eq_true rfl)) dXL_join_7 ⟨Nat.le_of_eq (Nat.zero_add _), Nat.le_of_eq (Nat.zero_add _)⟩) hS (fun _ _ h => h) (fun _ h => h) (fun _ _ h => h.elim) (fun E ce q9 u t H locs ht hvm hpx hBX hz1 hk1 hS hce hcv hcl => ?_) (fun r u t H locs ht hvm hpo hB hz1 hk1 hS => ?_)
  · have hP := mt_keepP hk1 hP
    rcases hBX with ⟨rfl, hbx⟩ | ⟨rfl, hbx⟩
    · refine vx_catch (E := "java/lang/IndexOutOfBoundsException") (name := "java/lang/IndexOutOfBoundsException") hown [] ⟨0, 12, 15, 13⟩ [⟨0, 12, 19, 15⟩] htab (fun z hz9 => nomatch hz9) (by decide) (by decide) (hts _ (List.mem_cons_of_mem _ mw_110)) (va_Nw.use rfl (hE.w (.castable "java/lang/IndexOutOfBoundsException" "java/lang/IndexOutOfBoundsException") (by decide +kernel))) hce hcv hcl ?_
      refine lv_astore (i := 5) (lv' := [(5, .ref q9), (0, .ref x), (1, .int v), (2, .int w), (3, .int k), (4, .ref ao)]) hx hb dXL_join_15 hl (by decide) rfl (fun ls hl => ?_)
      refine lv_iconst (v := 1) hx hb dXL_join_17 (by decide +kernel) ?_
      refine W.widen (k := 4 + 2 * (if y < 256 then mt_na (mt_join (tab j) (tab i) y) y 8 else 0)) (n := 24 + (7 * (if y < 256 then mt_na (mt_join (tab j) (tab i) y) y 8 else 0) + mt_gr n cap ((if y < 256 then mt_na (mt_join (tab j) (tab i) y) y 8 else 0)))) (Nat.le_of_eq (Nat.zero_add _)) (Nat.le_of_eq (Nat.zero_add _)) ?_
      exact W.iret (v := 1) hx hb hr (fun t9 ht hW => ⟨⟨1, (cn, fr, LL, LP, nf, fo), rfl, Or.inl (⟨rfl, hbx, rfl⟩), by rw [ht]; exact hP, hD⟩, hS.F ht⟩) hS.2.2 dXL_join_18
    · refine vx_catch (E := "java/lang/IllegalStateException") (name := "java/lang/IllegalStateException") hown [⟨0, 12, 15, 13⟩] ⟨0, 12, 19, 15⟩ [] htab (List.forall_mem_cons.mpr ⟨Or.inr ⟨by decide, "java/lang/IndexOutOfBoundsException", hts _ (List.mem_cons_of_mem _ mw_110), hE.nc "java/lang/IllegalStateException" "java/lang/IndexOutOfBoundsException" (by decide +kernel)⟩, fun z hz9 => nomatch hz9⟩) (by decide) (by decide) (hts _ (List.mem_cons_of_mem _ mw_111)) (va_Nw.use rfl (hE.w (.castable "java/lang/IllegalStateException" "java/lang/IllegalStateException") (by decide +kernel))) hce hcv hcl ?_
      refine lv_astore (i := 5) (lv' := [(5, .ref q9), (0, .ref x), (1, .int v), (2, .int w), (3, .int k), (4, .ref ao)]) hx hb dXL_join_19 hl (by decide) rfl (fun ls hl => ?_)
      refine lv_iconst (v := (nI 2)) hx hb dXL_join_21 (by decide +kernel) ?_
      refine W.widen (k := 4 + 2 * (if y < 256 then mt_na (mt_join (tab j) (tab i) y) y 8 else 0)) (n := 24 + (7 * (if y < 256 then mt_na (mt_join (tab j) (tab i) y) y 8 else 0) + mt_gr n cap ((if y < 256 then mt_na (mt_join (tab j) (tab i) y) y 8 else 0)))) (Nat.le_of_eq (Nat.zero_add _)) (Nat.le_of_eq (Nat.zero_add _)) ?_
      exact W.iret (v := (nI 2)) hx hb hr (fun t9 ht hW => ⟨⟨(nI 2), (cn, fr, LL, LP, nf, fo), rfl, Or.inr (Or.inl (⟨rfl, hbx.1, hbx.2, rfl⟩)), by rw [ht]; exact hP, hD⟩, hS.F ht⟩) hS.2.2 dXL_join_22
  obtain ⟨LL1, LP1, nf1, rt⟩ := u
  obtain ⟨hP, hD⟩ := hB
  rw [ht] at hP
  obtain ⟨hvk, hc6, rfl, hLL1, hkp, hok1, hrp⟩ := hpo
  dsimp only at hP hD hLL1 hkp hok1 hrp
  refine lv_i2l (v := (nI cn).toInt64) hx hb dXL_join_10 rfl ?_
  refine va_last (D := g.1) (cl := vwCl) hx hb hK hP hD hS 3 4 rfl rfl (show vp_in 0 1 by unfold vp_in; decide) dXL_join_11 (fun H locs hP hD hS => ?_)
  have hP : va_P g.1 vwCl (mt_TW g c0 c1 c2 (ao, .inl (g.2.2.2 4, 1, .inr (.inl (vp_updL fo 0 (nI cn).toInt64)))) x ar al (cn + 1) (va_up fr cn rt) (LL1 ++ va_pl LP1 (fun a => mt_nE (nf1 a)))) H := hP
  have hD : va_D (mt_A g) (mt_TW g c0 c1 c2 (ao, .inl (g.2.2.2 4, 1, .inr (.inl (vp_updL fo 0 (nI cn).toInt64)))) x ar al (cn + 1) (va_up fr cn rt) (LL1 ++ va_pl LP1 (fun a => mt_nE (nf1 a)))) := hD
  refine lv_goto (tgt := 23) hx hb dXL_join_12 (by decide) ?_
  refine lv_iconst (v := 0) hx hb dXL_join_23 (by decide +kernel) ?_
  refine W.widen (k := 4 + 2 * (if y < 256 then mt_na (mt_join (tab j) (tab i) y) y 8 else 0)) (n := 24 + (7 * (if y < 256 then mt_na (mt_join (tab j) (tab i) y) y 8 else 0) + mt_gr n cap ((if y < 256 then mt_na (mt_join (tab j) (tab i) y) y 8 else 0)))) (Nat.le_of_eq (Nat.zero_add _)) (Nat.le_of_eq (Nat.zero_add _)) ?_
  exact W.iret (v := 0) hx hb hr (fun t9 ht hW => ⟨⟨0, (cn + 1, va_up fr cn rt, LL1, LP1, nf1, vp_updL fo 0 (nI cn).toInt64), rfl, Or.inr (Or.inr (⟨rfl, hvk, hc6, LL1, LP1, nf1, rt, rfl, hLL1, hkp, hok1, hrp⟩)), by rw [ht]; exact hP, hD⟩, hS.F ht⟩) hS.2.2 dXL_join_24
