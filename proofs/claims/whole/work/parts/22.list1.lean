/-! the list: its first cell, worlds in another order -/
theorem mt_LL_at {g : mt_G} {al : Nat} {LP : List Nat} {n cap : Nat} {LL : va_W} (h : mt_LL g al LP n cap LL) : ∃ (mo : Int32) (ea : Nat) (r : va_W), LL = (al, .inr (3, [.int mo, .ref ea, .int (nI n)])) :: r := by
  rcases h with ⟨rfl, -, mo, h⟩ | ⟨mo, ae, fe, h1, -⟩
  · exact ⟨mo, _, _, h⟩
  · exact ⟨mo, _, _, h1⟩
theorem qa_perm {D : va_G} {cl : List vw_C} {A : Nat → Prop} {ws ws' : va_W} {H : Heap} (h : ws'.Perm ws) (hP : va_P D cl ws H) (hD : va_D A ws) : va_P D cl ws' H ∧ va_D A ws' := by
  refine ⟨qa_P hP (fun q hq => h.mem_iff.mp hq), qa_D_iff.mpr ?_⟩
  obtain ⟨h1, h2⟩ := qa_D_iff.mp hD
  exact ⟨(h.map Prod.fst).nodup_iff.mpr h1, fun q hq => h2 q (h.mem_iff.mp hq)⟩
theorem qa_tail {D : va_G} {cl : List vw_C} {A : Nat → Prop} {e : Nat × va_E} {ws : va_W} {H : Heap} (hP : va_P D cl (e :: ws) H) (hD : va_D A (e :: ws)) : va_P D cl ws H ∧ va_D A ws := by
  refine ⟨qa_P hP (fun q hq => List.mem_cons_of_mem _ hq), qa_D_iff.mpr ?_⟩
  obtain ⟨h1, h2⟩ := qa_D_iff.mp hD
  exact ⟨(List.nodup_cons.mp h1).2, fun q hq => h2 q (List.mem_cons_of_mem _ hq)⟩
theorem qa_mid {α : Type} (X Y : List α) (e : α) : (X ++ e :: Y).Perm ((X ++ Y) ++ [e]) := List.perm_middle.trans (List.perm_append_singleton e (X ++ Y)).symm
theorem qa_swap {α : Type} (X Y : List α) (e f : α) : (e :: (X ++ f :: Y)).Perm ((X ++ e :: Y) ++ [f]) :=
  ((List.Perm.cons e List.perm_middle).trans ((List.Perm.swap f e (X ++ Y)).trans (List.Perm.cons f List.perm_middle.symm))).trans (List.perm_append_singleton f (X ++ e :: Y)).symm
set_option maxHeartbeats 4000000 in
set_option maxRecDepth 100000 in
/-- Preconditions.checkIndex -/
theorem c_check3 (l : Launch) (g : mt_G) (ws : va_W) (i n : Nat) (hi : i < n) (hn : n < 2 ^ 31) : Met l yXP_checkIndex wsXP_checkIndex ({ frames := 0, cells := 0, slots := 0, locals := 0 }) (mt_Pc g ws [.int (nI i), .int (nI n), .null]) (vp_Si (fun z => z = nI i)) (0) (0) (fun _ => False) := by
  refine Met.ofW (cc := cXP_checkIndex) (maxL := 3) (ret := (some .int)) (by decide) rfl ?_
  intro p e s m args below meth c s₁ B hml hv
  obtain ⟨rfl, hE, hz, hP, hD⟩ := hv
  have hx := B.exec
  have hb := B.bytes
  have hr := B.returns
  have hts := atoms_spec (ws := wsXP_checkIndex) B.pre
  have hown : s.vm.findClass RXP = some m.cls := findClass_of_methodNamed B.named
  have hlocks := B.notSynchronized
  have hK := hE.k
  have hA : ∀ q : Nat, s.heap.size ≤ q → mt_A g q := fun q h => Nat.le_trans hz h
  have hS : va_S (mt_A g) s.heap s.heap [] := va_S.rf
  have hl := lv_entry ([.int (nI i), .int (nI n), .null]) (n := 3) (Nat.le_of_ble_eq_true rfl)
  rw [lg_entry_eq]
  generalize (lg_sl ([.int (nI i), .int (nI n), .null]) ++ List.replicate (3 - (lg_sl ([.int (nI i), .int (nI n), .null])).length) Slot.unset).toArray = ls at hl ⊢
  have hl : lv_has ls 3 [(0, .int (nI i)), (1, .int (nI n)), (2, .null)] := hl
  have hH : s.heap = s.heap := rfl
  refine lv_iload_n hx hb dXP_checkIndex_0 rfl (lv_at hl 0 rfl) ?_
  refine lv_if_lt (tgt := 9) hx hb dXP_checkIndex_1 (by decide) (fun z => absurd z (nI_pos (by omega))) (fun _ => ?_)
  refine lv_iload_n hx hb dXP_checkIndex_4 rfl (lv_at hl 0 rfl) ?_
  refine lv_iload_n hx hb dXP_checkIndex_5 rfl (lv_at hl 1 rfl) ?_
  refine lv_icmp_lt (tgt := 16) hx hb dXP_checkIndex_6 (by decide) (fun _ => ?_) (fun z => absurd (nI_lt hi hn) z)
  refine lv_iload_n hx hb dXP_checkIndex_16 rfl (lv_at hl 0 rfl) ?_
  exact W.iret (v := (nI i)) hx hb hr (fun t9 ht hW => ⟨(nI i), rfl, rfl, ht⟩) t_nil dXP_checkIndex_17
set_option maxHeartbeats 4000000 in
set_option maxRecDepth 100000 in
/-- Objects.checkIndex -/
theorem c_check2 (l : Launch) (g : mt_G) (ws : va_W) (i n : Nat) (hi : i < n) (hn : n < 2 ^ 31) : Met l yXO_checkIndex wsXO_checkIndex ({ frames := 1, cells := 0, slots := 0, locals := 22 }) (mt_Pc g ws [.int (nI i), .int (nI n)]) (vp_Si (fun z => z = nI i)) (0) (0) (fun _ => False) := by
  refine Met.ofW (cc := cXO_checkIndex) (maxL := 2) (ret := (some .int)) (by decide) rfl ?_
  intro p e s m args below meth c s₁ B hml hv
  obtain ⟨rfl, hE, hz, hP, hD⟩ := hv
  have hx := B.exec
  have hb := B.bytes
  have hr := B.returns
  have hts := atoms_spec (ws := wsXO_checkIndex) B.pre
  have hown : s.vm.findClass RXO = some m.cls := findClass_of_methodNamed B.named
  have hlocks := B.notSynchronized
  have hK := hE.k
  have hA : ∀ q : Nat, s.heap.size ≤ q → mt_A g q := fun q h => Nat.le_trans hz h
  have hS : va_S (mt_A g) s.heap s.heap [] := va_S.rf
  have hl := lv_entry ([.int (nI i), .int (nI n)]) (n := 2) (Nat.le_of_ble_eq_true rfl)
  rw [lg_entry_eq]
  generalize (lg_sl ([.int (nI i), .int (nI n)]) ++ List.replicate (2 - (lg_sl ([.int (nI i), .int (nI n)])).length) Slot.unset).toArray = ls at hl ⊢
  have hl : lv_has ls 2 [(0, .int (nI i)), (1, .int (nI n))] := hl
  have hH : s.heap = s.heap := rfl
  refine lv_iload_n hx hb dXO_checkIndex_0 rfl (lv_at hl 0 rfl) ?_
  refine lv_iload_n hx hb dXO_checkIndex_1 rfl (lv_at hl 1 rfl) ?_
  refine lv_null hx hb dXO_checkIndex_2 ?_
  refine vp_callSi (W.runS (As := [.int (nI i), .int (nI n), .null]) (rest := []) ⟨hx, hb, hml, hown, hts⟩ (c_check3 l g ws i n hi hn) (va_cwS 3 hts (mt_giS mw_85 mw_86 mw_18 (mt_gi mw_87)) rfl rfl rfl (by decide +kernel) ⟨Nat.le_of_ble_eq_true rfl, Nat.le_of_ble_eq_true rfl⟩) (mt_preS hE hz hS hP hD) rfl rfl hl.1 rfl (lv_room (Nat.le_of_ble_eq_true rfl)) dXO_checkIndex_3 ⟨Nat.zero_le _, Nat.zero_le _⟩) (fun z1 e1 => ?_)
  subst e1
  exact W.iret (v := (nI i)) hx hb hr (fun t9 ht hW => ⟨(nI i), rfl, rfl, ht⟩) t_nil dXO_checkIndex_6
set_option maxHeartbeats 4000000 in
set_option maxRecDepth 100000 in
/-- ArrayList.size -/
theorem c_size (l : Launch) (g : mt_G) (c0 c1 c2 c3 c4 c5 : Nat × va_E) (al n cap : Nat) (LL : va_W) (LP : List Nat) (nf : Nat → mt_N) (hLL : mt_LL g al LP n cap LL) (hlc : mt_lc n cap) (hn5 : n < 5000) : Met l yXA_size wsXA_size ({ frames := 0, cells := 0, slots := 0, locals := 0 }) (mt_Pc g (mt_LW c0 c1 c2 c3 c4 c5 LL LP nf) [.ref al]) (vp_Si (fun z => z = nI n)) (0) (0) (fun _ => False) := by
  refine Met.ofW (cc := cXA_size) (maxL := 1) (ret := (some .int)) (by decide) rfl ?_
  intro p e s m args below meth c s₁ B hml hv
  obtain ⟨rfl, hE, hz, hP, hD⟩ := hv
  have hx := B.exec
  have hb := B.bytes
  have hr := B.returns
  have hts := atoms_spec (ws := wsXA_size) B.pre
  have hown : s.vm.findClass RXA = some m.cls := findClass_of_methodNamed B.named
  have hlocks := B.notSynchronized
  have hK := hE.k
  have hA : ∀ q : Nat, s.heap.size ≤ q → mt_A g q := fun q h => Nat.le_trans hz h
  have hS : va_S (mt_A g) s.heap s.heap [] := va_S.rf
  have hl := lv_entry ([.ref al]) (n := 1) (Nat.le_of_ble_eq_true rfl)
  rw [lg_entry_eq]
  generalize (lg_sl ([.ref al]) ++ List.replicate (1 - (lg_sl ([.ref al])).length) Slot.unset).toArray = ls at hl ⊢
  have hl : lv_has ls 1 [(0, .ref al)] := hl
  have hH : s.heap = s.heap := rfl
  obtain ⟨mo, ea, r, rfl⟩ := mt_LL_at hLL
  refine lv_aload_n hx hb dXA_size_0 rfl (lv_at hl 0 rfl) ?_
  refine va_get (D := g.1) (ci := 3) (v := .int (nI n)) (C := RXA) (T := TXA) (N := 3) hx hb hts (fun w h => List.mem_cons_of_mem _ (in_XA w h)) hown hK hP 6 rfl rfl 2 (by decide) (hts _ (List.mem_cons_of_mem _ mw_42)) (fun _ h9 => h9) rfl dXA_size_1 ?_
  exact W.iret (v := (nI n)) hx hb hr (fun t9 ht hW => ⟨(nI n), rfl, rfl, ht⟩) t_nil dXA_size_4
set_option maxHeartbeats 4000000 in
set_option maxRecDepth 100000 in
/-- ArrayList.elementData -/
theorem c_elementData (l : Launch) (g : mt_G) (c0 c1 c2 c3 c4 c5 : Nat × va_E) (al n cap : Nat) (LL : va_W) (LP : List Nat) (nf : Nat → mt_N) (hLL : mt_LL g al LP n cap LL) (hlc : mt_lc n cap) (hn5 : n < 5000) (v : Nat) (hv : v < n) : Met l yXA_elementData wsXA_elementData ({ frames := 0, cells := 0, slots := 0, locals := 0 }) (mt_Pc g (mt_LW c0 c1 c2 c3 c4 c5 LL LP nf) [.ref al, .int (nI v)]) (va_Sq (fun z => ∃ a, z = some a ∧ a ∈ LP)) (0) (0) (fun _ => False) := by
  refine Met.ofW (cc := cXA_elementData) (maxL := 2) (ret := (some (.object "java/lang/Object"))) (by decide) rfl ?_
  intro p e s m args below meth c s₁ B hml hv
  obtain ⟨rfl, hE, hz, hP, hD⟩ := hv
  have hx := B.exec
  have hb := B.bytes
  have hr := B.returns
  have hts := atoms_spec (ws := wsXA_elementData) B.pre
  have hown : s.vm.findClass RXA = some m.cls := findClass_of_methodNamed B.named
  have hlocks := B.notSynchronized
  have hK := hE.k
  have hA : ∀ q : Nat, s.heap.size ≤ q → mt_A g q := fun q h => Nat.le_trans hz h
  have hS : va_S (mt_A g) s.heap s.heap [] := va_S.rf
  have hl := lv_entry ([.ref al, .int (nI v)]) (n := 2) (Nat.le_of_ble_eq_true rfl)
  rw [lg_entry_eq]
  generalize (lg_sl ([.ref al, .int (nI v)]) ++ List.replicate (2 - (lg_sl ([.ref al, .int (nI v)])).length) Slot.unset).toArray = ls at hl ⊢
  have hl : lv_has ls 2 [(0, .ref al), (1, .int (nI v))] := hl
  have hH : s.heap = s.heap := rfl
  rcases id hLL with ⟨h0, -, -⟩ | ⟨mo, ae, fe, rfl, hcap0, hnc, hel⟩
  · omega
  obtain ⟨a, ea, ha⟩ := hel v hv
  refine lv_aload_n hx hb dXA_elementData_0 rfl (lv_at hl 0 rfl) ?_
  refine va_get (D := g.1) (ci := 3) (v := .ref ae) (C := RXA) (T := TXA) (N := 3) hx hb hts (fun w h => List.mem_cons_of_mem _ (in_XA w h)) hown hK hP 6 rfl rfl 1 (by decide) (hts _ (List.mem_cons_of_mem _ mw_41)) (fun _ h9 => h9) rfl dXA_elementData_1 ?_
  refine lv_iload_n hx hb dXA_elementData_4 rfl (lv_at hl 1 rfl) ?_
  refine va_aldq (D := g.1) (cl := vwCl) hx hb hK hP 7 0 rfl rfl (vp_in_nI (n := v) (by omega) (by have := mt_lc_max hlc; omega)) dXA_elementData_5 ?_
  refine qa_q (y := some a) (by rw [nI_clamp (by omega)]; exact ea) ?_
  exact W.aret (v := va_rf (some a)) hx hb hr (Or.inl ⟨_, rfl⟩) (va_rf_or _) (fun t9 ht hW => ⟨some a, rfl, ⟨a, rfl, ha⟩, ht⟩) t_nil dXA_elementData_6
set_option maxHeartbeats 4000000 in
set_option maxRecDepth 100000 in
/-- ArrayList.get -/
theorem c_lget (l : Launch) (g : mt_G) (c0 c1 c2 c3 c4 c5 : Nat × va_E) (al n cap : Nat) (LL : va_W) (LP : List Nat) (nf : Nat → mt_N) (hLL : mt_LL g al LP n cap LL) (hlc : mt_lc n cap) (hn5 : n < 5000) (v : Nat) (hv : v < n) : Met l yXA_get wsXA_get ({ frames := 3, cells := 0, slots := 0, locals := 70 }) (mt_Pc g (mt_LW c0 c1 c2 c3 c4 c5 LL LP nf) [.ref al, .int (nI v)]) (va_Sq (fun z => ∃ a, z = some a ∧ a ∈ LP)) (0) (0) (fun _ => False) := by
  refine Met.ofW (cc := cXA_get) (maxL := 2) (ret := (some (.object "java/lang/Object"))) (by decide) rfl ?_
  intro p e s m args below meth c s₁ B hml hv
  obtain ⟨rfl, hE, hz, hP, hD⟩ := hv
  have hx := B.exec
  have hb := B.bytes
  have hr := B.returns
  have hts := atoms_spec (ws := wsXA_get) B.pre
  have hown : s.vm.findClass RXA = some m.cls := findClass_of_methodNamed B.named
  have hlocks := B.notSynchronized
  have hK := hE.k
  have hA : ∀ q : Nat, s.heap.size ≤ q → mt_A g q := fun q h => Nat.le_trans hz h
  have hS : va_S (mt_A g) s.heap s.heap [] := va_S.rf
  have hl := lv_entry ([.ref al, .int (nI v)]) (n := 2) (Nat.le_of_ble_eq_true rfl)
  rw [lg_entry_eq]
  generalize (lg_sl ([.ref al, .int (nI v)]) ++ List.replicate (2 - (lg_sl ([.ref al, .int (nI v)])).length) Slot.unset).toArray = ls at hl ⊢
  have hl : lv_has ls 2 [(0, .ref al), (1, .int (nI v))] := hl
  have hH : s.heap = s.heap := rfl
  have hrcv := mt_LL_recv hLL hK hP
  obtain ⟨mo, ea, r, hLr⟩ := mt_LL_at hLL
  refine lv_iload_n hx hb dXA_get_0 rfl (lv_at hl 1 rfl) ?_
  refine lv_aload_n hx hb dXA_get_1 rfl (lv_at hl 0 rfl) ?_
  have hP2 : va_P g.1 vwCl (c0 :: c1 :: c2 :: c3 :: c4 :: c5 :: ((al, .inr (3, [.int mo, .ref ea, .int (nI n)])) :: r ++ va_pl LP (fun a => mt_nE (nf a)))) s.heap := by rw [← hLr]; exact hP
  refine va_get (D := g.1) (ci := 3) (v := .int (nI n)) (C := RXA) (T := TXA) (N := 3) hx hb hts (fun w h => List.mem_cons_of_mem _ (in_XA w h)) hown hK hP2 6 rfl rfl 2 (by decide) (hts _ (List.mem_cons_of_mem _ mw_42)) (fun _ h9 => h9) rfl dXA_get_2 ?_
  refine vp_callSi (W.runS (As := [.int (nI v), .int (nI n)]) (rest := []) ⟨hx, hb, hml, hown, hts⟩ (c_check2 l g _ v n hv (by omega)) (va_cwS 2 hts (mt_giS mw_82 mw_83 mw_17 (mt_gi mw_84)) rfl rfl rfl (by decide +kernel) ⟨Nat.le_of_ble_eq_true rfl, Nat.le_of_ble_eq_true rfl⟩) (mt_preS hE hz hS hP hD) rfl rfl hl.1 rfl (lv_room (Nat.le_of_ble_eq_true rfl)) dXA_get_5 ⟨Nat.zero_le _, Nat.zero_le _⟩) (fun z1 e1 => ?_)
  subst e1
  refine lv_pop hx hb dXA_get_8 rfl ?_
  refine lv_aload_n hx hb dXA_get_9 rfl (lv_at hl 0 rfl) ?_
  refine lv_iload_n hx hb dXA_get_10 rfl (lv_at hl 1 rfl) ?_
  refine va_csq (W.runV (As := [.int (nI v)]) (rest := []) ⟨hx, hb, hml, hown, hts⟩ (c_elementData l g c0 c1 c2 c3 c4 c5 al n cap LL LP nf hLL hlc hn5 v hv) (cwV 1 hts (mt_giV mw_88 mw_89 mw_90 mw_4 (mt_gi mw_91)) rfl rfl rfl (by decide +kernel) ⟨Nat.le_of_ble_eq_true rfl, Nat.le_of_ble_eq_true rfl⟩) (mt_preV hE hz hS hP hD hrcv) rfl rfl hl.1 rfl (lv_room (Nat.le_of_ble_eq_true rfl)) dXA_get_11 ⟨Nat.zero_le _, Nat.zero_le _⟩) (fun z2 e2 => ?_)
  exact W.aret (v := va_rf z2) hx hb hr (Or.inl ⟨_, rfl⟩) (va_rf_or _) (fun t9 ht hW => ⟨z2, rfl, e2, ht⟩) t_nil dXA_get_14
set_option maxHeartbeats 4000000 in
set_option maxRecDepth 100000 in
/-- ArraysSupport.newLength -/
theorem c_newLength (l : Launch) (g : mt_G) (ws : va_W) (k : Nat) (h10 : 10 ≤ k) (hk : k < 10000) : Met l yXS_newLength wsXS_newLength ({ frames := 1, cells := 0, slots := 0, locals := 40 }) (mt_Pc g ws [.int (nI k), .int 1, .int (nI (k / 2))]) (vp_Si (fun z => z = nI (k + k / 2))) (0) (0) (fun _ => False) := by
  refine Met.ofW (cc := cXS_newLength) (maxL := 4) (ret := (some .int)) (by decide) rfl ?_
  intro p e s m args below meth c s₁ B hml hv
  obtain ⟨rfl, hE, hz, hP, hD⟩ := hv
  have hx := B.exec
  have hb := B.bytes
  have hr := B.returns
  have hts := atoms_spec (ws := wsXS_newLength) B.pre
  have hown : s.vm.findClass RXS = some m.cls := findClass_of_methodNamed B.named
  have hlocks := B.notSynchronized
  have hK := hE.k
  have hA : ∀ q : Nat, s.heap.size ≤ q → mt_A g q := fun q h => Nat.le_trans hz h
  have hS : va_S (mt_A g) s.heap s.heap [] := va_S.rf
  have hl := lv_entry ([.int (nI k), .int 1, .int (nI (k / 2))]) (n := 4) (Nat.le_of_ble_eq_true rfl)
  rw [lg_entry_eq]
  generalize (lg_sl ([.int (nI k), .int 1, .int (nI (k / 2))]) ++ List.replicate (4 - (lg_sl ([.int (nI k), .int 1, .int (nI (k / 2))])).length) Slot.unset).toArray = ls at hl ⊢
  have hl : lv_has ls 4 [(0, .int (nI k)), (1, .int 1), (2, .int (nI (k / 2)))] := hl
  have hH : s.heap = s.heap := rfl
  refine lv_iload_n hx hb dXS_newLength_0 rfl (lv_at hl 0 rfl) ?_
  refine lv_iload_n hx hb dXS_newLength_1 rfl (lv_at hl 1 rfl) ?_
  refine lv_iload_n hx hb dXS_newLength_2 rfl (lv_at hl 2 rfl) ?_
  refine va_mmax (rest := [.int (nI k)]) hx hb (by rw [hml]; exact hl.1.symm) hown (hts _ (List.mem_cons_of_mem _ mw_237)) (hts _ (List.mem_cons_of_mem _ mw_238)) (hts _ (List.mem_cons_of_mem _ mw_13)) (hts _ (List.mem_cons_of_mem _ mw_239)) (Nat.le_of_ble_eq_true rfl) (Nat.le_of_ble_eq_true rfl) (Nat.zero_le _) (Nat.zero_le _) dXS_newLength_3 ?_
  refine qa_i (y := (nI (k / 2))) (if_pos (show nI 1 < nI (k / 2) from nI_lt (by omega) (by omega))) ?_
  refine lv_iadd hx hb dXS_newLength_6 ?_
  refine qa_i (y := (nI (k + k / 2))) (nI_add k (k / 2)) ?_
  refine lv_istore_n (i := 3) (lv' := [(3, .int (nI (k + k / 2))), (0, .int (nI k)), (1, .int 1), (2, .int (nI (k / 2)))]) hx hb dXS_newLength_7 rfl hl (by decide) rfl (fun ls hl => ?_)
  refine lv_iconst (v := 0) hx hb dXS_newLength_8 (by decide +kernel) ?_
  refine lv_iload_n hx hb dXS_newLength_9 rfl (lv_at hl 0 rfl) ?_
  refine lv_icmp_ge (tgt := 21) hx hb dXS_newLength_10 (by decide) (fun z => absurd z (fun h9 => absurd ((nI_leI (b := 0) (by omega) (by omega)).mp h9) (by omega))) (fun _ => ?_)
  refine lv_iload_n hx hb dXS_newLength_13 rfl (lv_at hl 0 rfl) ?_
  refine lv_ldc (v := 2147483639) hx hb hown (hts _ (List.mem_cons_of_mem _ mw_240)) dXS_newLength_14 ?_
  refine lv_icmp_gt (tgt := 21) hx hb dXS_newLength_16 (by decide) (fun z => absurd z (nI_nlt (a := 2147483639) (b := k + k / 2) (by omega) (by omega))) (fun _ => ?_)
  refine lv_iload_n hx hb dXS_newLength_19 rfl (lv_at hl 0 rfl) ?_
  exact W.iret (v := (nI (k + k / 2))) hx hb hr (fun t9 ht hW => ⟨(nI (k + k / 2)), rfl, rfl, ht⟩) t_nil dXS_newLength_20
