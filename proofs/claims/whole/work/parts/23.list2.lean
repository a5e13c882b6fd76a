set_option maxHeartbeats 4000000 in
set_option maxRecDepth 100000 in
/-- Arrays.copyOf, three arguments -/
theorem c_copy3 (l : Launch) (g : mt_G) (c0 c1 c2 c3 c4 c5 c6 : Nat × va_E) (Z : va_W) (ae n mm : Nat) (fe : Nat → Option Nat) (hnm : n ≤ mm) (hm : mm < 20000) (hel : ∀ i, i < n → ∀ y, fe i = some y → ∃ (k : Nat) (vs : List Value), (c0 :: c1 :: c2 :: c3 :: c4 :: c5 :: c6 :: (ae, .inl (g.2.2.2 0, n, .inr (.inr (.inr (.inr fe))))) :: Z)[k]? = some (y, .inr (0, vs))) : Met l yXR_copyOf_2 wsXR_copyOf_2 ({ frames := 2, cells := 1, slots := mm, locals := 60 }) (mt_Pc g (c0 :: c1 :: c2 :: c3 :: c4 :: c5 :: c6 :: (ae, .inl (g.2.2.2 0, n, .inr (.inr (.inr (.inr fe))))) :: Z) [.ref ae, .int (nI mm), .ref (g.2.2.2 5)]) (va_Qq (fun r (u : Nat) => r = some u) (fun u t => mt_B g ((c0 :: c1 :: c2 :: c3 :: c4 :: c5 :: c6 :: (ae, .inl (g.2.2.2 0, n, .inr (.inr (.inr (.inr fe))))) :: Z) ++ [(u, .inl (g.2.2.2 0, mm, .inr (.inr (.inr (.inr (va_cpy fe (fun _ => none) 0 0 n))))))]) t) (mt_A g)) (1) (mm) (mt_A g) := by
  refine Met.ofW (cc := cXR_copyOf_2) (maxL := 4) (ret := (some (.array (.object "java/lang/Object")))) (by decide) rfl ?_
  intro p e s m args below meth c s₁ B hml hv
  obtain ⟨rfl, hE, hz, hP, hD⟩ := hv
  have hx := B.exec
  have hb := B.bytes
  have hr := B.returns
  have hts := atoms_spec (ws := wsXR_copyOf_2) B.pre
  have hown : s.vm.findClass RXR = some m.cls := findClass_of_methodNamed B.named
  have hlocks := B.notSynchronized
  have hK := hE.k
  have hA : ∀ q : Nat, s.heap.size ≤ q → mt_A g q := fun q h => Nat.le_trans hz h
  have hS : va_S (mt_A g) s.heap s.heap [] := va_S.rf
  have hl := lv_entry ([.ref ae, .int (nI mm), .ref (g.2.2.2 5)]) (n := 4) (Nat.le_of_ble_eq_true rfl)
  rw [lg_entry_eq]
  generalize (lg_sl ([.ref ae, .int (nI mm), .ref (g.2.2.2 5)]) ++ List.replicate (4 - (lg_sl ([.ref ae, .int (nI mm), .ref (g.2.2.2 5)])).length) Slot.unset).toArray = ls at hl ⊢
  have hl : lv_has ls 4 [(0, .ref ae), (1, .int (nI mm)), (2, .ref (g.2.2.2 5))] := hl
  have hH : s.heap = s.heap := rfl
  refine lv_aload_n hx hb dXR_copyOf_2_0 rfl (lv_at hl 2 rfl) ?_
  refine va_ldcM hx hb hown (hts _ (List.mem_cons_of_mem _ mw_261)) hE.mi dXR_copyOf_2_1 ?_
  refine lv_acmp_ne (rx := some (g.2.2.2 5)) (ry := some (g.2.2.2 5)) (tgt := 13) hx hb dXR_copyOf_2_3 (by decide) (fun z => absurd rfl z) (fun _ => ?_)
  refine lv_iload_n hx hb dXR_copyOf_2_6 rfl (lv_at hl 1 rfl) ?_
  refine va_newq hx hb hown (hts _ (List.mem_cons_of_mem _ mw_262)) hE.ao hK hP hD hS hA (n := nI mm) (N' := mm) (nI_pos (by omega)) (nI_clamp (by omega)) (by omega) (by show 0 + 1 ≤ 1; omega) (by show 0 + mm ≤ mm; omega) dXR_copyOf_2_7 (fun q cA H hK9 hP hD hS => ?_)
  have hcA := qa_ty1 (i := 5) (j := 0) hK9 hK rfl rfl
  subst hcA
  refine lv_goto (tgt := 24) hx hb dXR_copyOf_2_10 (by decide) ?_
  refine lv_astore_n (i := 3) (lv' := [(3, .ref q), (0, .ref ae), (1, .int (nI mm)), (2, .ref (g.2.2.2 5))]) hx hb dXR_copyOf_2_24 rfl hl (by decide) rfl (fun ls hl => ?_)
  refine lv_aload_n hx hb dXR_copyOf_2_25 rfl (lv_at hl 1 rfl) ?_
  refine lv_iconst (v := 0) hx hb dXR_copyOf_2_26 (by decide +kernel) ?_
  refine lv_aload_n hx hb dXR_copyOf_2_27 rfl (lv_at hl 0 rfl) ?_
  refine lv_iconst (v := 0) hx hb dXR_copyOf_2_28 (by decide +kernel) ?_
  refine lv_aload_n hx hb dXR_copyOf_2_29 rfl (lv_at hl 1 rfl) ?_
  refine va_alen (D := g.1) (cl := vwCl) (ty := .object "java/lang/Object") (v := nI n) hx hb hK hP 7 0 rfl rfl rfl dXR_copyOf_2_30 ?_
  refine lv_iload_n hx hb dXR_copyOf_2_31 rfl (lv_at hl 2 rfl) ?_
  refine va_mmin (rest := [.int 0, .ref q, .int 0, .ref ae]) hx hb (by rw [hml]; exact hl.1.symm) hown (hts _ (List.mem_cons_of_mem _ mw_263)) (hts _ (List.mem_cons_of_mem _ mw_264)) (hts _ (List.mem_cons_of_mem _ mw_13)) (hts _ (List.mem_cons_of_mem _ mw_265)) (Nat.le_of_ble_eq_true rfl) (Nat.le_of_ble_eq_true rfl) (by show 0 + 1 ≤ 1; omega) (by show 0 + mm ≤ mm; omega) dXR_copyOf_2_32 ?_
  refine qa_i (y := (nI n)) (if_neg (nI_nlt (a := mm) (b := n) (by omega) (by omega))) ?_
  refine va_copyM (D := g.1) (cl := vwCl) (E0 := "java/lang/Object") (E1 := "java/lang/Object") (rest := []) hx hb (by rw [hml]; exact hl.1.symm) hown (hts _ (List.mem_cons_of_mem _ mw_266)) (hts _ (List.mem_cons_of_mem _ mw_268)) (hts _ (List.mem_cons_of_mem _ mw_267)) (hts _ (List.mem_cons_of_mem _ mw_15)) hK hP hD hS 7 (c0 :: c1 :: c2 :: c3 :: c4 :: c5 :: c6 :: (ae, .inl (g.2.2.2 0, n, .inr (.inr (.inr (.inr fe))))) :: Z).length 0 0 rfl (qa_lastg _ _) rfl rfl (sp := 0) (dp := 0) (n := nI n) (by decide) (by decide) (nI_pos (by omega)) (by rw [nI_clamp (by omega), sb_cl0]; omega) (by rw [nI_clamp (by omega), sb_cl0]; omega) (fun i hi y hy => ?_) (Nat.le_of_ble_eq_true rfl) (Nat.le_of_ble_eq_true rfl) dXR_copyOf_2_35 (fun H locs hP hD hS => ?_)
  · rw [nI_clamp (by omega)] at hi
    rw [sb_cl0, Nat.zero_add] at hy
    obtain ⟨k9, vs9, hk9⟩ := hel i hi y hy
    have hk10 : ((c0 :: c1 :: c2 :: c3 :: c4 :: c5 :: c6 :: (ae, .inl (g.2.2.2 0, n, .inr (.inr (.inr (.inr fe))))) :: Z) ++ [(q, .inl (g.2.2.2 0, mm, .inr (.inr (.inr (.inr (fun _ => none))))))])[k9]? = some (y, .inr (0, vs9)) := by rw [List.getElem?_append_left (List.getElem?_eq_some_iff.mp hk9).1]; exact hk9
    exact va_rAny (r := (RXN, TXN, 7)) hK hP hk10 rfl (fun comp c0 f1 f2 => by
      obtain ⟨c3, t3, w1, w2, w3⟩ := Cond.castable_spec (va_Nw.use (A := #[]) rfl (hE.w (.castable RXN "java/lang/Object") (by decide +kernel)))
      cases f2.symm.trans w1
      cases f1.symm.trans w2
      exact w3)
  rw [qa_lasts] at hP hD
  rw [nI_clamp (by omega), sb_cl0] at hP hD
  refine lv_aload_n hx hb dXR_copyOf_2_38 rfl (lv_at hl 0 rfl) ?_
  refine W.cs (Nat.zero_add 1) (Nat.zero_add mm) ?_
  exact W.aret (v := va_rf (some q)) hx hb hr (Or.inr ⟨_, rfl⟩) (va_rf_or _) (fun t9 ht hW => ⟨⟨some q, q, rfl, rfl, by rw [ht]; exact hP, hD⟩, hS.F ht⟩) hS.2.2 dXR_copyOf_2_39
set_option maxHeartbeats 4000000 in
set_option maxRecDepth 100000 in
/-- Arrays.copyOf, two arguments -/
theorem c_copy2 (l : Launch) (g : mt_G) (c0 c1 c2 c3 c4 c5 c6 : Nat × va_E) (Z : va_W) (ae n mm : Nat) (fe : Nat → Option Nat) (hnm : n ≤ mm) (hm : mm < 20000) (hel : ∀ i, i < n → ∀ y, fe i = some y → ∃ (k : Nat) (vs : List Value), (c0 :: c1 :: c2 :: c3 :: c4 :: c5 :: c6 :: (ae, .inl (g.2.2.2 0, n, .inr (.inr (.inr (.inr fe))))) :: Z)[k]? = some (y, .inr (0, vs))) : Met l yXR_copyOf wsXR_copyOf ({ frames := 3, cells := 1, slots := mm, locals := 90 }) (mt_Pc g (c0 :: c1 :: c2 :: c3 :: c4 :: c5 :: c6 :: (ae, .inl (g.2.2.2 0, n, .inr (.inr (.inr (.inr fe))))) :: Z) [.ref ae, .int (nI mm)]) (va_Qq (fun r (u : Nat) => r = some u) (fun u t => mt_B g ((c0 :: c1 :: c2 :: c3 :: c4 :: c5 :: c6 :: (ae, .inl (g.2.2.2 0, n, .inr (.inr (.inr (.inr fe))))) :: Z) ++ [(u, .inl (g.2.2.2 0, mm, .inr (.inr (.inr (.inr (va_cpy fe (fun _ => none) 0 0 n))))))]) t) (mt_A g)) (1) (mm) (mt_A g) := by
  refine Met.ofW (cc := cXR_copyOf) (maxL := 2) (ret := (some (.array (.object "java/lang/Object")))) (by decide) rfl ?_
  intro p e s m args below meth c s₁ B hml hv
  obtain ⟨rfl, hE, hz, hP, hD⟩ := hv
  have hx := B.exec
  have hb := B.bytes
  have hr := B.returns
  have hts := atoms_spec (ws := wsXR_copyOf) B.pre
  have hown : s.vm.findClass RXR = some m.cls := findClass_of_methodNamed B.named
  have hlocks := B.notSynchronized
  have hK := hE.k
  have hA : ∀ q : Nat, s.heap.size ≤ q → mt_A g q := fun q h => Nat.le_trans hz h
  have hS : va_S (mt_A g) s.heap s.heap [] := va_S.rf
  have hl := lv_entry ([.ref ae, .int (nI mm)]) (n := 2) (Nat.le_of_ble_eq_true rfl)
  rw [lg_entry_eq]
  generalize (lg_sl ([.ref ae, .int (nI mm)]) ++ List.replicate (2 - (lg_sl ([.ref ae, .int (nI mm)])).length) Slot.unset).toArray = ls at hl ⊢
  have hl : lv_has ls 2 [(0, .ref ae), (1, .int (nI mm))] := hl
  have hH : s.heap = s.heap := rfl
  refine lv_aload_n hx hb dXR_copyOf_0 rfl (lv_at hl 0 rfl) ?_
  refine lv_iload_n hx hb dXR_copyOf_1 rfl (lv_at hl 1 rfl) ?_
  refine lv_aload_n hx hb dXR_copyOf_2 rfl (lv_at hl 0 rfl) ?_
  have hrc : ∃ cell : Cell, s.heap[ae]? = some cell ∧ cell.vm.isStatics = false ∧ s.vm.findClass "[Ljava/lang/Object;" = some cell.cls := ⟨_, hP 7 _ rfl, rfl, by obtain ⟨kA, comp, -, -, -, f4⟩ := (hK.2 0 _ rfl).2; exact f4⟩
  refine va_getC (rest := [.int (nI mm), .ref ae]) hx hb (by rw [hml]; exact hl.1.symm) hown (hts _ (List.mem_cons_of_mem _ mw_247)) (va_Dc.use hE.dc) (hts _ (List.mem_cons_of_mem _ mw_463)) (hts _ (List.mem_cons_of_mem _ mw_248)) (hts _ (List.mem_cons_of_mem _ mw_257)) hE.mi hrc (Nat.le_of_ble_eq_true rfl) (Nat.le_of_ble_eq_true rfl) dXR_copyOf_3 ?_
  refine va_callq (va_runS (As := [.ref ae, .int (nI mm), .ref (g.2.2.2 5)]) (rest := []) ⟨hx, hb, hml, hown, hts⟩ (c_copy3 l g c0 c1 c2 c3 c4 c5 c6 Z ae n mm fe hnm hm hel) (va_cwS 3 hts (mt_giS mw_258 mw_259 mw_14 (mt_gi mw_260)) rfl rfl rfl (by decide +kernel) ⟨Nat.le_of_ble_eq_true rfl, Nat.le_of_ble_eq_true rfl⟩) (mt_preS hE hz hS hP hD) rfl rfl hl.1 rfl (lv_room (Nat.le_of_ble_eq_true rfl)) dXR_copyOf_6 ⟨by show 0 + 1 ≤ 1; omega, by show 0 + mm ≤ mm; omega⟩) hS (fun _ _ h9 => h9) (fun _ h9 => h9) (fun r1 u1 t1 H locs ht1 hvm1 hpo1 hB1 hz1 hk1 hS => ?_)
  subst hpo1
  obtain ⟨hP, hD⟩ := hB1
  rw [ht1] at hP
  refine W.cs (Nat.zero_add 1) (Nat.zero_add mm) ?_
  exact W.aret (v := va_rf (some u1)) hx hb hr (Or.inr ⟨_, rfl⟩) (va_rf_or _) (fun t9 ht hW => ⟨⟨some u1, u1, rfl, rfl, by rw [ht]; exact hP, hD⟩, hS.F ht⟩) hS.2.2 dXR_copyOf_9
