set_option maxHeartbeats 4000000 in
set_option maxRecDepth 100000 in
/-- ArrayList.grow, the first time -/
theorem c_growI0 (l : Launch) (g : mt_G) (c0 c1 c2 c3 c4 c5 : Nat × va_E) (al : Nat) (mo : Int32) (LP : List Nat) (nf : Nat → mt_N) : Met l yXA_grow_2 wsXA_grow_2 ({ frames := 1, cells := 1, slots := 10, locals := 40 }) (mt_Pc g (c0 :: c1 :: c2 :: c3 :: c4 :: c5 :: ((al, .inr (3, [.int mo, .ref g.2.2.1, .int 0])) :: va_pl LP (fun a => mt_nE (nf a)))) [.ref al, .int 1]) (va_Qq (fun r (u : Nat) => r = some u) (fun u t => mt_B g (c0 :: c1 :: c2 :: c3 :: c4 :: c5 :: ((al, .inr (3, [.int mo, .ref u, .int 0])) :: (u, .inl (g.2.2.2 0, 10, .inr (.inr (.inr (.inr (fun _ => none)))))) :: va_pl LP (fun a => mt_nE (nf a)))) t) (mt_A g)) (1) (10) (mt_A g) := by
  refine Met.ofW (cc := cXA_grow_2) (maxL := 4) (ret := (some (.array (.object "java/lang/Object")))) (by decide) rfl ?_
  intro p e s m args below meth c s₁ B hml hv
  obtain ⟨rfl, hE, hz, hP, hD⟩ := hv
  have hx := B.exec
  have hb := B.bytes
  have hr := B.returns
  have hts := atoms_spec (ws := wsXA_grow_2) B.pre
  have hown : s.vm.findClass RXA = some m.cls := findClass_of_methodNamed B.named
  have hlocks := B.notSynchronized
  have hK := hE.k
  have hA : ∀ q : Nat, s.heap.size ≤ q → mt_A g q := fun q h => Nat.le_trans hz h
  have hS : va_S (mt_A g) s.heap s.heap [] := va_S.rf
  have hl := lv_entry ([.ref al, .int 1]) (n := 4) (Nat.le_of_ble_eq_true rfl)
  rw [lg_entry_eq]
  generalize (lg_sl ([.ref al, .int 1]) ++ List.replicate (4 - (lg_sl ([.ref al, .int 1])).length) Slot.unset).toArray = ls at hl ⊢
  have hl : lv_has ls 4 [(0, .ref al), (1, .int 1)] := hl
  have hH : s.heap = s.heap := rfl
  obtain ⟨ft, hft⟩ := hE.t
  refine lv_aload_n hx hb dXA_grow_2_0 rfl (lv_at hl 0 rfl) ?_
  refine va_get (D := g.1) (ci := 3) (v := .ref g.2.2.1) (C := RXA) (T := TXA) (N := 3) hx hb hts (fun w h => List.mem_cons_of_mem _ (in_XA w h)) hown hK hP 6 rfl rfl 1 (by decide) (hts _ (List.mem_cons_of_mem _ mw_41)) (fun _ h9 => h9) rfl dXA_grow_2_1 ?_
  refine va_tlen (v := 0) hx hb hft hS rfl dXA_grow_2_4 ?_
  refine lv_istore_n (i := 2) (lv' := [(2, .int 0), (0, .ref al), (1, .int 1)]) hx hb dXA_grow_2_5 rfl hl (by decide) rfl (fun ls hl => ?_)
  refine lv_iload_n hx hb dXA_grow_2_6 rfl (lv_at hl 0 rfl) ?_
  refine lv_if_gt (tgt := 20) hx hb dXA_grow_2_7 (by decide) (fun z => absurd z (show ¬ (0 : Int32) < 0 by decide)) (fun _ => ?_)
  refine lv_aload_n hx hb dXA_grow_2_10 rfl (lv_at hl 1 rfl) ?_
  refine va_get (D := g.1) (ci := 3) (v := .ref g.2.2.1) (C := RXA) (T := TXA) (N := 3) hx hb hts (fun w h => List.mem_cons_of_mem _ (in_XA w h)) hown hK hP 6 rfl rfl 1 (by decide) (hts _ (List.mem_cons_of_mem _ mw_41)) (fun _ h9 => h9) rfl dXA_grow_2_11 ?_
  refine va_gets hx hb hE.z hS hown (hts _ (List.mem_cons_of_mem _ mw_40)) (fun _ h9 => h9) dXA_grow_2_14 ?_
  refine lv_acmp_eq (rx := some g.2.2.1) (ry := some g.2.2.1) (tgt := 45) hx hb dXA_grow_2_17 (by decide) (fun _ => ?_) (fun z => absurd rfl z)
  refine lv_aload_n hx hb dXA_grow_2_45 rfl (lv_at hl 1 rfl) ?_
  refine lv_bipush (v := (nI 10)) hx hb dXA_grow_2_46 (by decide +kernel) ?_
  refine lv_iload_n hx hb dXA_grow_2_48 rfl (lv_at hl 2 rfl) ?_
  refine va_mmax (rest := [.ref al]) hx hb (by rw [hml]; exact hl.1.symm) hown (hts _ (List.mem_cons_of_mem _ mw_269)) (hts _ (List.mem_cons_of_mem _ mw_238)) (hts _ (List.mem_cons_of_mem _ mw_13)) (hts _ (List.mem_cons_of_mem _ mw_239)) (Nat.le_of_ble_eq_true rfl) (Nat.le_of_ble_eq_true rfl) (Nat.zero_le _) (Nat.zero_le _) dXA_grow_2_49 ?_
  refine qa_i (y := (nI 10)) (if_neg (show ¬ nI 10 < 1 by decide)) ?_
  refine va_newq hx hb hown (hts _ (List.mem_cons_of_mem _ mw_270)) hE.ao hK hP hD hS hA (n := nI 10) (N' := 10) (by decide) (by decide) (by decide) (by decide) (by decide) dXA_grow_2_52 (fun q cA H hK9 hP hD hS => ?_)
  have hcA := qa_ty1 (i := 5) (j := 0) hK9 hK rfl rfl
  subst hcA
  refine lv_dup_x1 hx hb dXA_grow_2_55 rfl rfl ?_
  refine va_put (D := g.1) (ci := 3) (v := .ref q) (ty := .array (.object "java/lang/Object")) (C := RXA) (T := TXA) (N := 3) hx hb hts (fun w h => List.mem_cons_of_mem _ (in_XA w h)) tyXA tyXA_ok nmXA hown hK hP hD hS 6 rfl rfl 1 (by decide) (hts _ (List.mem_cons_of_mem _ mw_41)) (fun _ h9 => h9) rfl (by decide +kernel) rfl rfl (Nat.le_of_ble_eq_true rfl) dXA_grow_2_56 (fun H locs hP hD hS => ?_)
  have hP : va_P g.1 vwCl ((c0 :: c1 :: c2 :: c3 :: c4 :: c5 :: ((al, .inr (3, [.int mo, .ref q, .int 0])) :: va_pl LP (fun a => mt_nE (nf a)))) ++ [(q, .inl (g.2.2.2 0, 10, .inr (.inr (.inr (.inr (fun _ => none))))))]) H := hP
  have hD : va_D (mt_A g) ((c0 :: c1 :: c2 :: c3 :: c4 :: c5 :: ((al, .inr (3, [.int mo, .ref q, .int 0])) :: va_pl LP (fun a => mt_nE (nf a)))) ++ [(q, .inl (g.2.2.2 0, 10, .inr (.inr (.inr (.inr (fun _ => none))))))]) := hD
  obtain ⟨hP, hD⟩ := qa_perm (qa_mid (c0 :: c1 :: c2 :: c3 :: c4 :: c5 :: (al, .inr (3, [.int mo, .ref q, .int 0])) :: []) (va_pl LP (fun a => mt_nE (nf a))) (q, .inl (g.2.2.2 0, 10, .inr (.inr (.inr (.inr (fun _ => none))))))) hP hD
  exact W.aret (v := va_rf (some q)) hx hb hr (Or.inr ⟨_, rfl⟩) (va_rf_or _) (fun t9 ht hW => ⟨⟨some q, q, rfl, rfl, by rw [ht]; exact hP, hD⟩, hS.F ht⟩) hS.2.2 dXA_grow_2_59
set_option maxHeartbeats 4000000 in
set_option maxRecDepth 100000 in
/-- ArrayList.grow, the first time -/
theorem c_grow0 (l : Launch) (g : mt_G) (c0 c1 c2 c3 c4 c5 : Nat × va_E) (al : Nat) (mo : Int32) (LP : List Nat) (nf : Nat → mt_N) : Met l yXA_grow wsXA_grow ({ frames := 2, cells := 1, slots := 10, locals := 80 }) (mt_Pc g (c0 :: c1 :: c2 :: c3 :: c4 :: c5 :: ((al, .inr (3, [.int mo, .ref g.2.2.1, .int 0])) :: va_pl LP (fun a => mt_nE (nf a)))) [.ref al]) (va_Qq (fun r (u : Nat) => r = some u) (fun u t => mt_B g (c0 :: c1 :: c2 :: c3 :: c4 :: c5 :: ((al, .inr (3, [.int mo, .ref u, .int 0])) :: (u, .inl (g.2.2.2 0, 10, .inr (.inr (.inr (.inr (fun _ => none)))))) :: va_pl LP (fun a => mt_nE (nf a)))) t) (mt_A g)) (1) (10) (mt_A g) := by
  refine Met.ofW (cc := cXA_grow) (maxL := 1) (ret := (some (.array (.object "java/lang/Object")))) (by decide) rfl ?_
  intro p e s m args below meth c s₁ B hml hv
  obtain ⟨rfl, hE, hz, hP, hD⟩ := hv
  have hx := B.exec
  have hb := B.bytes
  have hr := B.returns
  have hts := atoms_spec (ws := wsXA_grow) B.pre
  have hown : s.vm.findClass RXA = some m.cls := findClass_of_methodNamed B.named
  have hlocks := B.notSynchronized
  have hK := hE.k
  have hA : ∀ q : Nat, s.heap.size ≤ q → mt_A g q := fun q h => Nat.le_trans hz h
  have hS : va_S (mt_A g) s.heap s.heap [] := va_S.rf
  have hl := lv_entry ([.ref al]) (n := 1) (Nat.le_of_ble_eq_true rfl)
  rw [lg_entry_eq]
  generalize (lg_sl ([.ref al]) ++ List.replicate (1 - (lg_sl ([.ref al])).length) Slot.unset).toArray = ls at hl ⊢
  have hl : lv_has ls 1 [(0, .ref al)] := hl
  have hH : s.heap = s.heap := rfl
  refine lv_aload_n hx hb dXA_grow_0 rfl (lv_at hl 0 rfl) ?_
  refine lv_aload_n hx hb dXA_grow_1 rfl (lv_at hl 0 rfl) ?_
  refine va_get (D := g.1) (ci := 3) (v := .int 0) (C := RXA) (T := TXA) (N := 3) hx hb hts (fun w h => List.mem_cons_of_mem _ (in_XA w h)) hown hK hP 6 rfl rfl 2 (by decide) (hts _ (List.mem_cons_of_mem _ mw_42)) (fun _ h9 => h9) rfl dXA_grow_2 ?_
  refine lv_iconst (v := 1) hx hb dXA_grow_5 (by decide +kernel) ?_
  refine lv_iadd hx hb dXA_grow_6 ?_
  refine qa_i (y := 1) (by decide) ?_
  refine va_callq (va_runV (As := [.int 1]) (rest := []) ⟨hx, hb, hml, hown, hts⟩ (c_growI0 l g c0 c1 c2 c3 c4 c5 al mo LP nf) (cwV 1 hts (mt_giV mw_231 mw_232 mw_469 mw_4 (mt_gi mw_233)) rfl rfl rfl (by decide +kernel) ⟨Nat.le_of_ble_eq_true rfl, Nat.le_of_ble_eq_true rfl⟩) (mt_preV hE hz hS hP hD (va_recv hK hP (q := (RXA, TXA, 3)) (q0 := 6) rfl rfl)) rfl rfl hl.1 rfl (lv_room (Nat.le_of_ble_eq_true rfl)) dXA_grow_7 ⟨Nat.le_of_ble_eq_true rfl, Nat.le_of_ble_eq_true rfl⟩) hS (fun _ _ h9 => h9) (fun _ h9 => h9) (fun r1 u1 t1 H locs ht1 hvm1 hpo1 hB1 hz1 hk1 hS => ?_)
  subst hpo1
  obtain ⟨hP, hD⟩ := hB1
  rw [ht1] at hP
  exact W.aret (v := va_rf (some u1)) hx hb hr (Or.inr ⟨_, rfl⟩) (va_rf_or _) (fun t9 ht hW => ⟨⟨some u1, u1, rfl, rfl, by rw [ht]; exact hP, hD⟩, hS.F ht⟩) hS.2.2 dXA_grow_10
set_option maxHeartbeats 4000000 in
set_option maxRecDepth 100000 in
/-- ArrayList.grow, where it is full -/
theorem c_growI1 (l : Launch) (g : mt_G) (c0 c1 c2 c3 c4 c5 : Nat × va_E) (al : Nat) (mo : Int32) (LP : List Nat) (nf : Nat → mt_N) (n ae : Nat) (fe : Nat → Option Nat) (hn0 : 10 ≤ n) (hn5 : n < 9000) (hel : ∀ i, i < n → ∃ a, fe i = some a ∧ a ∈ LP) : Met l yXA_grow_2 wsXA_grow_2 ({ frames := 4, cells := 1, slots := n + n / 2, locals := 130 }) (mt_Pc g (c0 :: c1 :: c2 :: c3 :: c4 :: c5 :: ((al, .inr (3, [.int mo, .ref ae, .int (nI n)])) :: (ae, .inl (g.2.2.2 0, n, .inr (.inr (.inr (.inr fe))))) :: va_pl LP (fun a => mt_nE (nf a)))) [.ref al, .int (nI (n + 1))]) (va_Qq (fun r (u : Nat) => r = some u) (fun u t => mt_B g (c0 :: c1 :: c2 :: c3 :: c4 :: c5 :: ((al, .inr (3, [.int mo, .ref u, .int (nI n)])) :: (u, .inl (g.2.2.2 0, (n + n / 2), .inr (.inr (.inr (.inr (va_cpy fe (fun _ => none) 0 0 n)))))) :: va_pl LP (fun a => mt_nE (nf a)))) t) (mt_A g)) (1) (n + n / 2) (mt_A g) := by
  refine Met.ofW (cc := cXA_grow_2) (maxL := 4) (ret := (some (.array (.object "java/lang/Object")))) (by decide) rfl ?_
  intro p e s m args below meth c s₁ B hml hv
  obtain ⟨rfl, hE, hz, hP, hD⟩ := hv
  have hx := B.exec
  have hb := B.bytes
  have hr := B.returns
  have hts := atoms_spec (ws := wsXA_grow_2) B.pre
  have hown : s.vm.findClass RXA = some m.cls := findClass_of_methodNamed B.named
  have hlocks := B.notSynchronized
  have hK := hE.k
  have hA : ∀ q : Nat, s.heap.size ≤ q → mt_A g q := fun q h => Nat.le_trans hz h
  have hS : va_S (mt_A g) s.heap s.heap [] := va_S.rf
  have hl := lv_entry ([.ref al, .int (nI (n + 1))]) (n := 4) (Nat.le_of_ble_eq_true rfl)
  rw [lg_entry_eq]
  generalize (lg_sl ([.ref al, .int (nI (n + 1))]) ++ List.replicate (4 - (lg_sl ([.ref al, .int (nI (n + 1))])).length) Slot.unset).toArray = ls at hl ⊢
  have hl : lv_has ls 4 [(0, .ref al), (1, .int (nI (n + 1)))] := hl
  have hH : s.heap = s.heap := rfl
  refine lv_aload_n hx hb dXA_grow_2_0 rfl (lv_at hl 0 rfl) ?_
  refine va_get (D := g.1) (ci := 3) (v := .ref ae) (C := RXA) (T := TXA) (N := 3) hx hb hts (fun w h => List.mem_cons_of_mem _ (in_XA w h)) hown hK hP 6 rfl rfl 1 (by decide) (hts _ (List.mem_cons_of_mem _ mw_41)) (fun _ h9 => h9) rfl dXA_grow_2_1 ?_
  refine va_alen (D := g.1) (cl := vwCl) (ty := .object "java/lang/Object") (v := nI n) hx hb hK hP 7 0 rfl rfl rfl dXA_grow_2_4 ?_
  refine lv_istore_n (i := 2) (lv' := [(2, .int (nI n)), (0, .ref al), (1, .int (nI (n + 1)))]) hx hb dXA_grow_2_5 rfl hl (by decide) rfl (fun ls hl => ?_)
  refine lv_iload_n hx hb dXA_grow_2_6 rfl (lv_at hl 0 rfl) ?_
  refine lv_if_gt (tgt := 20) hx hb dXA_grow_2_7 (by decide) (fun _ => ?_) (fun z => absurd (show 0 < nI n from nI_lt (a := 0) (by omega) (by omega)) z)
  refine lv_iload_n hx hb dXA_grow_2_20 rfl (lv_at hl 0 rfl) ?_
  refine lv_iload_n hx hb dXA_grow_2_21 rfl (lv_at hl 2 rfl) ?_
  refine lv_iload_n hx hb dXA_grow_2_22 rfl (lv_at hl 0 rfl) ?_
  refine lv_isub hx hb dXA_grow_2_23 ?_
  refine qa_i (y := 1) (by rw [pk_sub (by omega), show n + 1 - n = 1 by omega]; rfl) ?_
  refine lv_iload_n hx hb dXA_grow_2_24 rfl (lv_at hl 0 rfl) ?_
  refine lv_iconst (v := 1) hx hb dXA_grow_2_25 (by decide +kernel) ?_
  refine lv_ishr hx hb dXA_grow_2_26 ?_
  refine qa_i (y := (nI (n / 2))) (by have k := pk_shrN (n := n) (by omega) ((1 : Int32) &&& 31) 1 (by decide); rw [Nat.pow_one] at k; exact k) ?_
  refine vp_callSi (W.runS (As := [.int (nI n), .int 1, .int (nI (n / 2))]) (rest := []) ⟨hx, hb, hml, hown, hts⟩ (c_newLength l g _ n hn0 (by omega)) (va_cwS 3 hts (mt_giS mw_234 mw_235 mw_12 (mt_gi mw_236)) rfl rfl rfl (by decide +kernel) ⟨Nat.le_of_ble_eq_true rfl, Nat.le_of_ble_eq_true rfl⟩) (mt_preS hE hz hS hP hD) rfl rfl hl.1 rfl (lv_room (Nat.le_of_ble_eq_true rfl)) dXA_grow_2_27 ⟨Nat.zero_le _, Nat.zero_le _⟩) (fun z1 e1 => ?_)
  subst e1
  refine lv_istore_n (i := 3) (lv' := [(3, .int (nI (n + n / 2))), (2, .int (nI n)), (0, .ref al), (1, .int (nI (n + 1)))]) hx hb dXA_grow_2_30 rfl hl (by decide) rfl (fun ls hl => ?_)
  refine lv_aload_n hx hb dXA_grow_2_31 rfl (lv_at hl 2 rfl) ?_
  refine lv_aload_n hx hb dXA_grow_2_32 rfl (lv_at hl 2 rfl) ?_
  refine va_get (D := g.1) (ci := 3) (v := .ref ae) (C := RXA) (T := TXA) (N := 3) hx hb hts (fun w h => List.mem_cons_of_mem _ (in_XA w h)) hown hK hP 6 rfl rfl 1 (by decide) (hts _ (List.mem_cons_of_mem _ mw_41)) (fun _ h9 => h9) rfl dXA_grow_2_33 ?_
  refine lv_iload_n hx hb dXA_grow_2_36 rfl (lv_at hl 0 rfl) ?_
  refine va_callq (va_runS (As := [.ref ae, .int (nI (n + n / 2))]) (rest := [.ref al]) ⟨hx, hb, hml, hown, hts⟩ (c_copy2 l g c0 c1 c2 c3 c4 c5 (al, .inr (3, [.int mo, .ref ae, .int (nI n)])) (va_pl LP (fun a => mt_nE (nf a))) ae n (n + n / 2) fe (by omega) (by omega) (fun i hi y hy => ?_)) (va_cwS 2 hts (mt_giS mw_244 mw_245 mw_14 (mt_gi mw_246)) rfl rfl rfl (by decide +kernel) ⟨Nat.le_of_ble_eq_true rfl, Nat.le_of_ble_eq_true rfl⟩) (mt_preS hE hz hS hP hD) rfl rfl hl.1 rfl (lv_room (Nat.le_of_ble_eq_true rfl)) dXA_grow_2_37 ⟨by show 0 + 1 ≤ 1; omega, by show 0 + (n + n / 2) ≤ n + n / 2; omega⟩) hS (fun _ _ h9 => h9) (fun _ h9 => h9) (fun r1 q t1 H locs ht1 hvm1 hpo1 hB1 hz1 hk1 hS => ?_)
  · obtain ⟨a9, e9, m9⟩ := hel i hi
    rw [e9] at hy
    cases hy
    obtain ⟨k9, hk9⟩ := va_pl_get (X := (c0 :: c1 :: c2 :: c3 :: c4 :: c5 :: (al, .inr (3, [.int mo, .ref ae, .int (nI n)])) :: (ae, .inl (g.2.2.2 0, n, .inr (.inr (.inr (.inr fe))))) :: [])) (f := fun a => mt_nE (nf a)) m9
    exact ⟨k9, _, hk9⟩
  subst hpo1
  obtain ⟨hP, hD⟩ := hB1
  rw [ht1] at hP
  refine lv_dup_x1 hx hb dXA_grow_2_40 rfl rfl ?_
  refine va_put (D := g.1) (ci := 3) (v := .ref q) (ty := .array (.object "java/lang/Object")) (C := RXA) (T := TXA) (N := 3) hx hb hts (fun w h => List.mem_cons_of_mem _ (in_XA w h)) tyXA tyXA_ok nmXA hown hK hP hD hS 6 rfl rfl 1 (by decide) (hts _ (List.mem_cons_of_mem _ mw_41)) (fun _ h9 => h9) rfl (by decide +kernel) rfl rfl (Nat.le_of_ble_eq_true rfl) dXA_grow_2_41 (fun H locs hP hD hS => ?_)
  have hP : va_P g.1 vwCl ((c0 :: c1 :: c2 :: c3 :: c4 :: c5 :: ((al, .inr (3, [.int mo, .ref q, .int (nI n)])) :: (ae, .inl (g.2.2.2 0, n, .inr (.inr (.inr (.inr fe))))) :: va_pl LP (fun a => mt_nE (nf a)))) ++ [(q, .inl (g.2.2.2 0, (n + n / 2), .inr (.inr (.inr (.inr (va_cpy fe (fun _ => none) 0 0 n))))))]) H := hP
  have hD : va_D (mt_A g) ((c0 :: c1 :: c2 :: c3 :: c4 :: c5 :: ((al, .inr (3, [.int mo, .ref q, .int (nI n)])) :: (ae, .inl (g.2.2.2 0, n, .inr (.inr (.inr (.inr fe))))) :: va_pl LP (fun a => mt_nE (nf a)))) ++ [(q, .inl (g.2.2.2 0, (n + n / 2), .inr (.inr (.inr (.inr (va_cpy fe (fun _ => none) 0 0 n))))))]) := hD
  obtain ⟨hP, hD⟩ := qa_perm (qa_swap (c0 :: c1 :: c2 :: c3 :: c4 :: c5 :: (al, .inr (3, [.int mo, .ref q, .int (nI n)])) :: []) (va_pl LP (fun a => mt_nE (nf a))) (ae, .inl (g.2.2.2 0, n, .inr (.inr (.inr (.inr fe))))) (q, .inl (g.2.2.2 0, (n + n / 2), .inr (.inr (.inr (.inr (va_cpy fe (fun _ => none) 0 0 n))))))) hP hD
  obtain ⟨hP, hD⟩ := qa_tail hP hD
  refine W.cs (Nat.zero_add 1) (Nat.zero_add (n + n / 2)) ?_
  exact W.aret (v := va_rf (some q)) hx hb hr (Or.inr ⟨_, rfl⟩) (va_rf_or _) (fun t9 ht hW => ⟨⟨some q, q, rfl, rfl, by rw [ht]; exact hP, hD⟩, hS.F ht⟩) hS.2.2 dXA_grow_2_44
set_option maxHeartbeats 4000000 in
set_option maxRecDepth 100000 in
/-- ArrayList.grow, where it is full -/
theorem c_grow1 (l : Launch) (g : mt_G) (c0 c1 c2 c3 c4 c5 : Nat × va_E) (al : Nat) (mo : Int32) (LP : List Nat) (nf : Nat → mt_N) (n ae : Nat) (fe : Nat → Option Nat) (hn0 : 10 ≤ n) (hn5 : n < 9000) (hel : ∀ i, i < n → ∃ a, fe i = some a ∧ a ∈ LP) : Met l yXA_grow wsXA_grow ({ frames := 5, cells := 1, slots := n + n / 2, locals := 180 }) (mt_Pc g (c0 :: c1 :: c2 :: c3 :: c4 :: c5 :: ((al, .inr (3, [.int mo, .ref ae, .int (nI n)])) :: (ae, .inl (g.2.2.2 0, n, .inr (.inr (.inr (.inr fe))))) :: va_pl LP (fun a => mt_nE (nf a)))) [.ref al]) (va_Qq (fun r (u : Nat) => r = some u) (fun u t => mt_B g (c0 :: c1 :: c2 :: c3 :: c4 :: c5 :: ((al, .inr (3, [.int mo, .ref u, .int (nI n)])) :: (u, .inl (g.2.2.2 0, (n + n / 2), .inr (.inr (.inr (.inr (va_cpy fe (fun _ => none) 0 0 n)))))) :: va_pl LP (fun a => mt_nE (nf a)))) t) (mt_A g)) (1) (n + n / 2) (mt_A g) := by
  refine Met.ofW (cc := cXA_grow) (maxL := 1) (ret := (some (.array (.object "java/lang/Object")))) (by decide) rfl ?_
  intro p e s m args below meth c s₁ B hml hv
  obtain ⟨rfl, hE, hz, hP, hD⟩ := hv
  have hx := B.exec
  have hb := B.bytes
  have hr := B.returns
  have hts := atoms_spec (ws := wsXA_grow) B.pre
  have hown : s.vm.findClass RXA = some m.cls := findClass_of_methodNamed B.named
  have hlocks := B.notSynchronized
  have hK := hE.k
  have hA : ∀ q : Nat, s.heap.size ≤ q → mt_A g q := fun q h => Nat.le_trans hz h
  have hS : va_S (mt_A g) s.heap s.heap [] := va_S.rf
  have hl := lv_entry ([.ref al]) (n := 1) (Nat.le_of_ble_eq_true rfl)
  rw [lg_entry_eq]
  generalize (lg_sl ([.ref al]) ++ List.replicate (1 - (lg_sl ([.ref al])).length) Slot.unset).toArray = ls at hl ⊢
  have hl : lv_has ls 1 [(0, .ref al)] := hl
  have hH : s.heap = s.heap := rfl
  refine lv_aload_n hx hb dXA_grow_0 rfl (lv_at hl 0 rfl) ?_
  refine lv_aload_n hx hb dXA_grow_1 rfl (lv_at hl 0 rfl) ?_
  refine va_get (D := g.1) (ci := 3) (v := .int (nI n)) (C := RXA) (T := TXA) (N := 3) hx hb hts (fun w h => List.mem_cons_of_mem _ (in_XA w h)) hown hK hP 6 rfl rfl 2 (by decide) (hts _ (List.mem_cons_of_mem _ mw_42)) (fun _ h9 => h9) rfl dXA_grow_2 ?_
  refine lv_iconst (v := 1) hx hb dXA_grow_5 (by decide +kernel) ?_
  refine lv_iadd hx hb dXA_grow_6 ?_
  refine qa_i (y := (nI (n + 1))) (nI_1 n) ?_
  refine va_callq (va_runV (As := [.int (nI (n + 1))]) (rest := []) ⟨hx, hb, hml, hown, hts⟩ (c_growI1 l g c0 c1 c2 c3 c4 c5 al mo LP nf n ae fe hn0 hn5 hel) (cwV 1 hts (mt_giV mw_231 mw_232 mw_469 mw_4 (mt_gi mw_233)) rfl rfl rfl (by decide +kernel) ⟨Nat.le_of_ble_eq_true rfl, Nat.le_of_ble_eq_true rfl⟩) (mt_preV hE hz hS hP hD (va_recv hK hP (q := (RXA, TXA, 3)) (q0 := 6) rfl rfl)) rfl rfl hl.1 rfl (lv_room (Nat.le_of_ble_eq_true rfl)) dXA_grow_7 ⟨by show 0 + 1 ≤ 1; omega, by show 0 + (n + n / 2) ≤ n + n / 2; omega⟩) hS (fun _ _ h9 => h9) (fun _ h9 => h9) (fun r1 u1 t1 H locs ht1 hvm1 hpo1 hB1 hz1 hk1 hS => ?_)
  subst hpo1
  obtain ⟨hP, hD⟩ := hB1
  rw [ht1] at hP
  refine W.cs (Nat.zero_add 1) (Nat.zero_add (n + n / 2)) ?_
  exact W.aret (v := va_rf (some u1)) hx hb hr (Or.inr ⟨_, rfl⟩) (va_rf_or _) (fun t9 ht hW => ⟨⟨some u1, u1, rfl, rfl, by rw [ht]; exact hP, hD⟩, hS.F ht⟩) hS.2.2 dXA_grow_10
