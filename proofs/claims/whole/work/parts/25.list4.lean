set_option maxHeartbeats 4000000 in
set_option maxRecDepth 100000 in
/-- ArrayList.add, its helper -/
theorem c_add2_0 (l : Launch) (g : mt_G) (c0 c1 c2 c3 c4 c5 : Nat × va_E) (al : Nat) (mo : Int32) (LP : List Nat) (nf : Nat → mt_N) (a : Nat) (ha : a ∈ LP) : Met l yXA_add_2 wsXA_add_2 ({ frames := 7, cells := 1, slots := mt_gr1 0 0, locals := 240 }) (mt_Pc g (c0 :: c1 :: c2 :: c3 :: c4 :: c5 :: ((al, .inr (3, [.int mo, .ref g.2.2.1, .int 0])) :: va_pl LP (fun a => mt_nE (nf a)))) [.ref al, .ref a, .ref g.2.2.1, .int 0]) (va_Qv (fun (LL1 : va_W) => mt_LL g al LP (0 + 1) (mt_cap1 0 0) LL1) (fun LL1 t => mt_B g (mt_LW c0 c1 c2 c3 c4 c5 LL1 LP nf) t) (mt_A g)) (1) (mt_gr1 0 0) (mt_A g) := by
  refine Met.ofW (cc := cXA_add_2) (maxL := 4) (ret := none) (by decide) rfl ?_
  intro p e s m args below meth c s₁ B hml hv
  obtain ⟨rfl, hE, hz, hP, hD⟩ := hv
  have hx := B.exec
  have hb := B.bytes
  have hr := B.returns
  have hts := atoms_spec (ws := wsXA_add_2) B.pre
  have hown : s.vm.findClass RXA = some m.cls := findClass_of_methodNamed B.named
  have hlocks := B.notSynchronized
  have hK := hE.k
  have hA : ∀ q : Nat, s.heap.size ≤ q → mt_A g q := fun q h => Nat.le_trans hz h
  have hS : va_S (mt_A g) s.heap s.heap [] := va_S.rf
  have hl := lv_entry ([.ref al, .ref a, .ref g.2.2.1, .int 0]) (n := 4) (Nat.le_of_ble_eq_true rfl)
  rw [lg_entry_eq]
  generalize (lg_sl ([.ref al, .ref a, .ref g.2.2.1, .int 0]) ++ List.replicate (4 - (lg_sl ([.ref al, .ref a, .ref g.2.2.1, .int 0])).length) Slot.unset).toArray = ls at hl ⊢
  have hl : lv_has ls 4 [(0, .ref al), (1, .ref a), (2, .ref g.2.2.1), (3, .int 0)] := hl
  have hH : s.heap = s.heap := rfl
  obtain ⟨ft, hft⟩ := hE.t
  refine lv_iload_n hx hb dXA_add_2_0 rfl (lv_at hl 3 rfl) ?_
  refine lv_aload_n hx hb dXA_add_2_1 rfl (lv_at hl 2 rfl) ?_
  refine va_tlen (v := 0) hx hb hft hS rfl dXA_add_2_2 ?_
  refine lv_icmp_ne (tgt := 11) hx hb dXA_add_2_3 (by decide) (fun z => absurd rfl z) (fun _ => ?_)
  have e10 : mt_gr1 0 0 = 10 := by decide
  have ec : mt_cap1 0 0 = 10 := by decide
  refine lv_aload_n hx hb dXA_add_2_6 rfl (lv_at hl 0 rfl) ?_
  refine va_callq (va_runV (As := []) (rest := []) ⟨hx, hb, hml, hown, hts⟩ (c_grow0 l g c0 c1 c2 c3 c4 c5 al mo LP nf) (cwV 0 hts (mt_giV mw_228 mw_229 mw_468 mw_4 (mt_gi mw_230)) rfl rfl rfl (by decide +kernel) ⟨Nat.le_of_ble_eq_true rfl, Nat.le_of_ble_eq_true rfl⟩) (mt_preV hE hz hS hP hD (va_recv hK hP (q := (RXA, TXA, 3)) (q0 := 6) rfl rfl)) rfl rfl hl.1 rfl (lv_room (Nat.le_of_ble_eq_true rfl)) dXA_add_2_7 ⟨by show 0 + 1 ≤ 1; omega, by show 0 + 10 ≤ mt_gr1 0 0; omega⟩) hS (fun _ _ h9 => h9) (fun _ h9 => h9) (fun r1 u t1 H locs ht1 hvm1 hpo1 hB1 hz1 hk1 hS => ?_)
  subst hpo1
  obtain ⟨hP, hD⟩ := hB1
  rw [ht1] at hP
  refine lv_astore_n (i := 2) (lv' := [(2, .ref u), (0, .ref al), (1, .ref a), (3, .int 0)]) hx hb dXA_add_2_10 rfl hl (by decide) rfl (fun ls hl => ?_)
  refine lv_aload_n hx hb dXA_add_2_11 rfl (lv_at hl 0 rfl) ?_
  refine lv_iload_n hx hb dXA_add_2_12 rfl (lv_at hl 3 rfl) ?_
  refine lv_aload_n hx hb dXA_add_2_13 rfl (lv_at hl 2 rfl) ?_
  obtain ⟨kp, hkp⟩ := va_pl_get (X := (c0 :: c1 :: c2 :: c3 :: c4 :: c5 :: (al, .inr (3, [.int mo, .ref u, .int 0])) :: (u, .inl (g.2.2.2 0, 10, .inr (.inr (.inr (.inr (fun _ => none)))))) :: [])) (f := fun a => mt_nE (nf a)) ha
  refine va_astqO (D := g.1) (cl := vwCl) (E := "java/lang/Object") (r := (RXN, TXN, 7)) hx hb hK hP hD hS 7 0 kp 0 rfl rfl (hE.w (.castable RXN "java/lang/Object") (by decide +kernel)) hkp rfl (show vp_in 0 10 by unfold vp_in; decide) dXA_add_2_14 (fun H locs hP hD hS => ?_)
  rw [sb_cl0] at hP hD
  have hP : va_P g.1 vwCl (c0 :: c1 :: c2 :: c3 :: c4 :: c5 :: ((al, .inr (3, [.int mo, .ref u, .int 0])) :: (u, .inl (g.2.2.2 0, 10, .inr (.inr (.inr (.inr (va_up (fun _ => none) 0 (some a))))))) :: va_pl LP (fun a => mt_nE (nf a)))) H := hP
  have hD : va_D (mt_A g) (c0 :: c1 :: c2 :: c3 :: c4 :: c5 :: ((al, .inr (3, [.int mo, .ref u, .int 0])) :: (u, .inl (g.2.2.2 0, 10, .inr (.inr (.inr (.inr (va_up (fun _ => none) 0 (some a))))))) :: va_pl LP (fun a => mt_nE (nf a)))) := hD
  refine lv_aload_n hx hb dXA_add_2_15 rfl (lv_at hl 1 rfl) ?_
  refine lv_iload_n hx hb dXA_add_2_16 rfl (lv_at hl 3 rfl) ?_
  refine lv_iconst (v := 1) hx hb dXA_add_2_17 (by decide +kernel) ?_
  refine lv_iadd hx hb dXA_add_2_18 ?_
  refine qa_i (y := (nI (0 + 1))) (by decide) ?_
  refine va_put (D := g.1) (ci := 3) (v := .int (nI (0 + 1))) (ty := .int) (C := RXA) (T := TXA) (N := 3) hx hb hts (fun w h => List.mem_cons_of_mem _ (in_XA w h)) tyXA tyXA_ok nmXA hown hK hP hD hS 6 rfl rfl 2 (by decide) (hts _ (List.mem_cons_of_mem _ mw_42)) (fun _ h9 => h9) rfl (by decide +kernel) rfl rfl (Nat.le_of_ble_eq_true rfl) dXA_add_2_19 (fun H locs hP hD hS => ?_)
  have hP : va_P g.1 vwCl (c0 :: c1 :: c2 :: c3 :: c4 :: c5 :: ((al, .inr (3, [.int mo, .ref u, .int (nI (0 + 1))])) :: (u, .inl (g.2.2.2 0, 10, .inr (.inr (.inr (.inr (va_up (fun _ => none) 0 (some a))))))) :: va_pl LP (fun a => mt_nE (nf a)))) H := hP
  have hD : va_D (mt_A g) (c0 :: c1 :: c2 :: c3 :: c4 :: c5 :: ((al, .inr (3, [.int mo, .ref u, .int (nI (0 + 1))])) :: (u, .inl (g.2.2.2 0, 10, .inr (.inr (.inr (.inr (va_up (fun _ => none) 0 (some a))))))) :: va_pl LP (fun a => mt_nE (nf a)))) := hD
  refine W.widen (k := 1) (n := mt_gr1 0 0) (by omega) (by omega) ?_
  exact W.vret hx hb hr (fun t9 ht hW => ⟨⟨[(al, .inr (3, [.int mo, .ref u, .int (nI (0 + 1))])), (u, .inl (g.2.2.2 0, 10, .inr (.inr (.inr (.inr (va_up (fun _ => none) 0 (some a)))))))], rfl, Or.inr ⟨mo, u, (va_up (fun _ => none) 0 (some a)), by rw [ec], by omega, by omega, fun i hi => ⟨a, by rw [show i = 0 by omega]; exact va_up_self _ _ _, ha⟩⟩, by rw [ht]; exact hP, hD⟩, hS.F ht⟩) hS.2.2 dXA_add_2_22
set_option maxHeartbeats 4000000 in
set_option maxRecDepth 100000 in
/-- ArrayList.add -/
theorem c_add_0 (l : Launch) (g : mt_G) (c0 c1 c2 c3 c4 c5 : Nat × va_E) (al : Nat) (mo : Int32) (LP : List Nat) (nf : Nat → mt_N) (a : Nat) (ha : a ∈ LP) : Met l yXA_add wsXA_add ({ frames := 10, cells := 1, slots := mt_gr1 0 0, locals := 300 }) (mt_Pc g (c0 :: c1 :: c2 :: c3 :: c4 :: c5 :: ((al, .inr (3, [.int mo, .ref g.2.2.1, .int 0])) :: va_pl LP (fun a => mt_nE (nf a)))) [.ref al, .ref a]) (va_Qi (fun r (LL1 : va_W) => r = 1 ∧ mt_LL g al LP (0 + 1) (mt_cap1 0 0) LL1) (fun LL1 t => mt_B g (mt_LW c0 c1 c2 c3 c4 c5 LL1 LP nf) t) (mt_A g)) (1) (mt_gr1 0 0) (mt_A g) := by
  refine Met.ofW (cc := cXA_add) (maxL := 2) (ret := (some .boolean)) (by decide) rfl ?_
  intro p e s m args below meth c s₁ B hml hv
  obtain ⟨rfl, hE, hz, hP, hD⟩ := hv
  have hx := B.exec
  have hb := B.bytes
  have hr := B.returns
  have hts := atoms_spec (ws := wsXA_add) B.pre
  have hown : s.vm.findClass RXA = some m.cls := findClass_of_methodNamed B.named
  have hlocks := B.notSynchronized
  have hK := hE.k
  have hA : ∀ q : Nat, s.heap.size ≤ q → mt_A g q := fun q h => Nat.le_trans hz h
  have hS : va_S (mt_A g) s.heap s.heap [] := va_S.rf
  have hl := lv_entry ([.ref al, .ref a]) (n := 2) (Nat.le_of_ble_eq_true rfl)
  rw [lg_entry_eq]
  generalize (lg_sl ([.ref al, .ref a]) ++ List.replicate (2 - (lg_sl ([.ref al, .ref a])).length) Slot.unset).toArray = ls at hl ⊢
  have hl : lv_has ls 2 [(0, .ref al), (1, .ref a)] := hl
  have hH : s.heap = s.heap := rfl
  refine lv_aload_n hx hb dXA_add_0 rfl (lv_at hl 0 rfl) ?_
  refine lv_dup hx hb dXA_add_1 rfl ?_
  refine va_get (D := g.1) (ci := 3) (v := .int mo) (C := RXA) (T := TXA) (N := 3) hx hb hts (fun w h => List.mem_cons_of_mem _ (in_XA w h)) hown hK hP 6 rfl rfl 0 (by decide) (hts _ (List.mem_cons_of_mem _ mw_44)) (fun x9 h9 => u_same (hts _ (List.mem_cons_of_mem _ mw_45)) x9 h9) rfl dXA_add_2 ?_
  refine lv_iconst (v := 1) hx hb dXA_add_5 (by decide +kernel) ?_
  refine lv_iadd hx hb dXA_add_6 ?_
  refine va_put (D := g.1) (ci := 3) (v := .int (mo + 1)) (ty := .int) (C := RXA) (T := TXA) (N := 3) hx hb hts (fun w h => List.mem_cons_of_mem _ (in_XA w h)) tyXA tyXA_ok nmXA hown hK hP hD hS 6 rfl rfl 0 (by decide) (hts _ (List.mem_cons_of_mem _ mw_44)) (fun x9 h9 => u_same (hts _ (List.mem_cons_of_mem _ mw_45)) x9 h9) rfl (by decide +kernel) rfl rfl (Nat.le_of_ble_eq_true rfl) dXA_add_7 (fun H locs hP hD hS => ?_)
  have hP : va_P g.1 vwCl (c0 :: c1 :: c2 :: c3 :: c4 :: c5 :: ((al, .inr (3, [.int (mo + 1), .ref g.2.2.1, .int 0])) :: va_pl LP (fun a => mt_nE (nf a)))) H := hP
  have hD : va_D (mt_A g) (c0 :: c1 :: c2 :: c3 :: c4 :: c5 :: ((al, .inr (3, [.int (mo + 1), .ref g.2.2.1, .int 0])) :: va_pl LP (fun a => mt_nE (nf a)))) := hD
  refine lv_aload_n hx hb dXA_add_10 rfl (lv_at hl 0 rfl) ?_
  refine lv_aload_n hx hb dXA_add_11 rfl (lv_at hl 1 rfl) ?_
  refine lv_aload_n hx hb dXA_add_12 rfl (lv_at hl 0 rfl) ?_
  refine va_get (D := g.1) (ci := 3) (v := .ref g.2.2.1) (C := RXA) (T := TXA) (N := 3) hx hb hts (fun w h => List.mem_cons_of_mem _ (in_XA w h)) hown hK hP 6 rfl rfl 1 (by decide) (hts _ (List.mem_cons_of_mem _ mw_41)) (fun _ h9 => h9) rfl dXA_add_13 ?_
  refine lv_aload_n hx hb dXA_add_16 rfl (lv_at hl 0 rfl) ?_
  refine va_get (D := g.1) (ci := 3) (v := .int 0) (C := RXA) (T := TXA) (N := 3) hx hb hts (fun w h => List.mem_cons_of_mem _ (in_XA w h)) hown hK hP 6 rfl rfl 2 (by decide) (hts _ (List.mem_cons_of_mem _ mw_42)) (fun _ h9 => h9) rfl dXA_add_17 ?_
  refine va_callv (va_runV (As := [.ref a, .ref g.2.2.1, .int 0]) (rest := []) ⟨hx, hb, hml, hown, hts⟩ (c_add2_0 l g c0 c1 c2 c3 c4 c5 al (mo + 1) LP nf a ha) (cwV 3 hts (mt_giV mw_225 mw_226 mw_467 mw_4 (mt_gi mw_227)) rfl rfl rfl (by decide +kernel) ⟨Nat.le_of_ble_eq_true rfl, Nat.le_of_ble_eq_true rfl⟩) (mt_preV hE hz hS hP hD (va_recv hK hP (q := (RXA, TXA, 3)) (q0 := 6) rfl rfl)) rfl rfl hl.1 rfl (lv_room (Nat.le_of_ble_eq_true rfl)) dXA_add_20 ⟨by show 0 + 1 ≤ 1; omega, by show 0 + mt_gr1 0 0 ≤ mt_gr1 0 0; omega⟩) hS (fun _ _ h9 => h9) (fun _ h9 => h9) (fun LL1 t1 H locs ht1 hvm1 hpo1 hB1 hz1 hk1 hS => ?_)
  obtain ⟨hP, hD⟩ := hB1
  rw [ht1] at hP
  refine lv_iconst (v := 1) hx hb dXA_add_23 (by decide +kernel) ?_
  refine W.cs (Nat.zero_add 1) (Nat.zero_add (mt_gr1 0 0)) ?_
  exact W.zret (v := 1) hx hb hr rfl (fun t9 ht hW => ⟨⟨1, LL1, rfl, ⟨rfl, hpo1⟩, by rw [ht]; exact hP, hD⟩, hS.F ht⟩) hS.2.2 dXA_add_24
set_option maxHeartbeats 4000000 in
set_option maxRecDepth 100000 in
/-- ArrayList.add, its helper -/
theorem c_add2_r (l : Launch) (g : mt_G) (c0 c1 c2 c3 c4 c5 : Nat × va_E) (al : Nat) (mo : Int32) (LP : List Nat) (nf : Nat → mt_N) (a : Nat) (ha : a ∈ LP) (n cap ae : Nat) (fe : Nat → Option Nat) (hnc : n < cap) (hcap : cap < 20000) (hel : ∀ i, i < n → ∃ a, fe i = some a ∧ a ∈ LP) : Met l yXA_add_2 wsXA_add_2 ({ frames := 7, cells := 1, slots := mt_gr1 n cap, locals := 240 }) (mt_Pc g (c0 :: c1 :: c2 :: c3 :: c4 :: c5 :: ((al, .inr (3, [.int mo, .ref ae, .int (nI n)])) :: (ae, .inl (g.2.2.2 0, cap, .inr (.inr (.inr (.inr fe))))) :: va_pl LP (fun a => mt_nE (nf a)))) [.ref al, .ref a, .ref ae, .int (nI n)]) (va_Qv (fun (LL1 : va_W) => mt_LL g al LP (n + 1) (mt_cap1 n cap) LL1) (fun LL1 t => mt_B g (mt_LW c0 c1 c2 c3 c4 c5 LL1 LP nf) t) (mt_A g)) (1) (mt_gr1 n cap) (mt_A g) := by
  refine Met.ofW (cc := cXA_add_2) (maxL := 4) (ret := none) (by decide) rfl ?_
  intro p e s m args below meth c s₁ B hml hv
  obtain ⟨rfl, hE, hz, hP, hD⟩ := hv
  have hx := B.exec
  have hb := B.bytes
  have hr := B.returns
  have hts := atoms_spec (ws := wsXA_add_2) B.pre
  have hown : s.vm.findClass RXA = some m.cls := findClass_of_methodNamed B.named
  have hlocks := B.notSynchronized
  have hK := hE.k
  have hA : ∀ q : Nat, s.heap.size ≤ q → mt_A g q := fun q h => Nat.le_trans hz h
  have hS : va_S (mt_A g) s.heap s.heap [] := va_S.rf
  have hl := lv_entry ([.ref al, .ref a, .ref ae, .int (nI n)]) (n := 4) (Nat.le_of_ble_eq_true rfl)
  rw [lg_entry_eq]
  generalize (lg_sl ([.ref al, .ref a, .ref ae, .int (nI n)]) ++ List.replicate (4 - (lg_sl ([.ref al, .ref a, .ref ae, .int (nI n)])).length) Slot.unset).toArray = ls at hl ⊢
  have hl : lv_has ls 4 [(0, .ref al), (1, .ref a), (2, .ref ae), (3, .int (nI n))] := hl
  have hH : s.heap = s.heap := rfl
  refine lv_iload_n hx hb dXA_add_2_0 rfl (lv_at hl 3 rfl) ?_
  refine lv_aload_n hx hb dXA_add_2_1 rfl (lv_at hl 2 rfl) ?_
  refine va_alen (D := g.1) (cl := vwCl) (ty := .object "java/lang/Object") (v := nI cap) hx hb hK hP 7 0 rfl rfl rfl dXA_add_2_2 ?_
  refine lv_icmp_ne (tgt := 11) hx hb dXA_add_2_3 (by decide) (fun _ => ?_) (fun z => absurd z (fun e9 => absurd ((nI_eq (by omega) (by omega)).mp e9) (by omega)))
  have ec : mt_cap1 n cap = cap := if_pos hnc
  refine lv_aload_n hx hb dXA_add_2_11 rfl (lv_at hl 2 rfl) ?_
  refine lv_iload_n hx hb dXA_add_2_12 rfl (lv_at hl 3 rfl) ?_
  refine lv_aload_n hx hb dXA_add_2_13 rfl (lv_at hl 1 rfl) ?_
  obtain ⟨kp, hkp⟩ := va_pl_get (X := (c0 :: c1 :: c2 :: c3 :: c4 :: c5 :: (al, .inr (3, [.int mo, .ref ae, .int (nI n)])) :: (ae, .inl (g.2.2.2 0, cap, .inr (.inr (.inr (.inr fe))))) :: [])) (f := fun a => mt_nE (nf a)) ha
  refine va_astqO (D := g.1) (cl := vwCl) (E := "java/lang/Object") (r := (RXN, TXN, 7)) hx hb hK hP hD hS 7 0 kp 0 rfl rfl (hE.w (.castable RXN "java/lang/Object") (by decide +kernel)) hkp rfl (vp_in_nI (n := n) (by omega) (by omega)) dXA_add_2_14 (fun H locs hP hD hS => ?_)
  rw [nI_clamp (by omega)] at hP hD
  have hP : va_P g.1 vwCl (c0 :: c1 :: c2 :: c3 :: c4 :: c5 :: ((al, .inr (3, [.int mo, .ref ae, .int (nI n)])) :: (ae, .inl (g.2.2.2 0, cap, .inr (.inr (.inr (.inr (va_up (fe) n (some a))))))) :: va_pl LP (fun a => mt_nE (nf a)))) H := hP
  have hD : va_D (mt_A g) (c0 :: c1 :: c2 :: c3 :: c4 :: c5 :: ((al, .inr (3, [.int mo, .ref ae, .int (nI n)])) :: (ae, .inl (g.2.2.2 0, cap, .inr (.inr (.inr (.inr (va_up (fe) n (some a))))))) :: va_pl LP (fun a => mt_nE (nf a)))) := hD
  refine lv_aload_n hx hb dXA_add_2_15 rfl (lv_at hl 0 rfl) ?_
  refine lv_iload_n hx hb dXA_add_2_16 rfl (lv_at hl 3 rfl) ?_
  refine lv_iconst (v := 1) hx hb dXA_add_2_17 (by decide +kernel) ?_
  refine lv_iadd hx hb dXA_add_2_18 ?_
  refine qa_i (y := (nI (n + 1))) (nI_1 n) ?_
  refine va_put (D := g.1) (ci := 3) (v := .int (nI (n + 1))) (ty := .int) (C := RXA) (T := TXA) (N := 3) hx hb hts (fun w h => List.mem_cons_of_mem _ (in_XA w h)) tyXA tyXA_ok nmXA hown hK hP hD hS 6 rfl rfl 2 (by decide) (hts _ (List.mem_cons_of_mem _ mw_42)) (fun _ h9 => h9) rfl (by decide +kernel) rfl rfl (Nat.le_of_ble_eq_true rfl) dXA_add_2_19 (fun H locs hP hD hS => ?_)
  have hP : va_P g.1 vwCl (c0 :: c1 :: c2 :: c3 :: c4 :: c5 :: ((al, .inr (3, [.int mo, .ref ae, .int (nI (n + 1))])) :: (ae, .inl (g.2.2.2 0, cap, .inr (.inr (.inr (.inr (va_up (fe) n (some a))))))) :: va_pl LP (fun a => mt_nE (nf a)))) H := hP
  have hD : va_D (mt_A g) (c0 :: c1 :: c2 :: c3 :: c4 :: c5 :: ((al, .inr (3, [.int mo, .ref ae, .int (nI (n + 1))])) :: (ae, .inl (g.2.2.2 0, cap, .inr (.inr (.inr (.inr (va_up (fe) n (some a))))))) :: va_pl LP (fun a => mt_nE (nf a)))) := hD
  refine W.widen (k := 1) (n := mt_gr1 n cap) (by omega) (by omega) ?_
  exact W.vret hx hb hr (fun t9 ht hW => ⟨⟨[(al, .inr (3, [.int mo, .ref ae, .int (nI (n + 1))])), (ae, .inl (g.2.2.2 0, cap, .inr (.inr (.inr (.inr (va_up (fe) n (some a)))))))], rfl, Or.inr ⟨mo, ae, (va_up (fe) n (some a)), by rw [ec], by omega, by omega, fun i hi => by by_cases e9 : i = n; (subst e9; exact ⟨a, va_up_self _ _ _, ha⟩); (rw [va_up_ne _ _ e9]; exact (hel i (by omega)))⟩, by rw [ht]; exact hP, hD⟩, hS.F ht⟩) hS.2.2 dXA_add_2_22
set_option maxHeartbeats 4000000 in
set_option maxRecDepth 100000 in
/-- ArrayList.add -/
theorem c_add_r (l : Launch) (g : mt_G) (c0 c1 c2 c3 c4 c5 : Nat × va_E) (al : Nat) (mo : Int32) (LP : List Nat) (nf : Nat → mt_N) (a : Nat) (ha : a ∈ LP) (n cap ae : Nat) (fe : Nat → Option Nat) (hnc : n < cap) (hcap : cap < 20000) (hel : ∀ i, i < n → ∃ a, fe i = some a ∧ a ∈ LP) : Met l yXA_add wsXA_add ({ frames := 10, cells := 1, slots := mt_gr1 n cap, locals := 300 }) (mt_Pc g (c0 :: c1 :: c2 :: c3 :: c4 :: c5 :: ((al, .inr (3, [.int mo, .ref ae, .int (nI n)])) :: (ae, .inl (g.2.2.2 0, cap, .inr (.inr (.inr (.inr fe))))) :: va_pl LP (fun a => mt_nE (nf a)))) [.ref al, .ref a]) (va_Qi (fun r (LL1 : va_W) => r = 1 ∧ mt_LL g al LP (n + 1) (mt_cap1 n cap) LL1) (fun LL1 t => mt_B g (mt_LW c0 c1 c2 c3 c4 c5 LL1 LP nf) t) (mt_A g)) (1) (mt_gr1 n cap) (mt_A g) := by
  refine Met.ofW (cc := cXA_add) (maxL := 2) (ret := (some .boolean)) (by decide) rfl ?_
  intro p e s m args below meth c s₁ B hml hv
  obtain ⟨rfl, hE, hz, hP, hD⟩ := hv
  have hx := B.exec
  have hb := B.bytes
  have hr := B.returns
  have hts := atoms_spec (ws := wsXA_add) B.pre
  have hown : s.vm.findClass RXA = some m.cls := findClass_of_methodNamed B.named
  have hlocks := B.notSynchronized
  have hK := hE.k
  have hA : ∀ q : Nat, s.heap.size ≤ q → mt_A g q := fun q h => Nat.le_trans hz h
  have hS : va_S (mt_A g) s.heap s.heap [] := va_S.rf
  have hl := lv_entry ([.ref al, .ref a]) (n := 2) (Nat.le_of_ble_eq_true rfl)
  rw [lg_entry_eq]
  generalize (lg_sl ([.ref al, .ref a]) ++ List.replicate (2 - (lg_sl ([.ref al, .ref a])).length) Slot.unset).toArray = ls at hl ⊢
  have hl : lv_has ls 2 [(0, .ref al), (1, .ref a)] := hl
  have hH : s.heap = s.heap := rfl
  refine lv_aload_n hx hb dXA_add_0 rfl (lv_at hl 0 rfl) ?_
  refine lv_dup hx hb dXA_add_1 rfl ?_
  refine va_get (D := g.1) (ci := 3) (v := .int mo) (C := RXA) (T := TXA) (N := 3) hx hb hts (fun w h => List.mem_cons_of_mem _ (in_XA w h)) hown hK hP 6 rfl rfl 0 (by decide) (hts _ (List.mem_cons_of_mem _ mw_44)) (fun x9 h9 => u_same (hts _ (List.mem_cons_of_mem _ mw_45)) x9 h9) rfl dXA_add_2 ?_
  refine lv_iconst (v := 1) hx hb dXA_add_5 (by decide +kernel) ?_
  refine lv_iadd hx hb dXA_add_6 ?_
  refine va_put (D := g.1) (ci := 3) (v := .int (mo + 1)) (ty := .int) (C := RXA) (T := TXA) (N := 3) hx hb hts (fun w h => List.mem_cons_of_mem _ (in_XA w h)) tyXA tyXA_ok nmXA hown hK hP hD hS 6 rfl rfl 0 (by decide) (hts _ (List.mem_cons_of_mem _ mw_44)) (fun x9 h9 => u_same (hts _ (List.mem_cons_of_mem _ mw_45)) x9 h9) rfl (by decide +kernel) rfl rfl (Nat.le_of_ble_eq_true rfl) dXA_add_7 (fun H locs hP hD hS => ?_)
  have hP : va_P g.1 vwCl (c0 :: c1 :: c2 :: c3 :: c4 :: c5 :: ((al, .inr (3, [.int (mo + 1), .ref ae, .int (nI n)])) :: (ae, .inl (g.2.2.2 0, cap, .inr (.inr (.inr (.inr fe))))) :: va_pl LP (fun a => mt_nE (nf a)))) H := hP
  have hD : va_D (mt_A g) (c0 :: c1 :: c2 :: c3 :: c4 :: c5 :: ((al, .inr (3, [.int (mo + 1), .ref ae, .int (nI n)])) :: (ae, .inl (g.2.2.2 0, cap, .inr (.inr (.inr (.inr fe))))) :: va_pl LP (fun a => mt_nE (nf a)))) := hD
  refine lv_aload_n hx hb dXA_add_10 rfl (lv_at hl 0 rfl) ?_
  refine lv_aload_n hx hb dXA_add_11 rfl (lv_at hl 1 rfl) ?_
  refine lv_aload_n hx hb dXA_add_12 rfl (lv_at hl 0 rfl) ?_
  refine va_get (D := g.1) (ci := 3) (v := .ref ae) (C := RXA) (T := TXA) (N := 3) hx hb hts (fun w h => List.mem_cons_of_mem _ (in_XA w h)) hown hK hP 6 rfl rfl 1 (by decide) (hts _ (List.mem_cons_of_mem _ mw_41)) (fun _ h9 => h9) rfl dXA_add_13 ?_
  refine lv_aload_n hx hb dXA_add_16 rfl (lv_at hl 0 rfl) ?_
  refine va_get (D := g.1) (ci := 3) (v := .int (nI n)) (C := RXA) (T := TXA) (N := 3) hx hb hts (fun w h => List.mem_cons_of_mem _ (in_XA w h)) hown hK hP 6 rfl rfl 2 (by decide) (hts _ (List.mem_cons_of_mem _ mw_42)) (fun _ h9 => h9) rfl dXA_add_17 ?_
  refine va_callv (va_runV (As := [.ref a, .ref ae, .int (nI n)]) (rest := []) ⟨hx, hb, hml, hown, hts⟩ (c_add2_r l g c0 c1 c2 c3 c4 c5 al (mo + 1) LP nf a ha n cap ae fe hnc hcap hel) (cwV 3 hts (mt_giV mw_225 mw_226 mw_467 mw_4 (mt_gi mw_227)) rfl rfl rfl (by decide +kernel) ⟨Nat.le_of_ble_eq_true rfl, Nat.le_of_ble_eq_true rfl⟩) (mt_preV hE hz hS hP hD (va_recv hK hP (q := (RXA, TXA, 3)) (q0 := 6) rfl rfl)) rfl rfl hl.1 rfl (lv_room (Nat.le_of_ble_eq_true rfl)) dXA_add_20 ⟨by show 0 + 1 ≤ 1; omega, by show 0 + mt_gr1 n cap ≤ mt_gr1 n cap; omega⟩) hS (fun _ _ h9 => h9) (fun _ h9 => h9) (fun LL1 t1 H locs ht1 hvm1 hpo1 hB1 hz1 hk1 hS => ?_)
  obtain ⟨hP, hD⟩ := hB1
  rw [ht1] at hP
  refine lv_iconst (v := 1) hx hb dXA_add_23 (by decide +kernel) ?_
  refine W.cs (Nat.zero_add 1) (Nat.zero_add (mt_gr1 n cap)) ?_
  exact W.zret (v := 1) hx hb hr rfl (fun t9 ht hW => ⟨⟨1, LL1, rfl, ⟨rfl, hpo1⟩, by rw [ht]; exact hP, hD⟩, hS.F ht⟩) hS.2.2 dXA_add_24
set_option maxHeartbeats 4000000 in
set_option maxRecDepth 100000 in
/-- ArrayList.add, its helper -/
theorem c_add2_f (l : Launch) (g : mt_G) (c0 c1 c2 c3 c4 c5 : Nat × va_E) (al : Nat) (mo : Int32) (LP : List Nat) (nf : Nat → mt_N) (a : Nat) (ha : a ∈ LP) (n ae : Nat) (fe : Nat → Option Nat) (hn0 : 10 ≤ n) (hn5 : n < 9000) (hel : ∀ i, i < n → ∃ a, fe i = some a ∧ a ∈ LP) : Met l yXA_add_2 wsXA_add_2 ({ frames := 7, cells := 1, slots := mt_gr1 n n, locals := 240 }) (mt_Pc g (c0 :: c1 :: c2 :: c3 :: c4 :: c5 :: ((al, .inr (3, [.int mo, .ref ae, .int (nI n)])) :: (ae, .inl (g.2.2.2 0, n, .inr (.inr (.inr (.inr fe))))) :: va_pl LP (fun a => mt_nE (nf a)))) [.ref al, .ref a, .ref ae, .int (nI n)]) (va_Qv (fun (LL1 : va_W) => mt_LL g al LP (n + 1) (mt_cap1 n n) LL1) (fun LL1 t => mt_B g (mt_LW c0 c1 c2 c3 c4 c5 LL1 LP nf) t) (mt_A g)) (1) (mt_gr1 n n) (mt_A g) := by
  refine Met.ofW (cc := cXA_add_2) (maxL := 4) (ret := none) (by decide) rfl ?_
  intro p e s m args below meth c s₁ B hml hv
  obtain ⟨rfl, hE, hz, hP, hD⟩ := hv
  have hx := B.exec
  have hb := B.bytes
  have hr := B.returns
  have hts := atoms_spec (ws := wsXA_add_2) B.pre
  have hown : s.vm.findClass RXA = some m.cls := findClass_of_methodNamed B.named
  have hlocks := B.notSynchronized
  have hK := hE.k
  have hA : ∀ q : Nat, s.heap.size ≤ q → mt_A g q := fun q h => Nat.le_trans hz h
  have hS : va_S (mt_A g) s.heap s.heap [] := va_S.rf
  have hl := lv_entry ([.ref al, .ref a, .ref ae, .int (nI n)]) (n := 4) (Nat.le_of_ble_eq_true rfl)
  rw [lg_entry_eq]
  generalize (lg_sl ([.ref al, .ref a, .ref ae, .int (nI n)]) ++ List.replicate (4 - (lg_sl ([.ref al, .ref a, .ref ae, .int (nI n)])).length) Slot.unset).toArray = ls at hl ⊢
  have hl : lv_has ls 4 [(0, .ref al), (1, .ref a), (2, .ref ae), (3, .int (nI n))] := hl
  have hH : s.heap = s.heap := rfl
  refine lv_iload_n hx hb dXA_add_2_0 rfl (lv_at hl 3 rfl) ?_
  refine lv_aload_n hx hb dXA_add_2_1 rfl (lv_at hl 2 rfl) ?_
  refine va_alen (D := g.1) (cl := vwCl) (ty := .object "java/lang/Object") (v := nI n) hx hb hK hP 7 0 rfl rfl rfl dXA_add_2_2 ?_
  refine lv_icmp_ne (tgt := 11) hx hb dXA_add_2_3 (by decide) (fun z => absurd rfl z) (fun _ => ?_)
  have ec : mt_cap1 n n = n + n / 2 := by unfold mt_cap1; rw [if_neg (Nat.lt_irrefl n), if_neg (by omega)]
  have e10 : mt_gr1 n n = n + n / 2 := by unfold mt_gr1; rw [if_neg (Nat.lt_irrefl n)]; exact ec
  refine lv_aload_n hx hb dXA_add_2_6 rfl (lv_at hl 0 rfl) ?_
  refine va_callq (va_runV (As := []) (rest := []) ⟨hx, hb, hml, hown, hts⟩ (c_grow1 l g c0 c1 c2 c3 c4 c5 al mo LP nf n ae fe hn0 (by omega) hel) (cwV 0 hts (mt_giV mw_228 mw_229 mw_468 mw_4 (mt_gi mw_230)) rfl rfl rfl (by decide +kernel) ⟨Nat.le_of_ble_eq_true rfl, Nat.le_of_ble_eq_true rfl⟩) (mt_preV hE hz hS hP hD (va_recv hK hP (q := (RXA, TXA, 3)) (q0 := 6) rfl rfl)) rfl rfl hl.1 rfl (lv_room (Nat.le_of_ble_eq_true rfl)) dXA_add_2_7 ⟨by show 0 + 1 ≤ 1; omega, by show 0 + (n + n / 2) ≤ mt_gr1 n n; omega⟩) hS (fun _ _ h9 => h9) (fun _ h9 => h9) (fun r1 u t1 H locs ht1 hvm1 hpo1 hB1 hz1 hk1 hS => ?_)
  subst hpo1
  obtain ⟨hP, hD⟩ := hB1
  rw [ht1] at hP
  refine lv_astore_n (i := 2) (lv' := [(2, .ref u), (0, .ref al), (1, .ref a), (3, .int (nI n))]) hx hb dXA_add_2_10 rfl hl (by decide) rfl (fun ls hl => ?_)
  refine lv_aload_n hx hb dXA_add_2_11 rfl (lv_at hl 0 rfl) ?_
  refine lv_iload_n hx hb dXA_add_2_12 rfl (lv_at hl 3 rfl) ?_
  refine lv_aload_n hx hb dXA_add_2_13 rfl (lv_at hl 2 rfl) ?_
  obtain ⟨kp, hkp⟩ := va_pl_get (X := (c0 :: c1 :: c2 :: c3 :: c4 :: c5 :: (al, .inr (3, [.int mo, .ref u, .int (nI n)])) :: (u, .inl (g.2.2.2 0, (n + n / 2), .inr (.inr (.inr (.inr (va_cpy fe (fun _ => none) 0 0 n)))))) :: [])) (f := fun a => mt_nE (nf a)) ha
  refine va_astqO (D := g.1) (cl := vwCl) (E := "java/lang/Object") (r := (RXN, TXN, 7)) hx hb hK hP hD hS 7 0 kp 0 rfl rfl (hE.w (.castable RXN "java/lang/Object") (by decide +kernel)) hkp rfl (vp_in_nI (n := n) (by omega) (by omega)) dXA_add_2_14 (fun H locs hP hD hS => ?_)
  rw [nI_clamp (by omega)] at hP hD
  have hP : va_P g.1 vwCl (c0 :: c1 :: c2 :: c3 :: c4 :: c5 :: ((al, .inr (3, [.int mo, .ref u, .int (nI n)])) :: (u, .inl (g.2.2.2 0, (n + n / 2), .inr (.inr (.inr (.inr (va_up (va_cpy fe (fun _ => none) 0 0 n) n (some a))))))) :: va_pl LP (fun a => mt_nE (nf a)))) H := hP
  have hD : va_D (mt_A g) (c0 :: c1 :: c2 :: c3 :: c4 :: c5 :: ((al, .inr (3, [.int mo, .ref u, .int (nI n)])) :: (u, .inl (g.2.2.2 0, (n + n / 2), .inr (.inr (.inr (.inr (va_up (va_cpy fe (fun _ => none) 0 0 n) n (some a))))))) :: va_pl LP (fun a => mt_nE (nf a)))) := hD
  refine lv_aload_n hx hb dXA_add_2_15 rfl (lv_at hl 1 rfl) ?_
  refine lv_iload_n hx hb dXA_add_2_16 rfl (lv_at hl 3 rfl) ?_
  refine lv_iconst (v := 1) hx hb dXA_add_2_17 (by decide +kernel) ?_
  refine lv_iadd hx hb dXA_add_2_18 ?_
  refine qa_i (y := (nI (n + 1))) (nI_1 n) ?_
  refine va_put (D := g.1) (ci := 3) (v := .int (nI (n + 1))) (ty := .int) (C := RXA) (T := TXA) (N := 3) hx hb hts (fun w h => List.mem_cons_of_mem _ (in_XA w h)) tyXA tyXA_ok nmXA hown hK hP hD hS 6 rfl rfl 2 (by decide) (hts _ (List.mem_cons_of_mem _ mw_42)) (fun _ h9 => h9) rfl (by decide +kernel) rfl rfl (Nat.le_of_ble_eq_true rfl) dXA_add_2_19 (fun H locs hP hD hS => ?_)
  have hP : va_P g.1 vwCl (c0 :: c1 :: c2 :: c3 :: c4 :: c5 :: ((al, .inr (3, [.int mo, .ref u, .int (nI (n + 1))])) :: (u, .inl (g.2.2.2 0, (n + n / 2), .inr (.inr (.inr (.inr (va_up (va_cpy fe (fun _ => none) 0 0 n) n (some a))))))) :: va_pl LP (fun a => mt_nE (nf a)))) H := hP
  have hD : va_D (mt_A g) (c0 :: c1 :: c2 :: c3 :: c4 :: c5 :: ((al, .inr (3, [.int mo, .ref u, .int (nI (n + 1))])) :: (u, .inl (g.2.2.2 0, (n + n / 2), .inr (.inr (.inr (.inr (va_up (va_cpy fe (fun _ => none) 0 0 n) n (some a))))))) :: va_pl LP (fun a => mt_nE (nf a)))) := hD
  refine W.widen (k := 1) (n := mt_gr1 n n) (by omega) (by omega) ?_
  exact W.vret hx hb hr (fun t9 ht hW => ⟨⟨[(al, .inr (3, [.int mo, .ref u, .int (nI (n + 1))])), (u, .inl (g.2.2.2 0, (n + n / 2), .inr (.inr (.inr (.inr (va_up (va_cpy fe (fun _ => none) 0 0 n) n (some a)))))))], rfl, Or.inr ⟨mo, u, (va_up (va_cpy fe (fun _ => none) 0 0 n) n (some a)), by rw [ec], by omega, by omega, fun i hi => by by_cases e9 : i = n; (subst e9; exact ⟨a, va_up_self _ _ _, ha⟩); (rw [va_up_ne _ _ e9]; exact (by rw [pk_cpy_in (by omega) (by omega), Nat.zero_add, Nat.sub_zero]; exact hel i (by omega)))⟩, by rw [ht]; exact hP, hD⟩, hS.F ht⟩) hS.2.2 dXA_add_2_22
set_option maxHeartbeats 4000000 in
set_option maxRecDepth 100000 in
/-- ArrayList.add -/
theorem c_add_f (l : Launch) (g : mt_G) (c0 c1 c2 c3 c4 c5 : Nat × va_E) (al : Nat) (mo : Int32) (LP : List Nat) (nf : Nat → mt_N) (a : Nat) (ha : a ∈ LP) (n ae : Nat) (fe : Nat → Option Nat) (hn0 : 10 ≤ n) (hn5 : n < 9000) (hel : ∀ i, i < n → ∃ a, fe i = some a ∧ a ∈ LP) : Met l yXA_add wsXA_add ({ frames := 10, cells := 1, slots := mt_gr1 n n, locals := 300 }) (mt_Pc g (c0 :: c1 :: c2 :: c3 :: c4 :: c5 :: ((al, .inr (3, [.int mo, .ref ae, .int (nI n)])) :: (ae, .inl (g.2.2.2 0, n, .inr (.inr (.inr (.inr fe))))) :: va_pl LP (fun a => mt_nE (nf a)))) [.ref al, .ref a]) (va_Qi (fun r (LL1 : va_W) => r = 1 ∧ mt_LL g al LP (n + 1) (mt_cap1 n n) LL1) (fun LL1 t => mt_B g (mt_LW c0 c1 c2 c3 c4 c5 LL1 LP nf) t) (mt_A g)) (1) (mt_gr1 n n) (mt_A g) := by
  refine Met.ofW (cc := cXA_add) (maxL := 2) (ret := (some .boolean)) (by decide) rfl ?_
  intro p e s m args below meth c s₁ B hml hv
  obtain ⟨rfl, hE, hz, hP, hD⟩ := hv
  have hx := B.exec
  have hb := B.bytes
  have hr := B.returns
  have hts := atoms_spec (ws := wsXA_add) B.pre
  have hown : s.vm.findClass RXA = some m.cls := findClass_of_methodNamed B.named
  have hlocks := B.notSynchronized
  have hK := hE.k
  have hA : ∀ q : Nat, s.heap.size ≤ q → mt_A g q := fun q h => Nat.le_trans hz h
  have hS : va_S (mt_A g) s.heap s.heap [] := va_S.rf
  have hl := lv_entry ([.ref al, .ref a]) (n := 2) (Nat.le_of_ble_eq_true rfl)
  rw [lg_entry_eq]
  generalize (lg_sl ([.ref al, .ref a]) ++ List.replicate (2 - (lg_sl ([.ref al, .ref a])).length) Slot.unset).toArray = ls at hl ⊢
  have hl : lv_has ls 2 [(0, .ref al), (1, .ref a)] := hl
  have hH : s.heap = s.heap := rfl
  refine lv_aload_n hx hb dXA_add_0 rfl (lv_at hl 0 rfl) ?_
  refine lv_dup hx hb dXA_add_1 rfl ?_
  refine va_get (D := g.1) (ci := 3) (v := .int mo) (C := RXA) (T := TXA) (N := 3) hx hb hts (fun w h => List.mem_cons_of_mem _ (in_XA w h)) hown hK hP 6 rfl rfl 0 (by decide) (hts _ (List.mem_cons_of_mem _ mw_44)) (fun x9 h9 => u_same (hts _ (List.mem_cons_of_mem _ mw_45)) x9 h9) rfl dXA_add_2 ?_
  refine lv_iconst (v := 1) hx hb dXA_add_5 (by decide +kernel) ?_
  refine lv_iadd hx hb dXA_add_6 ?_
  refine va_put (D := g.1) (ci := 3) (v := .int (mo + 1)) (ty := .int) (C := RXA) (T := TXA) (N := 3) hx hb hts (fun w h => List.mem_cons_of_mem _ (in_XA w h)) tyXA tyXA_ok nmXA hown hK hP hD hS 6 rfl rfl 0 (by decide) (hts _ (List.mem_cons_of_mem _ mw_44)) (fun x9 h9 => u_same (hts _ (List.mem_cons_of_mem _ mw_45)) x9 h9) rfl (by decide +kernel) rfl rfl (Nat.le_of_ble_eq_true rfl) dXA_add_7 (fun H locs hP hD hS => ?_)
  have hP : va_P g.1 vwCl (c0 :: c1 :: c2 :: c3 :: c4 :: c5 :: ((al, .inr (3, [.int (mo + 1), .ref ae, .int (nI n)])) :: (ae, .inl (g.2.2.2 0, n, .inr (.inr (.inr (.inr fe))))) :: va_pl LP (fun a => mt_nE (nf a)))) H := hP
  have hD : va_D (mt_A g) (c0 :: c1 :: c2 :: c3 :: c4 :: c5 :: ((al, .inr (3, [.int (mo + 1), .ref ae, .int (nI n)])) :: (ae, .inl (g.2.2.2 0, n, .inr (.inr (.inr (.inr fe))))) :: va_pl LP (fun a => mt_nE (nf a)))) := hD
  refine lv_aload_n hx hb dXA_add_10 rfl (lv_at hl 0 rfl) ?_
  refine lv_aload_n hx hb dXA_add_11 rfl (lv_at hl 1 rfl) ?_
  refine lv_aload_n hx hb dXA_add_12 rfl (lv_at hl 0 rfl) ?_
  refine va_get (D := g.1) (ci := 3) (v := .ref ae) (C := RXA) (T := TXA) (N := 3) hx hb hts (fun w h => List.mem_cons_of_mem _ (in_XA w h)) hown hK hP 6 rfl rfl 1 (by decide) (hts _ (List.mem_cons_of_mem _ mw_41)) (fun _ h9 => h9) rfl dXA_add_13 ?_
  refine lv_aload_n hx hb dXA_add_16 rfl (lv_at hl 0 rfl) ?_
  refine va_get (D := g.1) (ci := 3) (v := .int (nI n)) (C := RXA) (T := TXA) (N := 3) hx hb hts (fun w h => List.mem_cons_of_mem _ (in_XA w h)) hown hK hP 6 rfl rfl 2 (by decide) (hts _ (List.mem_cons_of_mem _ mw_42)) (fun _ h9 => h9) rfl dXA_add_17 ?_
  refine va_callv (va_runV (As := [.ref a, .ref ae, .int (nI n)]) (rest := []) ⟨hx, hb, hml, hown, hts⟩ (c_add2_f l g c0 c1 c2 c3 c4 c5 al (mo + 1) LP nf a ha n ae fe hn0 hn5 hel) (cwV 3 hts (mt_giV mw_225 mw_226 mw_467 mw_4 (mt_gi mw_227)) rfl rfl rfl (by decide +kernel) ⟨Nat.le_of_ble_eq_true rfl, Nat.le_of_ble_eq_true rfl⟩) (mt_preV hE hz hS hP hD (va_recv hK hP (q := (RXA, TXA, 3)) (q0 := 6) rfl rfl)) rfl rfl hl.1 rfl (lv_room (Nat.le_of_ble_eq_true rfl)) dXA_add_20 ⟨by show 0 + 1 ≤ 1; omega, by show 0 + mt_gr1 n n ≤ mt_gr1 n n; omega⟩) hS (fun _ _ h9 => h9) (fun _ h9 => h9) (fun LL1 t1 H locs ht1 hvm1 hpo1 hB1 hz1 hk1 hS => ?_)
  obtain ⟨hP, hD⟩ := hB1
  rw [ht1] at hP
  refine lv_iconst (v := 1) hx hb dXA_add_23 (by decide +kernel) ?_
  refine W.cs (Nat.zero_add 1) (Nat.zero_add (mt_gr1 n n)) ?_
  exact W.zret (v := 1) hx hb hr rfl (fun t9 ht hW => ⟨⟨1, LL1, rfl, ⟨rfl, hpo1⟩, by rw [ht]; exact hP, hD⟩, hS.F ht⟩) hS.2.2 dXA_add_24
theorem c_add (l : Launch) (g : mt_G) (c0 c1 c2 c3 c4 c5 : Nat × va_E) (al n cap : Nat) (LL : va_W) (LP : List Nat) (nf : Nat → mt_N) (hLL : mt_LL g al LP n cap LL) (hlc : mt_lc n cap) (hn5 : n < 5000) (a : Nat) (ha : a ∈ LP) : Met l yXA_add wsXA_add ({ frames := 10, cells := 1, slots := mt_gr1 n cap, locals := 300 }) (mt_Pc g (mt_LW c0 c1 c2 c3 c4 c5 LL LP nf) [.ref al, .ref a]) (va_Qi (fun r (LL1 : va_W) => r = 1 ∧ mt_LL g al LP (n + 1) (mt_cap1 n cap) LL1) (fun LL1 t => mt_B g (mt_LW c0 c1 c2 c3 c4 c5 LL1 LP nf) t) (mt_A g)) 1 (mt_gr1 n cap) (mt_A g) := by
  have hmx := mt_lc_max hlc
  rcases hLL with ⟨rfl, rfl, mo, rfl⟩ | ⟨mo, ae, fe, rfl, hcap, hnc, hel⟩
  · exact c_add_0 l g c0 c1 c2 c3 c4 c5 al mo LP nf a ha
  · by_cases hlt : n < cap
    · exact c_add_r l g c0 c1 c2 c3 c4 c5 al mo LP nf a ha n cap ae fe hlt (by omega) hel
    · have e : cap = n := by omega
      subst e
      have h10 : 10 ≤ cap := by
        unfold mt_lc at hlc
        omega
      exact c_add_f l g c0 c1 c2 c3 c4 c5 al mo LP nf a ha cap ae fe h10 (by omega) hel
