set_option maxHeartbeats 4000000 in
set_option maxRecDepth 100000 in
/-- AbstractCollection() -/
theorem c_XC_init (l : Launch) (g : mt_G) (c0 c1 : Nat × va_E) (al : Nat) : Met l yXC_init wsXC_init ({ frames := 1, cells := 0, slots := 0, locals := 12 }) (mt_Pc g [c0, c1, (al, .inr (3, [.int 0, .null, .int 0]))] [.ref al]) (va_Qv (fun _ : Unit => True) (fun _ t => mt_B g ([c0, c1, (al, .inr (3, [.int 0, .null, .int 0]))]) t) (mt_A g)) (0) (0) (mt_A g) := by
  refine Met.ofW (cc := cXC_init) (maxL := 1) (ret := none) (by decide) rfl ?_
  intro p e s m args below meth c s₁ B hml hv
  obtain ⟨rfl, hE, hz, hP, hD⟩ := hv
  have hx := B.exec
  have hb := B.bytes
  have hr := B.returns
  have hts := atoms_spec (ws := wsXC_init) B.pre
  have hown : s.vm.findClass RXC = some m.cls := findClass_of_methodNamed B.named
  have hlocks := B.notSynchronized
  have hin : meth.name = "<init>" := (name_of_methodNamed B.named B.method).1
  have hK := hE.k
  have hA : ∀ q : Nat, s.heap.size ≤ q → mt_A g q := fun q h => Nat.le_trans hz h
  have hS : va_S (mt_A g) s.heap s.heap [] := va_S.rf
  have hl := lv_entry ([.ref al]) (n := 1) (Nat.le_of_ble_eq_true rfl)
  rw [lg_entry_eq]
  generalize (lg_sl ([.ref al]) ++ List.replicate (1 - (lg_sl ([.ref al])).length) Slot.unset).toArray = ls at hl ⊢
  have hl : lv_has ls 1 [(0, .ref al)] := hl
  have hH : s.heap = s.heap := rfl
  refine lv_aload_n hx hb dXC_init_0 rfl (lv_at hl 0 rfl) ?_
  refine W.objInit hx hb hown (hts _ (List.mem_cons_of_mem _ mw_39)) (hts _ (List.mem_cons_of_mem _ mw_25)) (hts _ (List.mem_cons_of_mem _ mw_26)) rfl (by rw [hml]; exact hl.1) rfl dXC_init_1 (Nat.le_of_ble_eq_true rfl) (Nat.le_of_ble_eq_true rfl) ?_
  refine W.eq (g2 := F0 m 4 ls []) rfl ?_
  exact W.vret hx hb hr (fun t9 ht hW => ⟨⟨(), rfl, trivial, by rw [ht]; exact hP, hD⟩, hS.F ht⟩) hS.2.2 dXC_init_4
set_option maxHeartbeats 4000000 in
set_option maxRecDepth 100000 in
/-- AbstractList() -/
theorem c_XB_init (l : Launch) (g : mt_G) (c0 c1 : Nat × va_E) (al : Nat) : Met l yXB_init wsXB_init ({ frames := 2, cells := 0, slots := 0, locals := 40 }) (mt_Pc g [c0, c1, (al, .inr (3, [.int 0, .null, .int 0]))] [.ref al]) (va_Qv (fun _ : Unit => True) (fun _ t => mt_B g ([c0, c1, (al, .inr (3, [.int 0, .null, .int 0]))]) t) (mt_A g)) (0) (0) (mt_A g) := by
  refine Met.ofW (cc := cXB_init) (maxL := 1) (ret := none) (by decide) rfl ?_
  intro p e s m args below meth c s₁ B hml hv
  obtain ⟨rfl, hE, hz, hP, hD⟩ := hv
  have hx := B.exec
  have hb := B.bytes
  have hr := B.returns
  have hts := atoms_spec (ws := wsXB_init) B.pre
  have hown : s.vm.findClass RXB = some m.cls := findClass_of_methodNamed B.named
  have hlocks := B.notSynchronized
  have hin : meth.name = "<init>" := (name_of_methodNamed B.named B.method).1
  have hK := hE.k
  have hA : ∀ q : Nat, s.heap.size ≤ q → mt_A g q := fun q h => Nat.le_trans hz h
  have hS : va_S (mt_A g) s.heap s.heap [] := va_S.rf
  have hl := lv_entry ([.ref al]) (n := 1) (Nat.le_of_ble_eq_true rfl)
  rw [lg_entry_eq]
  generalize (lg_sl ([.ref al]) ++ List.replicate (1 - (lg_sl ([.ref al])).length) Slot.unset).toArray = ls at hl ⊢
  have hl : lv_has ls 1 [(0, .ref al)] := hl
  have hH : s.heap = s.heap := rfl
  refine lv_aload_n hx hb dXB_init_0 rfl (lv_at hl 0 rfl) ?_
  refine va_callv (va_runI (As := []) (rest := []) ⟨hx, hb, hml, hown, hts⟩ (c_XC_init l g c0 c1 al) (cwI 0 hts (mt_gi mw_38) rfl rfl rfl (hts _ (List.mem_cons_of_mem _ mw_2)) (hts _ (List.mem_cons_of_mem _ mw_36)) (hts _ (List.mem_cons_of_mem _ mw_37)) rfl (by decide +kernel) ⟨Nat.le_of_ble_eq_true rfl, Nat.le_of_ble_eq_true rfl⟩) (mt_preS hE hz hS hP hD) rfl rfl hl.1 rfl (lv_room (Nat.le_of_ble_eq_true rfl)) dXB_init_1 ⟨Nat.le_refl _, Nat.le_refl _⟩) hS (fun _ _ h9 => h9) (fun _ h9 => h9) (fun u2 t9 H locs ht9 hvm9 _ hB9 hz9 hk9 hS => ?_)
  obtain ⟨hP, hD⟩ := hB9
  rw [ht9] at hP
  refine lv_aload_n hx hb dXB_init_4 rfl (lv_at hl 0 rfl) ?_
  refine lv_iconst (v := 0) hx hb dXB_init_5 (by decide +kernel) ?_
  refine va_put (D := g.1) (ci := 3) (v := .int 0) (ty := .int) (C := RXA) (T := TXA) (N := 3) hx hb hts (fun w h => List.mem_cons_of_mem _ (in_XA w h)) tyXA tyXA_ok nmXA hown hK hP hD hS 2 rfl rfl 0 (by decide) (hts _ (List.mem_cons_of_mem _ mw_43)) (fun _ h9 => h9) rfl (by decide +kernel) rfl rfl (Nat.le_of_ble_eq_true rfl) dXB_init_6 (fun H locs hP hD hS => ?_)
  have hP : va_P g.1 vwCl ([c0, c1, (al, .inr (3, [.int 0, .null, .int 0]))]) H := hP
  have hD : va_D (mt_A g) ([c0, c1, (al, .inr (3, [.int 0, .null, .int 0]))]) := hD
  exact W.vret hx hb hr (fun t9 ht hW => ⟨⟨(), rfl, trivial, by rw [ht]; exact hP, hD⟩, hS.F ht⟩) hS.2.2 dXB_init_9
set_option maxHeartbeats 4000000 in
set_option maxRecDepth 100000 in
/-- ArrayList() -/
theorem c_XA_init (l : Launch) (g : mt_G) (c0 c1 : Nat × va_E) (al : Nat) : Met l yXA_init wsXA_init ({ frames := 3, cells := 0, slots := 0, locals := 80 }) (mt_Pc g [c0, c1, (al, .inr (3, [.int 0, .null, .int 0]))] [.ref al]) (va_Qv (fun _ : Unit => True) (fun _ t => mt_B g ([c0, c1, (al, .inr (3, [.int 0, .ref g.2.2.1, .int 0]))]) t) (mt_A g)) (0) (0) (mt_A g) := by
  refine Met.ofW (cc := cXA_init) (maxL := 1) (ret := none) (by decide) rfl ?_
  intro p e s m args below meth c s₁ B hml hv
  obtain ⟨rfl, hE, hz, hP, hD⟩ := hv
  have hx := B.exec
  have hb := B.bytes
  have hr := B.returns
  have hts := atoms_spec (ws := wsXA_init) B.pre
  have hown : s.vm.findClass RXA = some m.cls := findClass_of_methodNamed B.named
  have hlocks := B.notSynchronized
  have hin : meth.name = "<init>" := (name_of_methodNamed B.named B.method).1
  have hK := hE.k
  have hA : ∀ q : Nat, s.heap.size ≤ q → mt_A g q := fun q h => Nat.le_trans hz h
  have hS : va_S (mt_A g) s.heap s.heap [] := va_S.rf
  have hl := lv_entry ([.ref al]) (n := 1) (Nat.le_of_ble_eq_true rfl)
  rw [lg_entry_eq]
  generalize (lg_sl ([.ref al]) ++ List.replicate (1 - (lg_sl ([.ref al])).length) Slot.unset).toArray = ls at hl ⊢
  have hl : lv_has ls 1 [(0, .ref al)] := hl
  have hH : s.heap = s.heap := rfl
  refine lv_aload_n hx hb dXA_init_0 rfl (lv_at hl 0 rfl) ?_
  refine va_callv (va_runI (As := []) (rest := []) ⟨hx, hb, hml, hown, hts⟩ (c_XB_init l g c0 c1 al) (cwI 0 hts (mt_gi mw_35) rfl rfl rfl (hts _ (List.mem_cons_of_mem _ mw_3)) (hts _ (List.mem_cons_of_mem _ mw_33)) (hts _ (List.mem_cons_of_mem _ mw_34)) rfl (by decide +kernel) ⟨Nat.le_of_ble_eq_true rfl, Nat.le_of_ble_eq_true rfl⟩) (mt_preS hE hz hS hP hD) rfl rfl hl.1 rfl (lv_room (Nat.le_of_ble_eq_true rfl)) dXA_init_1 ⟨Nat.le_refl _, Nat.le_refl _⟩) hS (fun _ _ h9 => h9) (fun _ h9 => h9) (fun u2 t9 H locs ht9 hvm9 _ hB9 hz9 hk9 hS => ?_)
  obtain ⟨hP, hD⟩ := hB9
  rw [ht9] at hP
  refine lv_aload_n hx hb dXA_init_4 rfl (lv_at hl 0 rfl) ?_
  refine va_gets hx hb hE.z hS hown (hts _ (List.mem_cons_of_mem _ mw_40)) (fun _ h9 => h9) dXA_init_5 ?_
  refine va_put (D := g.1) (ci := 3) (v := .ref g.2.2.1) (ty := (.array (.object "java/lang/Object"))) (C := RXA) (T := TXA) (N := 3) hx hb hts (fun w h => List.mem_cons_of_mem _ (in_XA w h)) tyXA tyXA_ok nmXA hown hK hP hD hS 2 rfl rfl 1 (by decide) (hts _ (List.mem_cons_of_mem _ mw_41)) (fun _ h9 => h9) rfl (by decide +kernel) rfl rfl (Nat.le_of_ble_eq_true rfl) dXA_init_8 (fun H locs hP hD hS => ?_)
  have hP : va_P g.1 vwCl ([c0, c1, (al, .inr (3, [.int 0, .ref g.2.2.1, .int 0]))]) H := hP
  have hD : va_D (mt_A g) ([c0, c1, (al, .inr (3, [.int 0, .ref g.2.2.1, .int 0]))]) := hD
  exact W.vret hx hb hr (fun t9 ht hW => ⟨⟨(), rfl, trivial, by rw [ht]; exact hP, hD⟩, hS.F ht⟩) hS.2.2 dXA_init_11
set_option maxHeartbeats 4000000 in
set_option maxRecDepth 100000 in
/-- MeldTree() -/
theorem c_XT_init (l : Launch) (g : mt_G) (x : Nat) : Met l yXT_init wsXT_init ({ frames := 4, cells := 2, slots := 603, locals := 120 }) (mt_Pc g [(x, .inr (1, [.null, .null, .int 0]))] [.ref x]) (va_Qv (fun _ : Nat × Nat => True) (fun q t => mt_B g ([(x, .inr (1, [.ref q.1, .ref q.2, .int 1])), (q.1, .inl (g.2.2.2 1, 600, .inr (.inr (.inr (.inr (fun _ => none)))))), (q.2, .inr (3, [.int 0, .ref g.2.2.1, .int 0]))]) t) (mt_A g)) (2) (603) (mt_A g) := by
  refine Met.ofW (cc := cXT_init) (maxL := 1) (ret := none) (by decide) rfl ?_
  intro p e s m args below meth c s₁ B hml hv
  obtain ⟨rfl, hE, hz, hP, hD⟩ := hv
  have hx := B.exec
  have hb := B.bytes
  have hr := B.returns
  have hts := atoms_spec (ws := wsXT_init) B.pre
  have hown : s.vm.findClass RXT = some m.cls := findClass_of_methodNamed B.named
  have hlocks := B.notSynchronized
  have hin : meth.name = "<init>" := (name_of_methodNamed B.named B.method).1
  have hK := hE.k
  have hA : ∀ q : Nat, s.heap.size ≤ q → mt_A g q := fun q h => Nat.le_trans hz h
  have hS : va_S (mt_A g) s.heap s.heap [] := va_S.rf
  have hl := lv_entry ([.ref x]) (n := 1) (Nat.le_of_ble_eq_true rfl)
  rw [lg_entry_eq]
  generalize (lg_sl ([.ref x]) ++ List.replicate (1 - (lg_sl ([.ref x])).length) Slot.unset).toArray = ls at hl ⊢
  have hl : lv_has ls 1 [(0, .ref x)] := hl
  have hH : s.heap = s.heap := rfl
  refine lv_aload_n hx hb dXT_init_0 rfl (lv_at hl 0 rfl) ?_
  refine W.objInit hx hb hown (hts _ (List.mem_cons_of_mem _ mw_24)) (hts _ (List.mem_cons_of_mem _ mw_25)) (hts _ (List.mem_cons_of_mem _ mw_26)) rfl (by rw [hml]; exact hl.1) rfl dXT_init_1 (Nat.le_of_ble_eq_true rfl) (Nat.le_of_ble_eq_true rfl) ?_
  refine W.eq (g2 := F0 m 4 ls []) rfl ?_
  refine lv_aload_n hx hb dXT_init_4 rfl (lv_at hl 0 rfl) ?_
  refine lv_sipush (v := (nI 600)) hx hb dXT_init_5 (by decide +kernel) ?_
  refine va_newq hx hb hown (hts _ (List.mem_cons_of_mem _ mw_27)) hE.an hK hP hD hS hA (n := nI 600) (N' := 600) (by decide +kernel) (by decide +kernel) (by decide) (by decide) (by decide) dXT_init_8 (fun ar cA H hK9 hP hD hS => ?_)
  have hcA := qa_ty1 (i := 5) (j := 1) hK9 hK rfl rfl
  subst hcA
  clear hK9
  refine va_putF (D := g.1) (ci := 1) (v := .ref ar) (ty := (.array (.object "MeldTree$Node"))) (C := RXT) (T := TXT) (N := 3) hx hb hts (fun w h => List.mem_cons_of_mem _ (in_XT w h)) tyXT tyXT_ok nmXT hown hK hP hD hS 0 rfl rfl 0 (by decide) (hts _ (List.mem_cons_of_mem _ mw_53)) (fun _ h9 => h9) rfl hin rfl (by decide +kernel) rfl rfl (Nat.le_of_ble_eq_true rfl) dXT_init_11 (fun H locs hP hD hS => ?_)
  have hP : va_P g.1 vwCl ([(x, .inr (1, [.ref ar, .null, .int 0])), (ar, .inl (g.2.2.2 1, 600, .inr (.inr (.inr (.inr (fun _ => none))))))]) H := hP
  have hD : va_D (mt_A g) ([(x, .inr (1, [.ref ar, .null, .int 0])), (ar, .inl (g.2.2.2 1, 600, .inr (.inr (.inr (.inr (fun _ => none))))))]) := hD
  refine lv_aload_n hx hb dXT_init_14 rfl (lv_at hl 0 rfl) ?_
  refine va_new (ci := 3) (fs := [.int 0, .null, .int 0]) (C := RXA) (T := TXA) (N := 3) hx hb hts (fun w h => List.mem_cons_of_mem _ (in_XA w h)) tyXA tyXA_ok hown (hts _ (List.mem_cons_of_mem _ mw_28)) (hts _ (List.mem_cons_of_mem _ mw_29)) (hts _ (List.mem_cons_of_mem _ mw_4)) hK hP hD hS hA rfl (fun j hj => by rcases (show j = 0 ∨ j = 1 ∨ j = 2 by omega) with rfl | rfl | rfl <;> rfl) (by decide) (by decide) dXT_init_15 (fun al H hP hD hS => ?_)
  refine lv_dup hx hb dXT_init_18 rfl ?_
  refine va_callv (va_runI (As := []) (rest := [.ref al, .ref x]) ⟨hx, hb, hml, hown, hts⟩ (c_XA_init l g _ _ al) (cwI 0 hts (mt_gi mw_32) rfl rfl rfl (hts _ (List.mem_cons_of_mem _ mw_4)) (hts _ (List.mem_cons_of_mem _ mw_30)) (hts _ (List.mem_cons_of_mem _ mw_31)) rfl (by decide +kernel) ⟨Nat.le_of_ble_eq_true rfl, Nat.le_of_ble_eq_true rfl⟩) (mt_preS hE hz hS hP hD) rfl rfl hl.1 rfl (lv_room (Nat.le_of_ble_eq_true rfl)) dXT_init_19 ⟨Nat.le_of_ble_eq_true rfl, Nat.le_of_ble_eq_true rfl⟩) hS (fun _ _ h9 => h9) (fun _ h9 => h9) (fun u2 t9 H locs ht9 hvm9 _ hB9 hz9 hk9 hS => ?_)
  obtain ⟨hP, hD⟩ := hB9
  rw [ht9] at hP
  have hP : va_P g.1 vwCl ([(x, .inr (1, [.ref ar, .null, .int 0])), (ar, .inl (g.2.2.2 1, 600, .inr (.inr (.inr (.inr (fun _ => none)))))), (al, .inr (3, [.int 0, .ref g.2.2.1, .int 0]))]) H := hP
  have hD : va_D (mt_A g) ([(x, .inr (1, [.ref ar, .null, .int 0])), (ar, .inl (g.2.2.2 1, 600, .inr (.inr (.inr (.inr (fun _ => none)))))), (al, .inr (3, [.int 0, .ref g.2.2.1, .int 0]))]) := hD
  refine va_putF (D := g.1) (ci := 1) (v := .ref al) (ty := (.object "java/util/ArrayList")) (C := RXT) (T := TXT) (N := 3) hx hb hts (fun w h => List.mem_cons_of_mem _ (in_XT w h)) tyXT tyXT_ok nmXT hown hK hP hD hS 0 rfl rfl 1 (by decide) (hts _ (List.mem_cons_of_mem _ mw_54)) (fun _ h9 => h9) rfl hin rfl (by decide +kernel) rfl rfl (Nat.le_of_ble_eq_true rfl) dXT_init_22 (fun H locs hP hD hS => ?_)
  have hP : va_P g.1 vwCl ([(x, .inr (1, [.ref ar, .ref al, .int 0])), (ar, .inl (g.2.2.2 1, 600, .inr (.inr (.inr (.inr (fun _ => none)))))), (al, .inr (3, [.int 0, .ref g.2.2.1, .int 0]))]) H := hP
  have hD : va_D (mt_A g) ([(x, .inr (1, [.ref ar, .ref al, .int 0])), (ar, .inl (g.2.2.2 1, 600, .inr (.inr (.inr (.inr (fun _ => none)))))), (al, .inr (3, [.int 0, .ref g.2.2.1, .int 0]))]) := hD
  refine lv_aload_n hx hb dXT_init_25 rfl (lv_at hl 0 rfl) ?_
  refine lv_iconst (v := 1) hx hb dXT_init_26 (by decide +kernel) ?_
  refine va_put (D := g.1) (ci := 1) (v := .int 1) (ty := .int) (C := RXT) (T := TXT) (N := 3) hx hb hts (fun w h => List.mem_cons_of_mem _ (in_XT w h)) tyXT tyXT_ok nmXT hown hK hP hD hS 0 rfl rfl 2 (by decide) (hts _ (List.mem_cons_of_mem _ mw_55)) (fun _ h9 => h9) rfl (by decide +kernel) rfl rfl (Nat.le_of_ble_eq_true rfl) dXT_init_27 (fun H locs hP hD hS => ?_)
  have hP : va_P g.1 vwCl ([(x, .inr (1, [.ref ar, .ref al, .int 1])), (ar, .inl (g.2.2.2 1, 600, .inr (.inr (.inr (.inr (fun _ => none)))))), (al, .inr (3, [.int 0, .ref g.2.2.1, .int 0]))]) H := hP
  have hD : va_D (mt_A g) ([(x, .inr (1, [.ref ar, .ref al, .int 1])), (ar, .inl (g.2.2.2 1, 600, .inr (.inr (.inr (.inr (fun _ => none)))))), (al, .inr (3, [.int 0, .ref g.2.2.1, .int 0]))]) := hD
  refine W.widen (k := 2) (n := 603) (by decide) (by decide) ?_
  exact W.vret hx hb hr (fun t9 ht hW => ⟨⟨(ar, al), rfl, trivial, by rw [ht]; exact hP, hD⟩, hS.F ht⟩) hS.2.2 dXT_init_30
set_option maxHeartbeats 4000000 in
set_option maxRecDepth 100000 in
/-- MeldTreeModel() -/
theorem c_XM_init (l : Launch) (g : mt_G) (c0 c1 c2 : Nat × va_E) (am : Nat) : Met l yXM_init wsXM_init ({ frames := 2, cells := 2, slots := 307200, locals := 40 }) (mt_Pc g [c0, c1, c2, (am, .inr (2, [.null, .null, .int 0, .int 0]))] [.ref am]) (va_Qv (fun _ : Nat × Nat => True) (fun q t => mt_B g ([c0, c1, c2, (am, .inr (2, [.ref q.1, .ref q.2, .int 1, .int 0])), (q.1, .inl (g.2.2.2 2, 153600, .inl (fun _ => 0))), (q.2, .inl (g.2.2.2 3, 153600, .inl (fun _ => 0)))]) t) (mt_A g)) (2) (307200) (mt_A g) := by
  refine Met.ofW (cc := cXM_init) (maxL := 1) (ret := none) (by decide) rfl ?_
  intro p e s m args below meth c s₁ B hml hv
  obtain ⟨rfl, hE, hz, hP, hD⟩ := hv
  have hx := B.exec
  have hb := B.bytes
  have hr := B.returns
  have hts := atoms_spec (ws := wsXM_init) B.pre
  have hown : s.vm.findClass RXM = some m.cls := findClass_of_methodNamed B.named
  have hlocks := B.notSynchronized
  have hin : meth.name = "<init>" := (name_of_methodNamed B.named B.method).1
  have hK := hE.k
  have hA : ∀ q : Nat, s.heap.size ≤ q → mt_A g q := fun q h => Nat.le_trans hz h
  have hS : va_S (mt_A g) s.heap s.heap [] := va_S.rf
  have hl := lv_entry ([.ref am]) (n := 1) (Nat.le_of_ble_eq_true rfl)
  rw [lg_entry_eq]
  generalize (lg_sl ([.ref am]) ++ List.replicate (1 - (lg_sl ([.ref am])).length) Slot.unset).toArray = ls at hl ⊢
  have hl : lv_has ls 1 [(0, .ref am)] := hl
  have hH : s.heap = s.heap := rfl
  refine lv_aload_n hx hb dXM_init_0 rfl (lv_at hl 0 rfl) ?_
  refine W.objInit hx hb hown (hts _ (List.mem_cons_of_mem _ mw_384)) (hts _ (List.mem_cons_of_mem _ mw_25)) (hts _ (List.mem_cons_of_mem _ mw_26)) rfl (by rw [hml]; exact hl.1) rfl dXM_init_1 (Nat.le_of_ble_eq_true rfl) (Nat.le_of_ble_eq_true rfl) ?_
  refine W.eq (g2 := F0 m 4 ls []) rfl ?_
  refine lv_aload_n hx hb dXM_init_4 rfl (lv_at hl 0 rfl) ?_
  refine lv_ldc (v := 153600) hx hb hown (hts _ (List.mem_cons_of_mem _ mw_385)) dXM_init_5 ?_
  refine va_newa (atype := .int) (ty := .int) hx hb (hts _ (List.mem_cons_of_mem _ mw_399)) rfl hK hP hD hS hA (a0 := (153600, .inl (fun _ => 0))) (N' := 153600) (fun _ => rfl) (by decide +kernel) (by decide +kernel) (by decide +kernel) (by decide +kernel) (by decide +kernel) dXM_init_7 (fun av cA H hK9 hP hD hS => ?_)
  have hcA := qa_ty1 (i := 5) (j := 2) hK9 hK rfl rfl
  subst hcA
  clear hK9
  refine va_putF (D := g.1) (ci := 2) (v := .ref av) (ty := (.array .int)) (C := RXM) (T := TXM) (N := 4) hx hb hts (fun w h => List.mem_cons_of_mem _ (in_XM w h)) tyXM tyXM_ok nmXM hown hK hP hD hS 3 rfl rfl 0 (by decide) (hts _ (List.mem_cons_of_mem _ mw_386)) (fun _ h9 => h9) rfl hin rfl (by decide +kernel) rfl rfl (Nat.le_of_ble_eq_true rfl) dXM_init_9 (fun H locs hP hD hS => ?_)
  have hP : va_P g.1 vwCl ([c0, c1, c2, (am, .inr (2, [.ref av, .null, .int 0, .int 0])), (av, .inl (g.2.2.2 2, 153600, .inl (fun _ => 0)))]) H := hP
  have hD : va_D (mt_A g) ([c0, c1, c2, (am, .inr (2, [.ref av, .null, .int 0, .int 0])), (av, .inl (g.2.2.2 2, 153600, .inl (fun _ => 0)))]) := hD
  refine lv_aload_n hx hb dXM_init_12 rfl (lv_at hl 0 rfl) ?_
  refine lv_ldc (v := 153600) hx hb hown (hts _ (List.mem_cons_of_mem _ mw_385)) dXM_init_13 ?_
  refine va_newa (atype := .boolean) (ty := .boolean) hx hb (hts _ (List.mem_cons_of_mem _ mw_400)) rfl hK hP hD hS hA (a0 := (153600, .inl (fun _ => 0))) (N' := 153600) (fun _ => rfl) (by decide +kernel) (by decide +kernel) (by decide +kernel) (by decide +kernel) (by decide +kernel) dXM_init_15 (fun ab cA H hK9 hP hD hS => ?_)
  have hcA := qa_ty1 (i := 5) (j := 3) hK9 hK rfl rfl
  subst hcA
  clear hK9
  refine va_putF (D := g.1) (ci := 2) (v := .ref ab) (ty := (.array .boolean)) (C := RXM) (T := TXM) (N := 4) hx hb hts (fun w h => List.mem_cons_of_mem _ (in_XM w h)) tyXM tyXM_ok nmXM hown hK hP hD hS 3 rfl rfl 1 (by decide) (hts _ (List.mem_cons_of_mem _ mw_387)) (fun _ h9 => h9) rfl hin rfl (by decide +kernel) rfl rfl (Nat.le_of_ble_eq_true rfl) dXM_init_17 (fun H locs hP hD hS => ?_)
  have hP : va_P g.1 vwCl ([c0, c1, c2, (am, .inr (2, [.ref av, .ref ab, .int 0, .int 0])), (av, .inl (g.2.2.2 2, 153600, .inl (fun _ => 0))), (ab, .inl (g.2.2.2 3, 153600, .inl (fun _ => 0)))]) H := hP
  have hD : va_D (mt_A g) ([c0, c1, c2, (am, .inr (2, [.ref av, .ref ab, .int 0, .int 0])), (av, .inl (g.2.2.2 2, 153600, .inl (fun _ => 0))), (ab, .inl (g.2.2.2 3, 153600, .inl (fun _ => 0)))]) := hD
  refine lv_aload_n hx hb dXM_init_20 rfl (lv_at hl 0 rfl) ?_
  refine lv_iconst (v := 1) hx hb dXM_init_21 (by decide +kernel) ?_
  refine va_put (D := g.1) (ci := 2) (v := .int 1) (ty := .int) (C := RXM) (T := TXM) (N := 4) hx hb hts (fun w h => List.mem_cons_of_mem _ (in_XM w h)) tyXM tyXM_ok nmXM hown hK hP hD hS 3 rfl rfl 2 (by decide) (hts _ (List.mem_cons_of_mem _ mw_388)) (fun _ h9 => h9) rfl (by decide +kernel) rfl rfl (Nat.le_of_ble_eq_true rfl) dXM_init_22 (fun H locs hP hD hS => ?_)
  have hP : va_P g.1 vwCl ([c0, c1, c2, (am, .inr (2, [.ref av, .ref ab, .int 1, .int 0])), (av, .inl (g.2.2.2 2, 153600, .inl (fun _ => 0))), (ab, .inl (g.2.2.2 3, 153600, .inl (fun _ => 0)))]) H := hP
  have hD : va_D (mt_A g) ([c0, c1, c2, (am, .inr (2, [.ref av, .ref ab, .int 1, .int 0])), (av, .inl (g.2.2.2 2, 153600, .inl (fun _ => 0))), (ab, .inl (g.2.2.2 3, 153600, .inl (fun _ => 0)))]) := hD
  refine W.widen (k := 2) (n := 307200) (by decide +kernel) (by decide +kernel) ?_
  exact W.vret hx hb hr (fun t9 ht hW => ⟨⟨(av, ab), rfl, trivial, by rw [ht]; exact hP, hD⟩, hS.F ht⟩) hS.2.2 dXM_init_25
