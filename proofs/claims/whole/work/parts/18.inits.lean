set_option maxHeartbeats 4000000 in
set_option maxRecDepth 100000 in
/-- Node(key, value) -/
theorem c_leaf (l : Launch) (g : mt_G) (ws : va_W) (q : Nat) (k x : Int32) : Met l yXN_init wsXN_init ({ frames := 1, cells := 0, slots := 0, locals := 12 }) (mt_Pc g (ws ++ [(q, .inr (0, [.int 0, .int 0, .null, .null, .int 0, .int 0, .long 0]))]) [.ref q, .int k, .int x]) (va_Qv (fun _ : Unit => True) (fun _ t => mt_B g (ws ++ [(q, mt_nE (0, k, none, none, x, 1, x.toInt64))]) t) (mt_A g)) (0) (0) (mt_A g) := by
  refine Met.ofW (cc := cXN_init) (maxL := 3) (ret := none) (by decide) rfl ?_
  intro p e s m args below meth c s₁ B hml hv
  obtain ⟨rfl, hE, hz, hP, hD⟩ := hv
  have hx := B.exec
  have hb := B.bytes
  have hr := B.returns
  have hts := atoms_spec (ws := wsXN_init) B.pre
  have hown : s.vm.findClass RXN = some m.cls := findClass_of_methodNamed B.named
  have hlocks := B.notSynchronized
  have hin : meth.name = "<init>" := (name_of_methodNamed B.named B.method).1
  have hK := hE.k
  have hA : ∀ q : Nat, s.heap.size ≤ q → mt_A g q := fun q h => Nat.le_trans hz h
  have hS : va_S (mt_A g) s.heap s.heap [] := va_S.rf
  have hl := lv_entry ([.ref q, .int k, .int x]) (n := 3) (Nat.le_of_ble_eq_true rfl)
  rw [lg_entry_eq]
  generalize (lg_sl ([.ref q, .int k, .int x]) ++ List.replicate (3 - (lg_sl ([.ref q, .int k, .int x])).length) Slot.unset).toArray = ls at hl ⊢
  have hl : lv_has ls 3 [(0, .ref q), (1, .int k), (2, .int x)] := hl
  have hH : s.heap = s.heap := rfl
  refine lv_aload_n hx hb dXN_init_0 rfl (lv_at hl 0 rfl) ?_
  refine W.objInit hx hb hown (hts _ (List.mem_cons_of_mem _ mw_198)) (hts _ (List.mem_cons_of_mem _ mw_25)) (hts _ (List.mem_cons_of_mem _ mw_26)) rfl (by rw [hml]; exact hl.1) rfl dXN_init_1 (Nat.le_of_ble_eq_true rfl) (Nat.le_of_ble_eq_true rfl) ?_
  refine W.eq (g2 := F0 m 4 ls []) rfl ?_
  refine lv_aload_n hx hb dXN_init_4 rfl (lv_at hl 0 rfl) ?_
  refine lv_iconst (v := 0) hx hb dXN_init_5 (by decide +kernel) ?_
  refine va_putF (D := g.1) (ci := 0) (v := .int 0) (ty := .int) (C := RXN) (T := TXN) (N := 7) hx hb hts (fun w h => List.mem_cons_of_mem _ (in_XN w h)) tyXN tyXN_ok nmXN hown hK hP hD hS ws.length (qa_lastg ws _) rfl 0 (by decide) (hts _ (List.mem_cons_of_mem _ mw_199)) (fun _ h9 => h9) rfl hin rfl (by decide +kernel) rfl rfl (Nat.le_of_ble_eq_true rfl) dXN_init_6 (fun H locs hP hD hS => ?_)
  rw [qa_lasts] at hP hD
  have hP : va_P g.1 vwCl (ws ++ [(q, .inr (0, [.int 0, .int 0, .null, .null, .int 0, .int 0, .long 0]))]) H := hP
  have hD : va_D (mt_A g) (ws ++ [(q, .inr (0, [.int 0, .int 0, .null, .null, .int 0, .int 0, .long 0]))]) := hD
  refine lv_aload_n hx hb dXN_init_9 rfl (lv_at hl 0 rfl) ?_
  refine lv_iload_n hx hb dXN_init_10 rfl (lv_at hl 1 rfl) ?_
  refine va_putF (D := g.1) (ci := 0) (v := .int k) (ty := .int) (C := RXN) (T := TXN) (N := 7) hx hb hts (fun w h => List.mem_cons_of_mem _ (in_XN w h)) tyXN tyXN_ok nmXN hown hK hP hD hS ws.length (qa_lastg ws _) rfl 1 (by decide) (hts _ (List.mem_cons_of_mem _ mw_200)) (fun _ h9 => h9) rfl hin rfl (by decide +kernel) rfl rfl (Nat.le_of_ble_eq_true rfl) dXN_init_11 (fun H locs hP hD hS => ?_)
  rw [qa_lasts] at hP hD
  have hP : va_P g.1 vwCl (ws ++ [(q, .inr (0, [.int 0, .int k, .null, .null, .int 0, .int 0, .long 0]))]) H := hP
  have hD : va_D (mt_A g) (ws ++ [(q, .inr (0, [.int 0, .int k, .null, .null, .int 0, .int 0, .long 0]))]) := hD
  refine lv_aload_n hx hb dXN_init_14 rfl (lv_at hl 0 rfl) ?_
  refine lv_null hx hb dXN_init_15 ?_
  refine va_putF (D := g.1) (ci := 0) (v := .null) (ty := .object "MeldTree$Node") (C := RXN) (T := TXN) (N := 7) hx hb hts (fun w h => List.mem_cons_of_mem _ (in_XN w h)) tyXN tyXN_ok nmXN hown hK hP hD hS ws.length (qa_lastg ws _) rfl 2 (by decide) (hts _ (List.mem_cons_of_mem _ mw_201)) (fun _ h9 => h9) rfl hin rfl (by decide +kernel) rfl rfl (Nat.le_of_ble_eq_true rfl) dXN_init_16 (fun H locs hP hD hS => ?_)
  rw [qa_lasts] at hP hD
  have hP : va_P g.1 vwCl (ws ++ [(q, .inr (0, [.int 0, .int k, .null, .null, .int 0, .int 0, .long 0]))]) H := hP
  have hD : va_D (mt_A g) (ws ++ [(q, .inr (0, [.int 0, .int k, .null, .null, .int 0, .int 0, .long 0]))]) := hD
  refine lv_aload_n hx hb dXN_init_19 rfl (lv_at hl 0 rfl) ?_
  refine lv_null hx hb dXN_init_20 ?_
  refine va_putF (D := g.1) (ci := 0) (v := .null) (ty := .object "MeldTree$Node") (C := RXN) (T := TXN) (N := 7) hx hb hts (fun w h => List.mem_cons_of_mem _ (in_XN w h)) tyXN tyXN_ok nmXN hown hK hP hD hS ws.length (qa_lastg ws _) rfl 3 (by decide) (hts _ (List.mem_cons_of_mem _ mw_202)) (fun _ h9 => h9) rfl hin rfl (by decide +kernel) rfl rfl (Nat.le_of_ble_eq_true rfl) dXN_init_21 (fun H locs hP hD hS => ?_)
  rw [qa_lasts] at hP hD
  have hP : va_P g.1 vwCl (ws ++ [(q, .inr (0, [.int 0, .int k, .null, .null, .int 0, .int 0, .long 0]))]) H := hP
  have hD : va_D (mt_A g) (ws ++ [(q, .inr (0, [.int 0, .int k, .null, .null, .int 0, .int 0, .long 0]))]) := hD
  refine lv_aload_n hx hb dXN_init_24 rfl (lv_at hl 0 rfl) ?_
  refine lv_iload_n hx hb dXN_init_25 rfl (lv_at hl 2 rfl) ?_
  refine va_putF (D := g.1) (ci := 0) (v := .int x) (ty := .int) (C := RXN) (T := TXN) (N := 7) hx hb hts (fun w h => List.mem_cons_of_mem _ (in_XN w h)) tyXN tyXN_ok nmXN hown hK hP hD hS ws.length (qa_lastg ws _) rfl 4 (by decide) (hts _ (List.mem_cons_of_mem _ mw_203)) (fun _ h9 => h9) rfl hin rfl (by decide +kernel) rfl rfl (Nat.le_of_ble_eq_true rfl) dXN_init_26 (fun H locs hP hD hS => ?_)
  rw [qa_lasts] at hP hD
  have hP : va_P g.1 vwCl (ws ++ [(q, .inr (0, [.int 0, .int k, .null, .null, .int x, .int 0, .long 0]))]) H := hP
  have hD : va_D (mt_A g) (ws ++ [(q, .inr (0, [.int 0, .int k, .null, .null, .int x, .int 0, .long 0]))]) := hD
  refine lv_aload_n hx hb dXN_init_29 rfl (lv_at hl 0 rfl) ?_
  refine lv_iconst (v := 1) hx hb dXN_init_30 (by decide +kernel) ?_
  refine va_putF (D := g.1) (ci := 0) (v := .int 1) (ty := .int) (C := RXN) (T := TXN) (N := 7) hx hb hts (fun w h => List.mem_cons_of_mem _ (in_XN w h)) tyXN tyXN_ok nmXN hown hK hP hD hS ws.length (qa_lastg ws _) rfl 5 (by decide) (hts _ (List.mem_cons_of_mem _ mw_204)) (fun _ h9 => h9) rfl hin rfl (by decide +kernel) rfl rfl (Nat.le_of_ble_eq_true rfl) dXN_init_31 (fun H locs hP hD hS => ?_)
  rw [qa_lasts] at hP hD
  have hP : va_P g.1 vwCl (ws ++ [(q, .inr (0, [.int 0, .int k, .null, .null, .int x, .int 1, .long 0]))]) H := hP
  have hD : va_D (mt_A g) (ws ++ [(q, .inr (0, [.int 0, .int k, .null, .null, .int x, .int 1, .long 0]))]) := hD
  refine lv_aload_n hx hb dXN_init_34 rfl (lv_at hl 0 rfl) ?_
  refine lv_iload_n hx hb dXN_init_35 rfl (lv_at hl 2 rfl) ?_
  refine lv_i2l (v := x.toInt64) hx hb dXN_init_36 rfl ?_
  refine va_putF (D := g.1) (ci := 0) (v := .long x.toInt64) (ty := .long) (C := RXN) (T := TXN) (N := 7) hx hb hts (fun w h => List.mem_cons_of_mem _ (in_XN w h)) tyXN tyXN_ok nmXN hown hK hP hD hS ws.length (qa_lastg ws _) rfl 6 (by decide) (hts _ (List.mem_cons_of_mem _ mw_205)) (fun _ h9 => h9) rfl hin rfl (by decide +kernel) rfl rfl (Nat.le_of_ble_eq_true rfl) dXN_init_37 (fun H locs hP hD hS => ?_)
  rw [qa_lasts] at hP hD
  have hP : va_P g.1 vwCl (ws ++ [(q, .inr (0, [.int 0, .int k, .null, .null, .int x, .int 1, .long x.toInt64]))]) H := hP
  have hD : va_D (mt_A g) (ws ++ [(q, .inr (0, [.int 0, .int k, .null, .null, .int x, .int 1, .long x.toInt64]))]) := hD
  exact W.vret hx hb hr (fun t9 ht hW => ⟨⟨(), rfl, trivial, by rw [ht]; exact hP, hD⟩, hS.F ht⟩) hS.2.2 dXN_init_40
set_option maxHeartbeats 4000000 in
set_option maxRecDepth 100000 in
/-- Node(height, someKey, low, high) -/
theorem c_fork (l : Launch) (g : mt_G) (ws : va_W) (LP : List Nat) (nf : Nat → mt_N) (hp : mt_pool ws LP nf) (q : Nat) (h k : Int32) (lo hi : Option Nat) (hlo : ∀ a, lo = some a → a ∈ LP) (hhi : ∀ a, hi = some a → a ∈ LP) : Met l yXN_init_2 wsXN_init_2 ({ frames := 1, cells := 0, slots := 0, locals := 20 }) (mt_Pc g (ws ++ [(q, .inr (0, [.int 0, .int 0, .null, .null, .int 0, .int 0, .long 0]))]) [.ref q, .int h, .int k, va_rf lo, va_rf hi]) (va_Qv (fun _ : Unit => True) (fun _ t => mt_B g (ws ++ [(q, mt_nE (h, (k >>> (h &&& 31)) <<< (h &&& 31), lo, hi, 0, mt_sz nf lo + mt_sz nf hi, mt_to nf lo + mt_to nf hi))]) t) (mt_A g)) (0) (0) (mt_A g) := by
  refine Met.ofW (cc := cXN_init_2) (maxL := 5) (ret := none) (by decide) rfl ?_
  intro p e s m args below meth c s₁ B hml hv
  obtain ⟨rfl, hE, hz, hP, hD⟩ := hv
  have hx := B.exec
  have hb := B.bytes
  have hr := B.returns
  have hts := atoms_spec (ws := wsXN_init_2) B.pre
  have hown : s.vm.findClass RXN = some m.cls := findClass_of_methodNamed B.named
  have hlocks := B.notSynchronized
  have hin : meth.name = "<init>" := (name_of_methodNamed B.named B.method).1
  have hK := hE.k
  have hA : ∀ q : Nat, s.heap.size ≤ q → mt_A g q := fun q h => Nat.le_trans hz h
  have hS : va_S (mt_A g) s.heap s.heap [] := va_S.rf
  have hl := lv_entry ([.ref q, .int h, .int k, va_rf lo, va_rf hi]) (n := 5) (by rw [qa_sl1 (qa_cr _), qa_sl1 (qa_ci _), qa_sl1 (qa_ci _), qa_sl1 (qa_cat _), qa_sl1 (qa_cat _), qa_sl0]; exact Nat.le_of_ble_eq_true rfl)
  rw [lg_entry_eq]
  generalize (lg_sl ([.ref q, .int h, .int k, va_rf lo, va_rf hi]) ++ List.replicate (5 - (lg_sl ([.ref q, .int h, .int k, va_rf lo, va_rf hi])).length) Slot.unset).toArray = ls at hl ⊢
  have hl : lv_has ls 5 [(0, .ref q), (1, .int h), (2, .int k), (3, va_rf lo), (4, va_rf hi)] := by rw [qa_ar1 (qa_cr _), qa_ar1 (qa_ci _), qa_ar1 (qa_ci _), qa_ar1 (qa_cat _), qa_ar1 (qa_cat _)] at hl; exact hl
  have hH : s.heap = s.heap := rfl
  refine lv_aload_n hx hb dXN_init_2_0 rfl (lv_at hl 0 rfl) ?_
  refine W.objInit hx hb hown (hts _ (List.mem_cons_of_mem _ mw_198)) (hts _ (List.mem_cons_of_mem _ mw_25)) (hts _ (List.mem_cons_of_mem _ mw_26)) rfl (by rw [hml]; exact hl.1) rfl dXN_init_2_1 (Nat.le_of_ble_eq_true rfl) (Nat.le_of_ble_eq_true rfl) ?_
  refine W.eq (g2 := F0 m 4 ls []) rfl ?_
  refine lv_aload_n hx hb dXN_init_2_4 rfl (lv_at hl 0 rfl) ?_
  refine lv_iload_n hx hb dXN_init_2_5 rfl (lv_at hl 1 rfl) ?_
  refine va_putF (D := g.1) (ci := 0) (v := .int h) (ty := .int) (C := RXN) (T := TXN) (N := 7) hx hb hts (fun w h => List.mem_cons_of_mem _ (in_XN w h)) tyXN tyXN_ok nmXN hown hK hP hD hS ws.length (qa_lastg ws _) rfl 0 (by decide) (hts _ (List.mem_cons_of_mem _ mw_199)) (fun _ h9 => h9) rfl hin rfl (by decide +kernel) rfl rfl (Nat.le_of_ble_eq_true rfl) dXN_init_2_6 (fun H locs hP hD hS => ?_)
  rw [qa_lasts] at hP hD
  have hP : va_P g.1 vwCl (ws ++ [(q, .inr (0, [.int h, .int 0, .null, .null, .int 0, .int 0, .long 0]))]) H := hP
  have hD : va_D (mt_A g) (ws ++ [(q, .inr (0, [.int h, .int 0, .null, .null, .int 0, .int 0, .long 0]))]) := hD
  refine lv_aload_n hx hb dXN_init_2_9 rfl (lv_at hl 0 rfl) ?_
  refine lv_iload_n hx hb dXN_init_2_10 rfl (lv_at hl 2 rfl) ?_
  refine lv_iload_n hx hb dXN_init_2_11 rfl (lv_at hl 1 rfl) ?_
  refine lv_ishr hx hb dXN_init_2_12 ?_
  refine lv_iload_n hx hb dXN_init_2_13 rfl (lv_at hl 1 rfl) ?_
  refine lv_ishl hx hb dXN_init_2_14 ?_
  refine va_putF (D := g.1) (ci := 0) (v := .int ((k >>> (h &&& 31)) <<< (h &&& 31))) (ty := .int) (C := RXN) (T := TXN) (N := 7) hx hb hts (fun w h => List.mem_cons_of_mem _ (in_XN w h)) tyXN tyXN_ok nmXN hown hK hP hD hS ws.length (qa_lastg ws _) rfl 1 (by decide) (hts _ (List.mem_cons_of_mem _ mw_200)) (fun _ h9 => h9) rfl hin rfl (by decide +kernel) rfl rfl (Nat.le_of_ble_eq_true rfl) dXN_init_2_15 (fun H locs hP hD hS => ?_)
  rw [qa_lasts] at hP hD
  have hP : va_P g.1 vwCl (ws ++ [(q, .inr (0, [.int h, .int ((k >>> (h &&& 31)) <<< (h &&& 31)), .null, .null, .int 0, .int 0, .long 0]))]) H := hP
  have hD : va_D (mt_A g) (ws ++ [(q, .inr (0, [.int h, .int ((k >>> (h &&& 31)) <<< (h &&& 31)), .null, .null, .int 0, .int 0, .long 0]))]) := hD
  refine lv_aload_n hx hb dXN_init_2_18 rfl (lv_at hl 0 rfl) ?_
  refine qa_aload_n hx hb dXN_init_2_19 rfl (lv_at hl 3 rfl) ?_
  refine va_putF (D := g.1) (ci := 0) (v := va_rf lo) (ty := .object "MeldTree$Node") (C := RXN) (T := TXN) (N := 7) hx hb hts (fun w h => List.mem_cons_of_mem _ (in_XN w h)) tyXN tyXN_ok nmXN hown hK hP hD hS ws.length (qa_lastg ws _) rfl 2 (by decide) (hts _ (List.mem_cons_of_mem _ mw_201)) (fun _ h9 => h9) rfl hin rfl (by decide +kernel) (qa_nar _ _) (qa_fit _ _) (Nat.le_of_ble_eq_true rfl) dXN_init_2_20 (fun H locs hP hD hS => ?_)
  rw [qa_lasts] at hP hD
  have hP : va_P g.1 vwCl (ws ++ [(q, .inr (0, [.int h, .int ((k >>> (h &&& 31)) <<< (h &&& 31)), va_rf lo, .null, .int 0, .int 0, .long 0]))]) H := hP
  have hD : va_D (mt_A g) (ws ++ [(q, .inr (0, [.int h, .int ((k >>> (h &&& 31)) <<< (h &&& 31)), va_rf lo, .null, .int 0, .int 0, .long 0]))]) := hD
  refine lv_aload_n hx hb dXN_init_2_23 rfl (lv_at hl 0 rfl) ?_
  refine qa_aload hx hb dXN_init_2_24 (lv_at hl 4 rfl) ?_
  refine va_putF (D := g.1) (ci := 0) (v := va_rf hi) (ty := .object "MeldTree$Node") (C := RXN) (T := TXN) (N := 7) hx hb hts (fun w h => List.mem_cons_of_mem _ (in_XN w h)) tyXN tyXN_ok nmXN hown hK hP hD hS ws.length (qa_lastg ws _) rfl 3 (by decide) (hts _ (List.mem_cons_of_mem _ mw_202)) (fun _ h9 => h9) rfl hin rfl (by decide +kernel) (qa_nar _ _) (qa_fit _ _) (Nat.le_of_ble_eq_true rfl) dXN_init_2_26 (fun H locs hP hD hS => ?_)
  rw [qa_lasts] at hP hD
  have hP : va_P g.1 vwCl (ws ++ [(q, .inr (0, [.int h, .int ((k >>> (h &&& 31)) <<< (h &&& 31)), va_rf lo, va_rf hi, .int 0, .int 0, .long 0]))]) H := hP
  have hD : va_D (mt_A g) (ws ++ [(q, .inr (0, [.int h, .int ((k >>> (h &&& 31)) <<< (h &&& 31)), va_rf lo, va_rf hi, .int 0, .int 0, .long 0]))]) := hD
  refine lv_aload_n hx hb dXN_init_2_29 rfl (lv_at hl 0 rfl) ?_
  refine lv_iconst (v := 0) hx hb dXN_init_2_30 (by decide +kernel) ?_
  refine va_putF (D := g.1) (ci := 0) (v := .int 0) (ty := .int) (C := RXN) (T := TXN) (N := 7) hx hb hts (fun w h => List.mem_cons_of_mem _ (in_XN w h)) tyXN tyXN_ok nmXN hown hK hP hD hS ws.length (qa_lastg ws _) rfl 4 (by decide) (hts _ (List.mem_cons_of_mem _ mw_203)) (fun _ h9 => h9) rfl hin rfl (by decide +kernel) rfl rfl (Nat.le_of_ble_eq_true rfl) dXN_init_2_31 (fun H locs hP hD hS => ?_)
  rw [qa_lasts] at hP hD
  have hP : va_P g.1 vwCl (ws ++ [(q, .inr (0, [.int h, .int ((k >>> (h &&& 31)) <<< (h &&& 31)), va_rf lo, va_rf hi, .int 0, .int 0, .long 0]))]) H := hP
  have hD : va_D (mt_A g) (ws ++ [(q, .inr (0, [.int h, .int ((k >>> (h &&& 31)) <<< (h &&& 31)), va_rf lo, va_rf hi, .int 0, .int 0, .long 0]))]) := hD
  refine lv_aload_n hx hb dXN_init_2_34 rfl (lv_at hl 0 rfl) ?_
  refine qa_aload_n hx hb dXN_init_2_35 rfl (lv_at hl 3 rfl) ?_
  refine vp_callSi (va_Run.run (va_runSN (As := [va_rf lo]) (rest := [.ref q]) ⟨hx, hb, hml, hown, hts⟩ (c_sizeOf l g _ LP nf (hp.app _) lo hlo) ⟨va_cnB 1 hts (mt_gi mw_103) rfl rfl rfl (hE.w (.methodLinkNest RXN 33 yXT_sizeOf "MeldTree") (by decide +kernel)) (hts _ (List.mem_cons_of_mem _ mw_1)) (by decide +kernel) ⟨Nat.le_of_ble_eq_true rfl, Nat.le_of_ble_eq_true rfl⟩, hts _ (List.mem_cons_of_mem _ mw_102), trivial⟩ (mt_preS hE hz hS hP hD) rfl rfl hl.1 rfl (lv_room (Nat.le_of_ble_eq_true rfl)) dXN_init_2_36 ⟨Nat.zero_le _, Nat.zero_le _⟩)) (fun z1 e1 => ?_)
  subst e1
  refine qa_aload hx hb dXN_init_2_39 (lv_at hl 4 rfl) ?_
  refine vp_callSi (va_Run.run (va_runSN (As := [va_rf hi]) (rest := [.int (mt_sz nf lo), .ref q]) ⟨hx, hb, hml, hown, hts⟩ (c_sizeOf l g _ LP nf (hp.app _) hi hhi) ⟨va_cnB 1 hts (mt_gi mw_103) rfl rfl rfl (hE.w (.methodLinkNest RXN 33 yXT_sizeOf "MeldTree") (by decide +kernel)) (hts _ (List.mem_cons_of_mem _ mw_1)) (by decide +kernel) ⟨Nat.le_of_ble_eq_true rfl, Nat.le_of_ble_eq_true rfl⟩, hts _ (List.mem_cons_of_mem _ mw_102), trivial⟩ (mt_preS hE hz hS hP hD) rfl rfl hl.1 rfl (lv_room (Nat.le_of_ble_eq_true rfl)) dXN_init_2_41 ⟨Nat.zero_le _, Nat.zero_le _⟩)) (fun z1 e1 => ?_)
  subst e1
  refine lv_iadd hx hb dXN_init_2_44 ?_
  refine va_putF (D := g.1) (ci := 0) (v := .int ((mt_sz nf lo) + (mt_sz nf hi))) (ty := .int) (C := RXN) (T := TXN) (N := 7) hx hb hts (fun w h => List.mem_cons_of_mem _ (in_XN w h)) tyXN tyXN_ok nmXN hown hK hP hD hS ws.length (qa_lastg ws _) rfl 5 (by decide) (hts _ (List.mem_cons_of_mem _ mw_204)) (fun _ h9 => h9) rfl hin rfl (by decide +kernel) rfl rfl (Nat.le_of_ble_eq_true rfl) dXN_init_2_45 (fun H locs hP hD hS => ?_)
  rw [qa_lasts] at hP hD
  have hP : va_P g.1 vwCl (ws ++ [(q, .inr (0, [.int h, .int ((k >>> (h &&& 31)) <<< (h &&& 31)), va_rf lo, va_rf hi, .int 0, .int ((mt_sz nf lo) + (mt_sz nf hi)), .long 0]))]) H := hP
  have hD : va_D (mt_A g) (ws ++ [(q, .inr (0, [.int h, .int ((k >>> (h &&& 31)) <<< (h &&& 31)), va_rf lo, va_rf hi, .int 0, .int ((mt_sz nf lo) + (mt_sz nf hi)), .long 0]))]) := hD
  refine lv_aload_n hx hb dXN_init_2_48 rfl (lv_at hl 0 rfl) ?_
  refine qa_aload_n hx hb dXN_init_2_49 rfl (lv_at hl 3 rfl) ?_
  refine vp_callSl (va_Run.run (va_runSN (As := [va_rf lo]) (rest := [.ref q]) ⟨hx, hb, hml, hown, hts⟩ (c_totalOf l g _ LP nf (hp.app _) lo hlo) ⟨va_cnB 1 hts (mt_gi mw_106) rfl rfl rfl (hE.w (.methodLinkNest RXN 39 yXT_totalOf "MeldTree") (by decide +kernel)) (hts _ (List.mem_cons_of_mem _ mw_1)) (by decide +kernel) ⟨Nat.le_of_ble_eq_true rfl, Nat.le_of_ble_eq_true rfl⟩, hts _ (List.mem_cons_of_mem _ mw_105), trivial⟩ (mt_preS hE hz hS hP hD) rfl rfl hl.1 rfl (lv_room (Nat.le_of_ble_eq_true rfl)) dXN_init_2_50 ⟨Nat.zero_le _, Nat.zero_le _⟩)) (fun z1 e1 => ?_)
  subst e1
  refine qa_aload hx hb dXN_init_2_53 (lv_at hl 4 rfl) ?_
  refine vp_callSl (va_Run.run (va_runSN (As := [va_rf hi]) (rest := [.long (mt_to nf lo), .ref q]) ⟨hx, hb, hml, hown, hts⟩ (c_totalOf l g _ LP nf (hp.app _) hi hhi) ⟨va_cnB 1 hts (mt_gi mw_106) rfl rfl rfl (hE.w (.methodLinkNest RXN 39 yXT_totalOf "MeldTree") (by decide +kernel)) (hts _ (List.mem_cons_of_mem _ mw_1)) (by decide +kernel) ⟨Nat.le_of_ble_eq_true rfl, Nat.le_of_ble_eq_true rfl⟩, hts _ (List.mem_cons_of_mem _ mw_105), trivial⟩ (mt_preS hE hz hS hP hD) rfl rfl hl.1 rfl (lv_room (Nat.le_of_ble_eq_true rfl)) dXN_init_2_55 ⟨Nat.zero_le _, Nat.zero_le _⟩)) (fun z1 e1 => ?_)
  subst e1
  refine lv_ladd hx hb dXN_init_2_58 ?_
  refine va_putF (D := g.1) (ci := 0) (v := .long ((mt_to nf lo) + (mt_to nf hi))) (ty := .long) (C := RXN) (T := TXN) (N := 7) hx hb hts (fun w h => List.mem_cons_of_mem _ (in_XN w h)) tyXN tyXN_ok nmXN hown hK hP hD hS ws.length (qa_lastg ws _) rfl 6 (by decide) (hts _ (List.mem_cons_of_mem _ mw_205)) (fun _ h9 => h9) rfl hin rfl (by decide +kernel) rfl rfl (Nat.le_of_ble_eq_true rfl) dXN_init_2_59 (fun H locs hP hD hS => ?_)
  rw [qa_lasts] at hP hD
  have hP : va_P g.1 vwCl (ws ++ [(q, .inr (0, [.int h, .int ((k >>> (h &&& 31)) <<< (h &&& 31)), va_rf lo, va_rf hi, .int 0, .int ((mt_sz nf lo) + (mt_sz nf hi)), .long ((mt_to nf lo) + (mt_to nf hi))]))]) H := hP
  have hD : va_D (mt_A g) (ws ++ [(q, .inr (0, [.int h, .int ((k >>> (h &&& 31)) <<< (h &&& 31)), va_rf lo, va_rf hi, .int 0, .int ((mt_sz nf lo) + (mt_sz nf hi)), .long ((mt_to nf lo) + (mt_to nf hi))]))]) := hD
  exact W.vret hx hb hr (fun t9 ht hW => ⟨⟨(), rfl, trivial, by rw [ht]; exact hP, hD⟩, hS.F ht⟩) hS.2.2 dXN_init_2_62
set_option maxHeartbeats 4000000 in
set_option maxRecDepth 100000 in
/-- keep(root) -/
theorem c_keep (l : Launch) (g : mt_G) (c0 c1 c2 c3 : Nat × va_E) (x ar al cn : Nat) (fr : Nat → Option Nat) (Z : va_W) (LP : List Nat) (nf : Nat → mt_N) (hp : mt_pool Z LP nf) (hcn : cn < 600) (r : Option Nat) (hm : ∀ a, r = some a → a ∈ LP) : Met l yXT_keep wsXT_keep ({ frames := 0, cells := 0, slots := 0, locals := 0 }) (mt_Pc g (mt_TW g c0 c1 c2 c3 x ar al cn fr Z) [.ref x, va_rf r]) (va_Qi (fun z (_ : Unit) => z = nI cn) (fun _ t => mt_B g (mt_TW g c0 c1 c2 c3 x ar al (cn + 1) (va_up fr cn r) Z) t) (mt_A g)) (0) (0) (mt_A g) := by
  refine Met.ofW (cc := cXT_keep) (maxL := 3) (ret := (some .int)) (by decide) rfl ?_
  intro p e s m args below meth c s₁ B hml hv
  obtain ⟨rfl, hE, hz, hP, hD⟩ := hv
  have hx := B.exec
  have hb := B.bytes
  have hr := B.returns
  have hts := atoms_spec (ws := wsXT_keep) B.pre
  have hown : s.vm.findClass RXT = some m.cls := findClass_of_methodNamed B.named
  have hlocks := B.notSynchronized
  have hK := hE.k
  have hA : ∀ q : Nat, s.heap.size ≤ q → mt_A g q := fun q h => Nat.le_trans hz h
  have hS : va_S (mt_A g) s.heap s.heap [] := va_S.rf
  have hl := lv_entry ([.ref x, va_rf r]) (n := 3) (by rw [qa_sl1 (qa_cr _), qa_sl1 (qa_cat _), qa_sl0]; exact Nat.le_of_ble_eq_true rfl)
  rw [lg_entry_eq]
  generalize (lg_sl ([.ref x, va_rf r]) ++ List.replicate (3 - (lg_sl ([.ref x, va_rf r])).length) Slot.unset).toArray = ls at hl ⊢
  have hl : lv_has ls 3 [(0, .ref x), (1, va_rf r)] := by rw [qa_ar1 (qa_cr _), qa_ar1 (qa_cat _)] at hl; exact hl
  have hH : s.heap = s.heap := rfl
  refine lv_aload_n hx hb dXT_keep_0 rfl (lv_at hl 0 rfl) ?_
  refine va_get (D := g.1) (ci := 1) (v := .int (nI cn)) (C := RXT) (T := TXT) (N := 3) hx hb hts (fun w h => List.mem_cons_of_mem _ (in_XT w h)) hown hK hP 4 rfl rfl 2 (by decide) (hts _ (List.mem_cons_of_mem _ mw_55)) (fun _ h9 => h9) rfl dXT_keep_1 ?_
  refine lv_istore_n (i := 2) (lv' := [(2, .int (nI cn)), (0, .ref x), (1, va_rf r)]) hx hb dXT_keep_4 rfl hl (by decide) (by simp [List.filter, qa_cat, qa_ci, qa_cl, qa_cr, qa_cn]) (fun ls hl => ?_)
  refine lv_aload_n hx hb dXT_keep_5 rfl (lv_at hl 1 rfl) ?_
  refine va_get (D := g.1) (ci := 1) (v := .ref ar) (C := RXT) (T := TXT) (N := 3) hx hb hts (fun w h => List.mem_cons_of_mem _ (in_XT w h)) hown hK hP 4 rfl rfl 0 (by decide) (hts _ (List.mem_cons_of_mem _ mw_53)) (fun _ h9 => h9) rfl dXT_keep_6 ?_
  refine lv_iload_n hx hb dXT_keep_9 rfl (lv_at hl 0 rfl) ?_
  refine qa_aload_n hx hb dXT_keep_10 rfl (lv_at hl 2 rfl) ?_
  refine qa_astq (D := g.1) (cl := vwCl) (r' := (RXN, TXN, 7)) hx hb hK hP hD hS 5 1 0 rfl rfl rfl (fun a ha => ?_) (vp_in_nI (n := cn) (by omega) (by decide)) dXT_keep_11 (fun H locs hP hD hS => ?_)
  · obtain ⟨k9, hk9⟩ := hp a (hm a ha)
    exact ⟨k9 + 6, _, hk9⟩
  rw [nI_clamp (by omega)] at hP hD
  have hP : va_P g.1 vwCl (mt_TW g c0 c1 c2 c3 x ar al cn (va_up fr cn r) Z) H := hP
  have hD : va_D (mt_A g) (mt_TW g c0 c1 c2 c3 x ar al cn (va_up fr cn r) Z) := hD
  refine lv_aload_n hx hb dXT_keep_12 rfl (lv_at hl 1 rfl) ?_
  refine lv_dup hx hb dXT_keep_13 rfl ?_
  refine va_get (D := g.1) (ci := 1) (v := .int (nI cn)) (C := RXT) (T := TXT) (N := 3) hx hb hts (fun w h => List.mem_cons_of_mem _ (in_XT w h)) hown hK hP 4 rfl rfl 2 (by decide) (hts _ (List.mem_cons_of_mem _ mw_55)) (fun _ h9 => h9) rfl dXT_keep_14 ?_
  refine lv_iconst (v := 1) hx hb dXT_keep_17 (by decide +kernel) ?_
  refine lv_iadd hx hb dXT_keep_18 ?_
  refine qa_i (y := (nI (cn + 1))) (nI_1 cn) ?_
  refine va_put (D := g.1) (ci := 1) (v := .int (nI (cn + 1))) (ty := .int) (C := RXT) (T := TXT) (N := 3) hx hb hts (fun w h => List.mem_cons_of_mem _ (in_XT w h)) tyXT tyXT_ok nmXT hown hK hP hD hS 4 rfl rfl 2 (by decide) (hts _ (List.mem_cons_of_mem _ mw_55)) (fun _ h9 => h9) rfl (by decide +kernel) rfl rfl (Nat.le_of_ble_eq_true rfl) dXT_keep_19 (fun H locs hP hD hS => ?_)
  have hP : va_P g.1 vwCl (mt_TW g c0 c1 c2 c3 x ar al (cn + 1) (va_up fr cn r) Z) H := hP
  have hD : va_D (mt_A g) (mt_TW g c0 c1 c2 c3 x ar al (cn + 1) (va_up fr cn r) Z) := hD
  refine lv_iload_n hx hb dXT_keep_22 rfl (lv_at hl 0 rfl) ?_
  exact W.iret (v := nI cn) hx hb hr (fun t9 ht hW => ⟨⟨nI cn, (), rfl, rfl, by rw [ht]; exact hP, hD⟩, hS.F ht⟩) hS.2.2 dXT_keep_23
