set_option maxHeartbeats 4000000 in
set_option maxRecDepth 100000 in
/-- isAt(node, height, first), where it is -/
theorem c_isAt (l : Launch) (g : mt_G) (ws : va_W) (LP : List Nat) (nf : Nat → mt_N) (hp : mt_pool ws LP nf) (r : Option Nat) (h b : Nat) (his : mt_is LP nf r h b) : Met l yXT_isAt wsXT_isAt ({ frames := 0, cells := 0, slots := 0, locals := 0 }) (mt_Pc g ws [va_rf r, .int (nI h), .int (nI b)]) (vp_Si (fun z => z = 1)) (0) (0) (fun _ => False) := by
  refine Met.ofW (cc := cXT_isAt) (maxL := 3) (ret := (some .boolean)) (by decide) rfl ?_
  intro p e s m args below meth c s₁ B hml hv
  obtain ⟨rfl, hE, hz, hP, hD⟩ := hv
  have hx := B.exec
  have hb := B.bytes
  have hr := B.returns
  have hts := atoms_spec (ws := wsXT_isAt) B.pre
  have hown : s.vm.findClass RXT = some m.cls := findClass_of_methodNamed B.named
  have hlocks := B.notSynchronized
  have hK := hE.k
  have hA : ∀ q : Nat, s.heap.size ≤ q → mt_A g q := fun q h => Nat.le_trans hz h
  have hS : va_S (mt_A g) s.heap s.heap [] := va_S.rf
  have hl := lv_entry ([va_rf r, .int (nI h), .int (nI b)]) (n := 3) (by rw [qa_sl1 (qa_cat _), qa_sl1 (qa_ci _), qa_sl1 (qa_ci _), qa_sl0]; exact Nat.le_of_ble_eq_true rfl)
  rw [lg_entry_eq]
  generalize (lg_sl ([va_rf r, .int (nI h), .int (nI b)]) ++ List.replicate (3 - (lg_sl ([va_rf r, .int (nI h), .int (nI b)])).length) Slot.unset).toArray = ls at hl ⊢
  have hl : lv_has ls 3 [(0, va_rf r), (1, .int (nI h)), (2, .int (nI b))] := by rw [qa_ar1 (qa_cat _), qa_ar1 (qa_ci _), qa_ar1 (qa_ci _)] at hl; exact hl
  have hH : s.heap = s.heap := rfl
  refine qa_aload_n hx hb dXT_isAt_0 rfl (lv_at hl 0 rfl) ?_
  refine qa_ifnull (tgt := 20) hx hb dXT_isAt_1 (by decide) (fun c1 => ?_) (fun av c1 => ?_)
  · subst c1
    refine lv_iconst (v := 1) hx hb dXT_isAt_20 (by decide +kernel) ?_
    refine lv_goto (tgt := 25) hx hb dXT_isAt_21 (by decide) ?_
    exact W.zret (v := 1) hx hb hr rfl (fun t9 ht hW => ⟨1, rfl, rfl, ht⟩) t_nil dXT_isAt_25
  · subst c1
    obtain ⟨hm, h1, h2⟩ := his av rfl
    obtain ⟨kv, hkv⟩ := hp av hm
    have hl : lv_has ls 3 [(0, .ref av), (1, .int (nI h)), (2, .int (nI b))] := hl
    refine lv_aload_n hx hb dXT_isAt_4 rfl (lv_at hl 0 rfl) ?_
    refine va_getN (D := g.1) (ci := 0) (v := .int ((nf av).1)) (C := RXN) (T := TXN) (N := 7) hx hb hts (fun w h => List.mem_cons_of_mem _ (in_XN w h)) hown hK hP kv hkv rfl 0 (by decide) (va_Nw.use rfl (hE.w (.fieldLinkNest "MeldTree" 150 "MeldTree$Node" "height" "I" "MeldTree") (by decide +kernel))) (fun _ h9 => h9) rfl dXT_isAt_5 ?_
    refine lv_iload_n hx hb dXT_isAt_8 rfl (lv_at hl 1 rfl) ?_
    refine lv_icmp_ne (tgt := 24) hx hb dXT_isAt_9 (by decide) (fun z => absurd h1 z) (fun _ => ?_)
    refine lv_aload_n hx hb dXT_isAt_12 rfl (lv_at hl 0 rfl) ?_
    refine va_getN (D := g.1) (ci := 0) (v := .int ((nf av).2.1)) (C := RXN) (T := TXN) (N := 7) hx hb hts (fun w h => List.mem_cons_of_mem _ (in_XN w h)) hown hK hP kv hkv rfl 1 (by decide) (va_Nw.use rfl (hE.w (.fieldLinkNest "MeldTree" 147 "MeldTree$Node" "first" "I" "MeldTree") (by decide +kernel))) (fun _ h9 => h9) rfl dXT_isAt_13 ?_
    refine lv_iload_n hx hb dXT_isAt_16 rfl (lv_at hl 2 rfl) ?_
    refine lv_icmp_ne (tgt := 24) hx hb dXT_isAt_17 (by decide) (fun z => absurd h2 z) (fun _ => ?_)
    refine lv_iconst (v := 1) hx hb dXT_isAt_20 (by decide +kernel) ?_
    refine lv_goto (tgt := 25) hx hb dXT_isAt_21 (by decide) ?_
    exact W.zret (v := 1) hx hb hr rfl (fun t9 ht hW => ⟨1, rfl, rfl, ht⟩) t_nil dXT_isAt_25
set_option maxHeartbeats 4000000 in
set_option maxRecDepth 100000 in
/-- faultsOfLeaf(leaf), where there are none -/
theorem c_faultsOfLeaf (l : Launch) (g : mt_G) (ws : va_W) (LP : List Nat) (nf : Nat → mt_N) (hp : mt_pool ws LP nf) (a : Nat) (ha : a ∈ LP) (b x : Int32) (hn : nf a = (0, b, none, none, x, 1, x.toInt64)) : Met l yXT_faultsOfLeaf wsXT_faultsOfLeaf ({ frames := 0, cells := 0, slots := 0, locals := 0 }) (mt_Pc g ws [.ref a]) (vp_Si (fun z => z = 0)) (0) (0) (fun _ => False) := by
  refine Met.ofW (cc := cXT_faultsOfLeaf) (maxL := 2) (ret := (some .int)) (by decide) rfl ?_
  intro p e s m args below meth c s₁ B hml hv
  obtain ⟨rfl, hE, hz, hP, hD⟩ := hv
  have hx := B.exec
  have hb := B.bytes
  have hr := B.returns
  have hts := atoms_spec (ws := wsXT_faultsOfLeaf) B.pre
  have hown : s.vm.findClass RXT = some m.cls := findClass_of_methodNamed B.named
  have hlocks := B.notSynchronized
  have hK := hE.k
  have hA : ∀ q : Nat, s.heap.size ≤ q → mt_A g q := fun q h => Nat.le_trans hz h
  have hS : va_S (mt_A g) s.heap s.heap [] := va_S.rf
  have hl := lv_entry ([.ref a]) (n := 2) (Nat.le_of_ble_eq_true rfl)
  rw [lg_entry_eq]
  generalize (lg_sl ([.ref a]) ++ List.replicate (2 - (lg_sl ([.ref a])).length) Slot.unset).toArray = ls at hl ⊢
  have hl : lv_has ls 2 [(0, .ref a)] := hl
  have hH : s.heap = s.heap := rfl
  obtain ⟨kv, hkv⟩ := hp a ha
  have e1 : (nf a).2.2.1 = none := by rw [hn]
  have e2 : (nf a).2.2.2.1 = none := by rw [hn]
  have e3 : (nf a).2.2.2.2.2.1 = 1 := by rw [hn]
  have e4 : lg_cmp (nf a).2.2.2.2.2.2 (nf a).2.2.2.2.1.toInt64 = 0 := by rw [hn]; exact qa_cmp _
  refine lv_aload_n hx hb dXT_faultsOfLeaf_0 rfl (lv_at hl 0 rfl) ?_
  refine va_getN (D := g.1) (ci := 0) (v := va_rf ((nf a).2.2.1)) (C := RXN) (T := TXN) (N := 7) hx hb hts (fun w h => List.mem_cons_of_mem _ (in_XN w h)) hown hK hP kv hkv rfl 2 (by decide) (va_Nw.use rfl (hE.w (.fieldLinkNest "MeldTree" 138 "MeldTree$Node" "low" "LMeldTree$Node;" "MeldTree") (by decide +kernel))) (fun _ h9 => h9) rfl dXT_faultsOfLeaf_1 ?_
  refine qa_q (y := none) e1 ?_
  refine lv_ifnonnullN hx hb dXT_faultsOfLeaf_4 ?_
  refine lv_aload_n hx hb dXT_faultsOfLeaf_7 rfl (lv_at hl 0 rfl) ?_
  refine va_getN (D := g.1) (ci := 0) (v := va_rf ((nf a).2.2.2.1)) (C := RXN) (T := TXN) (N := 7) hx hb hts (fun w h => List.mem_cons_of_mem _ (in_XN w h)) hown hK hP kv hkv rfl 3 (by decide) (va_Nw.use rfl (hE.w (.fieldLinkNest "MeldTree" 142 "MeldTree$Node" "high" "LMeldTree$Node;" "MeldTree") (by decide +kernel))) (fun _ h9 => h9) rfl dXT_faultsOfLeaf_8 ?_
  refine qa_q (y := none) e2 ?_
  refine lv_ifnonnullN hx hb dXT_faultsOfLeaf_11 ?_
  refine lv_iconst (v := 0) hx hb dXT_faultsOfLeaf_14 (by decide +kernel) ?_
  refine lv_goto (tgt := 19) hx hb dXT_faultsOfLeaf_15 (by decide) ?_
  refine lv_istore_n (i := 1) (lv' := [(1, .int 0), (0, .ref a)]) hx hb dXT_faultsOfLeaf_19 rfl hl (by decide) rfl (fun ls hl => ?_)
  refine lv_iload_n hx hb dXT_faultsOfLeaf_20 rfl (lv_at hl 0 rfl) ?_
  refine lv_aload_n hx hb dXT_faultsOfLeaf_21 rfl (lv_at hl 1 rfl) ?_
  refine va_getN (D := g.1) (ci := 0) (v := .int ((nf a).2.2.2.2.2.1)) (C := RXN) (T := TXN) (N := 7) hx hb hts (fun w h => List.mem_cons_of_mem _ (in_XN w h)) hown hK hP kv hkv rfl 5 (by decide) (va_Nw.use rfl (hE.w (.fieldLinkNest "MeldTree" 159 "MeldTree$Node" "size" "I" "MeldTree") (by decide +kernel))) (fun _ h9 => h9) rfl dXT_faultsOfLeaf_22 ?_
  refine lv_iconst (v := 1) hx hb dXT_faultsOfLeaf_25 (by decide +kernel) ?_
  refine lv_icmp_ne (tgt := 33) hx hb dXT_faultsOfLeaf_26 (by decide) (fun z => absurd e3 z) (fun _ => ?_)
  refine lv_iconst (v := 0) hx hb dXT_faultsOfLeaf_29 (by decide +kernel) ?_
  refine lv_goto (tgt := 34) hx hb dXT_faultsOfLeaf_30 (by decide) ?_
  refine lv_iadd hx hb dXT_faultsOfLeaf_34 ?_
  refine qa_i (y := 0) rfl ?_
  refine lv_istore_n (i := 1) (lv' := [(1, .int 0), (0, .ref a)]) hx hb dXT_faultsOfLeaf_35 rfl hl (by decide) rfl (fun ls hl => ?_)
  refine lv_iload_n hx hb dXT_faultsOfLeaf_36 rfl (lv_at hl 0 rfl) ?_
  refine lv_aload_n hx hb dXT_faultsOfLeaf_37 rfl (lv_at hl 1 rfl) ?_
  refine va_getN (D := g.1) (ci := 0) (v := .long ((nf a).2.2.2.2.2.2)) (C := RXN) (T := TXN) (N := 7) hx hb hts (fun w h => List.mem_cons_of_mem _ (in_XN w h)) hown hK hP kv hkv rfl 6 (by decide) (va_Nw.use rfl (hE.w (.fieldLinkNest "MeldTree" 161 "MeldTree$Node" "total" "J" "MeldTree") (by decide +kernel))) (fun _ h9 => h9) rfl dXT_faultsOfLeaf_38 ?_
  refine lv_aload_n hx hb dXT_faultsOfLeaf_41 rfl (lv_at hl 1 rfl) ?_
  refine va_getN (D := g.1) (ci := 0) (v := .int ((nf a).2.2.2.2.1)) (C := RXN) (T := TXN) (N := 7) hx hb hts (fun w h => List.mem_cons_of_mem _ (in_XN w h)) hown hK hP kv hkv rfl 4 (by decide) (va_Nw.use rfl (hE.w (.fieldLinkNest "MeldTree" 67 "MeldTree$Node" "value" "I" "MeldTree") (by decide +kernel))) (fun _ h9 => h9) rfl dXT_faultsOfLeaf_42 ?_
  refine lv_i2l (v := ((nf a).2.2.2.2.1).toInt64) hx hb dXT_faultsOfLeaf_45 rfl ?_
  refine W.lcmp hx hb dXT_faultsOfLeaf_46 ?_
  refine lv_if_ne (tgt := 54) hx hb dXT_faultsOfLeaf_47 (by decide) (fun z => absurd e4 z) (fun _ => ?_)
  refine lv_iconst (v := 0) hx hb dXT_faultsOfLeaf_50 (by decide +kernel) ?_
  refine lv_goto (tgt := 55) hx hb dXT_faultsOfLeaf_51 (by decide) ?_
  refine lv_iadd hx hb dXT_faultsOfLeaf_55 ?_
  refine qa_i (y := 0) rfl ?_
  refine lv_istore_n (i := 1) (lv' := [(1, .int 0), (0, .ref a)]) hx hb dXT_faultsOfLeaf_56 rfl hl (by decide) rfl (fun ls hl => ?_)
  refine lv_iload_n hx hb dXT_faultsOfLeaf_57 rfl (lv_at hl 0 rfl) ?_
  exact W.iret (v := 0) hx hb hr (fun t9 ht hW => ⟨0, rfl, rfl, ht⟩) t_nil dXT_faultsOfLeaf_58
set_option maxHeartbeats 4000000 in
set_option maxRecDepth 100000 in
/-- faultsOfFork(fork), where there are none -/
theorem c_faultsOfFork (l : Launch) (g : mt_G) (ws : va_W) (LP : List Nat) (nf : Nat → mt_N) (hp : mt_pool ws LP nf) (a : Nat) (ha : a ∈ LP) (h b : Nat) (lo hi : Option Nat) (hh : h < 8) (hn : nf a = (nI (h + 1), nI b, lo, hi, 0, mt_sz nf lo + mt_sz nf hi, mt_to nf lo + mt_to nf hi)) (hne : ¬ (lo = none ∧ hi = none)) (h1 : mt_is LP nf lo h b) (h2 : mt_is LP nf hi h (b + 2 ^ h)) : Met l yXT_faultsOfFork wsXT_faultsOfFork ({ frames := 1, cells := 0, slots := 0, locals := 22 }) (mt_Pc g ws [.ref a]) (vp_Si (fun z => z = 0)) (0) (0) (fun _ => False) := by
  refine Met.ofW (cc := cXT_faultsOfFork) (maxL := 3) (ret := (some .int)) (by decide) rfl ?_
  intro p e s m args below meth c s₁ B hml hv
  obtain ⟨rfl, hE, hz, hP, hD⟩ := hv
  have hx := B.exec
  have hb := B.bytes
  have hr := B.returns
  have hts := atoms_spec (ws := wsXT_faultsOfFork) B.pre
  have hown : s.vm.findClass RXT = some m.cls := findClass_of_methodNamed B.named
  have hlocks := B.notSynchronized
  have hK := hE.k
  have hA : ∀ q : Nat, s.heap.size ≤ q → mt_A g q := fun q h => Nat.le_trans hz h
  have hS : va_S (mt_A g) s.heap s.heap [] := va_S.rf
  have hl := lv_entry ([.ref a]) (n := 3) (Nat.le_of_ble_eq_true rfl)
  rw [lg_entry_eq]
  generalize (lg_sl ([.ref a]) ++ List.replicate (3 - (lg_sl ([.ref a])).length) Slot.unset).toArray = ls at hl ⊢
  have hl : lv_has ls 3 [(0, .ref a)] := hl
  have hH : s.heap = s.heap := rfl
  obtain ⟨kv, hkv⟩ := hp a ha
  have f0 : (nf a).1 = nI (h + 1) := by rw [hn]
  have f1 : (nf a).2.1 = nI b := by rw [hn]
  have f2 : (nf a).2.2.1 = lo := by rw [hn]
  have f3 : (nf a).2.2.2.1 = hi := by rw [hn]
  have f5 : (nf a).2.2.2.2.2.1 = mt_sz nf lo + mt_sz nf hi := by rw [hn]
  have f6 : (nf a).2.2.2.2.2.2 = mt_to nf lo + mt_to nf hi := by rw [hn]
  refine lv_aload_n hx hb dXT_faultsOfFork_0 rfl (lv_at hl 0 rfl) ?_
  refine va_getN (D := g.1) (ci := 0) (v := .int ((nf a).1)) (C := RXN) (T := TXN) (N := 7) hx hb hts (fun w h => List.mem_cons_of_mem _ (in_XN w h)) hown hK hP kv hkv rfl 0 (by decide) (va_Nw.use rfl (hE.w (.fieldLinkNest "MeldTree" 150 "MeldTree$Node" "height" "I" "MeldTree") (by decide +kernel))) (fun _ h9 => h9) rfl dXT_faultsOfFork_1 ?_
  refine qa_i (y := (nI (h + 1))) f0 ?_
  refine lv_iconst (v := 1) hx hb dXT_faultsOfFork_4 (by decide +kernel) ?_
  refine lv_isub hx hb dXT_faultsOfFork_5 ?_
  refine qa_i (y := (nI h)) (nI_pred h) ?_
  refine lv_istore_n (i := 1) (lv' := [(1, .int (nI h)), (0, .ref a)]) hx hb dXT_faultsOfFork_6 rfl hl (by decide) rfl (fun ls hl => ?_)
  refine lv_aload_n hx hb dXT_faultsOfFork_7 rfl (lv_at hl 1 rfl) ?_
  refine va_getN (D := g.1) (ci := 0) (v := va_rf ((nf a).2.2.1)) (C := RXN) (T := TXN) (N := 7) hx hb hts (fun w h => List.mem_cons_of_mem _ (in_XN w h)) hown hK hP kv hkv rfl 2 (by decide) (va_Nw.use rfl (hE.w (.fieldLinkNest "MeldTree" 138 "MeldTree$Node" "low" "LMeldTree$Node;" "MeldTree") (by decide +kernel))) (fun _ h9 => h9) rfl dXT_faultsOfFork_8 ?_
  refine qa_q (y := lo) f2 ?_
  refine lv_iload_n hx hb dXT_faultsOfFork_11 rfl (lv_at hl 0 rfl) ?_
  refine lv_aload_n hx hb dXT_faultsOfFork_12 rfl (lv_at hl 1 rfl) ?_
  refine va_getN (D := g.1) (ci := 0) (v := .int ((nf a).2.1)) (C := RXN) (T := TXN) (N := 7) hx hb hts (fun w h => List.mem_cons_of_mem _ (in_XN w h)) hown hK hP kv hkv rfl 1 (by decide) (va_Nw.use rfl (hE.w (.fieldLinkNest "MeldTree" 147 "MeldTree$Node" "first" "I" "MeldTree") (by decide +kernel))) (fun _ h9 => h9) rfl dXT_faultsOfFork_13 ?_
  refine qa_i (y := (nI b)) f1 ?_
  refine vp_callSi (W.runS (As := [va_rf lo, .int (nI h), .int (nI b)]) (rest := []) ⟨hx, hb, hml, hown, hts⟩ (c_isAt l g ws LP nf hp lo h b h1) (va_cwS 3 hts (mt_giS mw_71 mw_72 mw_1 (mt_gi mw_73)) rfl rfl rfl (by decide +kernel) ⟨Nat.le_of_ble_eq_true rfl, Nat.le_of_ble_eq_true rfl⟩) (mt_preS hE hz hS hP hD) rfl rfl hl.1 rfl (lv_room (Nat.le_of_ble_eq_true rfl)) dXT_faultsOfFork_16 ⟨Nat.zero_le _, Nat.zero_le _⟩) (fun z1 e1 => ?_)
  subst e1
  refine lv_if_eq (tgt := 26) hx hb dXT_faultsOfFork_19 (by decide) (fun z => absurd z (show ¬ (1 : Int32) = 0 by decide)) (fun _ => ?_)
  refine lv_iconst (v := 0) hx hb dXT_faultsOfFork_22 (by decide +kernel) ?_
  refine lv_goto (tgt := 27) hx hb dXT_faultsOfFork_23 (by decide) ?_
  refine lv_istore_n (i := 2) (lv' := [(2, .int 0), (1, .int (nI h)), (0, .ref a)]) hx hb dXT_faultsOfFork_27 rfl hl (by decide) rfl (fun ls hl => ?_)
  refine lv_iload_n hx hb dXT_faultsOfFork_28 rfl (lv_at hl 0 rfl) ?_
  refine lv_aload_n hx hb dXT_faultsOfFork_29 rfl (lv_at hl 2 rfl) ?_
  refine va_getN (D := g.1) (ci := 0) (v := va_rf ((nf a).2.2.2.1)) (C := RXN) (T := TXN) (N := 7) hx hb hts (fun w h => List.mem_cons_of_mem _ (in_XN w h)) hown hK hP kv hkv rfl 3 (by decide) (va_Nw.use rfl (hE.w (.fieldLinkNest "MeldTree" 142 "MeldTree$Node" "high" "LMeldTree$Node;" "MeldTree") (by decide +kernel))) (fun _ h9 => h9) rfl dXT_faultsOfFork_30 ?_
  refine qa_q (y := hi) f3 ?_
  refine lv_iload_n hx hb dXT_faultsOfFork_33 rfl (lv_at hl 1 rfl) ?_
  refine lv_aload_n hx hb dXT_faultsOfFork_34 rfl (lv_at hl 2 rfl) ?_
  refine va_getN (D := g.1) (ci := 0) (v := .int ((nf a).2.1)) (C := RXN) (T := TXN) (N := 7) hx hb hts (fun w h => List.mem_cons_of_mem _ (in_XN w h)) hown hK hP kv hkv rfl 1 (by decide) (va_Nw.use rfl (hE.w (.fieldLinkNest "MeldTree" 147 "MeldTree$Node" "first" "I" "MeldTree") (by decide +kernel))) (fun _ h9 => h9) rfl dXT_faultsOfFork_35 ?_
  refine qa_i (y := (nI b)) f1 ?_
  refine lv_iconst (v := 1) hx hb dXT_faultsOfFork_38 (by decide +kernel) ?_
  refine lv_iload_n hx hb dXT_faultsOfFork_39 rfl (lv_at hl 1 rfl) ?_
  refine lv_ishl hx hb dXT_faultsOfFork_40 ?_
  refine lv_iadd hx hb dXT_faultsOfFork_41 ?_
  refine qa_i (y := (nI (b + 2 ^ h))) (by rw [mt_one h hh]; exact nI_add b (2 ^ h)) ?_
  refine vp_callSi (W.runS (As := [va_rf hi, .int (nI h), .int (nI (b + 2 ^ h))]) (rest := [.int 0]) ⟨hx, hb, hml, hown, hts⟩ (c_isAt l g ws LP nf hp hi h (b + 2 ^ h) h2) (va_cwS 3 hts (mt_giS mw_71 mw_72 mw_1 (mt_gi mw_73)) rfl rfl rfl (by decide +kernel) ⟨Nat.le_of_ble_eq_true rfl, Nat.le_of_ble_eq_true rfl⟩) (mt_preS hE hz hS hP hD) rfl rfl hl.1 rfl (lv_room (Nat.le_of_ble_eq_true rfl)) dXT_faultsOfFork_42 ⟨Nat.zero_le _, Nat.zero_le _⟩) (fun z1 e1 => ?_)
  subst e1
  refine lv_if_eq (tgt := 52) hx hb dXT_faultsOfFork_45 (by decide) (fun z => absurd z (show ¬ (1 : Int32) = 0 by decide)) (fun _ => ?_)
  refine lv_iconst (v := 0) hx hb dXT_faultsOfFork_48 (by decide +kernel) ?_
  refine lv_goto (tgt := 53) hx hb dXT_faultsOfFork_49 (by decide) ?_
  refine lv_iadd hx hb dXT_faultsOfFork_53 ?_
  refine qa_i (y := 0) rfl ?_
  refine lv_istore_n (i := 2) (lv' := [(2, .int 0), (1, .int (nI h)), (0, .ref a)]) hx hb dXT_faultsOfFork_54 rfl hl (by decide) rfl (fun ls hl => ?_)
  refine lv_iload_n hx hb dXT_faultsOfFork_55 rfl (lv_at hl 0 rfl) ?_
  refine lv_aload_n hx hb dXT_faultsOfFork_56 rfl (lv_at hl 2 rfl) ?_
  refine va_getN (D := g.1) (ci := 0) (v := va_rf ((nf a).2.2.1)) (C := RXN) (T := TXN) (N := 7) hx hb hts (fun w h => List.mem_cons_of_mem _ (in_XN w h)) hown hK hP kv hkv rfl 2 (by decide) (va_Nw.use rfl (hE.w (.fieldLinkNest "MeldTree" 138 "MeldTree$Node" "low" "LMeldTree$Node;" "MeldTree") (by decide +kernel))) (fun _ h9 => h9) rfl dXT_faultsOfFork_57 ?_
  refine qa_q (y := lo) f2 ?_
  refine qa_ifnonnull (tgt := 74) hx hb dXT_faultsOfFork_60 (by decide) (fun al c1 => ?_) (fun c1 => ?_)
  · refine lv_iconst (v := 0) hx hb dXT_faultsOfFork_74 (by decide +kernel) ?_
    refine lv_iadd hx hb dXT_faultsOfFork_75 ?_
    refine qa_i (y := 0) rfl ?_
    refine lv_istore_n (i := 2) (lv' := [(2, .int 0), (1, .int (nI h)), (0, .ref a)]) hx hb dXT_faultsOfFork_76 rfl hl (by decide) rfl (fun ls hl => ?_)
    refine lv_iload_n hx hb dXT_faultsOfFork_77 rfl (lv_at hl 0 rfl) ?_
    refine lv_aload_n hx hb dXT_faultsOfFork_78 rfl (lv_at hl 2 rfl) ?_
    refine va_getN (D := g.1) (ci := 0) (v := .int ((nf a).2.2.2.2.2.1)) (C := RXN) (T := TXN) (N := 7) hx hb hts (fun w h => List.mem_cons_of_mem _ (in_XN w h)) hown hK hP kv hkv rfl 5 (by decide) (va_Nw.use rfl (hE.w (.fieldLinkNest "MeldTree" 159 "MeldTree$Node" "size" "I" "MeldTree") (by decide +kernel))) (fun _ h9 => h9) rfl dXT_faultsOfFork_79 ?_
    refine qa_i (y := (mt_sz nf lo + mt_sz nf hi)) f5 ?_
    refine lv_aload_n hx hb dXT_faultsOfFork_82 rfl (lv_at hl 2 rfl) ?_
    refine va_getN (D := g.1) (ci := 0) (v := va_rf ((nf a).2.2.1)) (C := RXN) (T := TXN) (N := 7) hx hb hts (fun w h => List.mem_cons_of_mem _ (in_XN w h)) hown hK hP kv hkv rfl 2 (by decide) (va_Nw.use rfl (hE.w (.fieldLinkNest "MeldTree" 138 "MeldTree$Node" "low" "LMeldTree$Node;" "MeldTree") (by decide +kernel))) (fun _ h9 => h9) rfl dXT_faultsOfFork_83 ?_
    refine qa_q (y := lo) f2 ?_
    refine vp_callSi (W.runS (As := [va_rf lo]) (rest := [.int (mt_sz nf lo + mt_sz nf hi), .int 0]) ⟨hx, hb, hml, hown, hts⟩ (c_sizeOf l g ws LP nf hp lo (fun x hx9 => (h1 x hx9).1)) (va_cwS 1 hts (mt_giS mw_101 mw_102 mw_1 (mt_gi mw_103)) rfl rfl rfl (by decide +kernel) ⟨Nat.le_of_ble_eq_true rfl, Nat.le_of_ble_eq_true rfl⟩) (mt_preS hE hz hS hP hD) rfl rfl hl.1 rfl (lv_room (Nat.le_of_ble_eq_true rfl)) dXT_faultsOfFork_86 ⟨Nat.zero_le _, Nat.zero_le _⟩) (fun z1 e1 => ?_)
    subst e1
    refine lv_aload_n hx hb dXT_faultsOfFork_89 rfl (lv_at hl 2 rfl) ?_
    refine va_getN (D := g.1) (ci := 0) (v := va_rf ((nf a).2.2.2.1)) (C := RXN) (T := TXN) (N := 7) hx hb hts (fun w h => List.mem_cons_of_mem _ (in_XN w h)) hown hK hP kv hkv rfl 3 (by decide) (va_Nw.use rfl (hE.w (.fieldLinkNest "MeldTree" 142 "MeldTree$Node" "high" "LMeldTree$Node;" "MeldTree") (by decide +kernel))) (fun _ h9 => h9) rfl dXT_faultsOfFork_90 ?_
    refine qa_q (y := hi) f3 ?_
    refine vp_callSi (W.runS (As := [va_rf hi]) (rest := [.int (mt_sz nf lo), .int (mt_sz nf lo + mt_sz nf hi), .int 0]) ⟨hx, hb, hml, hown, hts⟩ (c_sizeOf l g ws LP nf hp hi (fun x hx9 => (h2 x hx9).1)) (va_cwS 1 hts (mt_giS mw_101 mw_102 mw_1 (mt_gi mw_103)) rfl rfl rfl (by decide +kernel) ⟨Nat.le_of_ble_eq_true rfl, Nat.le_of_ble_eq_true rfl⟩) (mt_preS hE hz hS hP hD) rfl rfl hl.1 rfl (lv_room (Nat.le_of_ble_eq_true rfl)) dXT_faultsOfFork_93 ⟨Nat.zero_le _, Nat.zero_le _⟩) (fun z1 e1 => ?_)
    subst e1
    refine lv_iadd hx hb dXT_faultsOfFork_96 ?_
    refine lv_icmp_ne (tgt := 104) hx hb dXT_faultsOfFork_97 (by decide) (fun z => absurd rfl z) (fun _ => ?_)
    refine lv_iconst (v := 0) hx hb dXT_faultsOfFork_100 (by decide +kernel) ?_
    refine lv_goto (tgt := 105) hx hb dXT_faultsOfFork_101 (by decide) ?_
    refine lv_iadd hx hb dXT_faultsOfFork_105 ?_
    refine qa_i (y := 0) rfl ?_
    refine lv_istore_n (i := 2) (lv' := [(2, .int 0), (1, .int (nI h)), (0, .ref a)]) hx hb dXT_faultsOfFork_106 rfl hl (by decide) rfl (fun ls hl => ?_)
    refine lv_iload_n hx hb dXT_faultsOfFork_107 rfl (lv_at hl 0 rfl) ?_
    refine lv_aload_n hx hb dXT_faultsOfFork_108 rfl (lv_at hl 2 rfl) ?_
    refine va_getN (D := g.1) (ci := 0) (v := .long ((nf a).2.2.2.2.2.2)) (C := RXN) (T := TXN) (N := 7) hx hb hts (fun w h => List.mem_cons_of_mem _ (in_XN w h)) hown hK hP kv hkv rfl 6 (by decide) (va_Nw.use rfl (hE.w (.fieldLinkNest "MeldTree" 161 "MeldTree$Node" "total" "J" "MeldTree") (by decide +kernel))) (fun _ h9 => h9) rfl dXT_faultsOfFork_109 ?_
    refine qa_l (y := (mt_to nf lo + mt_to nf hi)) f6 ?_
    refine lv_aload_n hx hb dXT_faultsOfFork_112 rfl (lv_at hl 2 rfl) ?_
    refine va_getN (D := g.1) (ci := 0) (v := va_rf ((nf a).2.2.1)) (C := RXN) (T := TXN) (N := 7) hx hb hts (fun w h => List.mem_cons_of_mem _ (in_XN w h)) hown hK hP kv hkv rfl 2 (by decide) (va_Nw.use rfl (hE.w (.fieldLinkNest "MeldTree" 138 "MeldTree$Node" "low" "LMeldTree$Node;" "MeldTree") (by decide +kernel))) (fun _ h9 => h9) rfl dXT_faultsOfFork_113 ?_
    refine qa_q (y := lo) f2 ?_
    refine vp_callSl (W.runS (As := [va_rf lo]) (rest := [.long (mt_to nf lo + mt_to nf hi), .int 0]) ⟨hx, hb, hml, hown, hts⟩ (c_totalOf l g ws LP nf hp lo (fun x hx9 => (h1 x hx9).1)) (va_cwS 1 hts (mt_giS mw_104 mw_105 mw_1 (mt_gi mw_106)) rfl rfl rfl (by decide +kernel) ⟨Nat.le_of_ble_eq_true rfl, Nat.le_of_ble_eq_true rfl⟩) (mt_preS hE hz hS hP hD) rfl rfl hl.1 rfl (lv_room (Nat.le_of_ble_eq_true rfl)) dXT_faultsOfFork_116 ⟨Nat.zero_le _, Nat.zero_le _⟩) (fun z1 e1 => ?_)
    subst e1
    refine lv_aload_n hx hb dXT_faultsOfFork_119 rfl (lv_at hl 2 rfl) ?_
    refine va_getN (D := g.1) (ci := 0) (v := va_rf ((nf a).2.2.2.1)) (C := RXN) (T := TXN) (N := 7) hx hb hts (fun w h => List.mem_cons_of_mem _ (in_XN w h)) hown hK hP kv hkv rfl 3 (by decide) (va_Nw.use rfl (hE.w (.fieldLinkNest "MeldTree" 142 "MeldTree$Node" "high" "LMeldTree$Node;" "MeldTree") (by decide +kernel))) (fun _ h9 => h9) rfl dXT_faultsOfFork_120 ?_
    refine qa_q (y := hi) f3 ?_
    refine vp_callSl (W.runS (As := [va_rf hi]) (rest := [.long (mt_to nf lo), .long (mt_to nf lo + mt_to nf hi), .int 0]) ⟨hx, hb, hml, hown, hts⟩ (c_totalOf l g ws LP nf hp hi (fun x hx9 => (h2 x hx9).1)) (va_cwS 1 hts (mt_giS mw_104 mw_105 mw_1 (mt_gi mw_106)) rfl rfl rfl (by decide +kernel) ⟨Nat.le_of_ble_eq_true rfl, Nat.le_of_ble_eq_true rfl⟩) (mt_preS hE hz hS hP hD) rfl rfl hl.1 rfl (lv_room (Nat.le_of_ble_eq_true rfl)) dXT_faultsOfFork_123 ⟨Nat.zero_le _, Nat.zero_le _⟩) (fun z1 e1 => ?_)
    subst e1
    refine lv_ladd hx hb dXT_faultsOfFork_126 ?_
    refine W.lcmp hx hb dXT_faultsOfFork_127 ?_
    refine lv_if_ne (tgt := 135) hx hb dXT_faultsOfFork_128 (by decide) (fun z => absurd (qa_cmp _) z) (fun _ => ?_)
    refine lv_iconst (v := 0) hx hb dXT_faultsOfFork_131 (by decide +kernel) ?_
    refine lv_goto (tgt := 136) hx hb dXT_faultsOfFork_132 (by decide) ?_
    refine lv_iadd hx hb dXT_faultsOfFork_136 ?_
    refine qa_i (y := 0) rfl ?_
    refine lv_istore_n (i := 2) (lv' := [(2, .int 0), (1, .int (nI h)), (0, .ref a)]) hx hb dXT_faultsOfFork_137 rfl hl (by decide) rfl (fun ls hl => ?_)
    refine lv_iload_n hx hb dXT_faultsOfFork_138 rfl (lv_at hl 0 rfl) ?_
    exact W.iret (v := 0) hx hb hr (fun t9 ht hW => ⟨0, rfl, rfl, ht⟩) t_nil dXT_faultsOfFork_139
  · refine lv_aload_n hx hb dXT_faultsOfFork_63 rfl (lv_at hl 2 rfl) ?_
    refine va_getN (D := g.1) (ci := 0) (v := va_rf ((nf a).2.2.2.1)) (C := RXN) (T := TXN) (N := 7) hx hb hts (fun w h => List.mem_cons_of_mem _ (in_XN w h)) hown hK hP kv hkv rfl 3 (by decide) (va_Nw.use rfl (hE.w (.fieldLinkNest "MeldTree" 142 "MeldTree$Node" "high" "LMeldTree$Node;" "MeldTree") (by decide +kernel))) (fun _ h9 => h9) rfl dXT_faultsOfFork_64 ?_
    refine qa_q (y := hi) f3 ?_
    refine qa_ifnonnull (tgt := 74) hx hb dXT_faultsOfFork_67 (by decide) (fun ah c2 => ?_) (fun c2 => ?_)
    · refine lv_iconst (v := 0) hx hb dXT_faultsOfFork_74 (by decide +kernel) ?_
      refine lv_iadd hx hb dXT_faultsOfFork_75 ?_
      refine qa_i (y := 0) rfl ?_
      refine lv_istore_n (i := 2) (lv' := [(2, .int 0), (1, .int (nI h)), (0, .ref a)]) hx hb dXT_faultsOfFork_76 rfl hl (by decide) rfl (fun ls hl => ?_)
      refine lv_iload_n hx hb dXT_faultsOfFork_77 rfl (lv_at hl 0 rfl) ?_
      refine lv_aload_n hx hb dXT_faultsOfFork_78 rfl (lv_at hl 2 rfl) ?_
      refine va_getN (D := g.1) (ci := 0) (v := .int ((nf a).2.2.2.2.2.1)) (C := RXN) (T := TXN) (N := 7) hx hb hts (fun w h => List.mem_cons_of_mem _ (in_XN w h)) hown hK hP kv hkv rfl 5 (by decide) (va_Nw.use rfl (hE.w (.fieldLinkNest "MeldTree" 159 "MeldTree$Node" "size" "I" "MeldTree") (by decide +kernel))) (fun _ h9 => h9) rfl dXT_faultsOfFork_79 ?_
      refine qa_i (y := (mt_sz nf lo + mt_sz nf hi)) f5 ?_
      refine lv_aload_n hx hb dXT_faultsOfFork_82 rfl (lv_at hl 2 rfl) ?_
      refine va_getN (D := g.1) (ci := 0) (v := va_rf ((nf a).2.2.1)) (C := RXN) (T := TXN) (N := 7) hx hb hts (fun w h => List.mem_cons_of_mem _ (in_XN w h)) hown hK hP kv hkv rfl 2 (by decide) (va_Nw.use rfl (hE.w (.fieldLinkNest "MeldTree" 138 "MeldTree$Node" "low" "LMeldTree$Node;" "MeldTree") (by decide +kernel))) (fun _ h9 => h9) rfl dXT_faultsOfFork_83 ?_
      refine qa_q (y := lo) f2 ?_
      refine vp_callSi (W.runS (As := [va_rf lo]) (rest := [.int (mt_sz nf lo + mt_sz nf hi), .int 0]) ⟨hx, hb, hml, hown, hts⟩ (c_sizeOf l g ws LP nf hp lo (fun x hx9 => (h1 x hx9).1)) (va_cwS 1 hts (mt_giS mw_101 mw_102 mw_1 (mt_gi mw_103)) rfl rfl rfl (by decide +kernel) ⟨Nat.le_of_ble_eq_true rfl, Nat.le_of_ble_eq_true rfl⟩) (mt_preS hE hz hS hP hD) rfl rfl hl.1 rfl (lv_room (Nat.le_of_ble_eq_true rfl)) dXT_faultsOfFork_86 ⟨Nat.zero_le _, Nat.zero_le _⟩) (fun z1 e1 => ?_)
      subst e1
      refine lv_aload_n hx hb dXT_faultsOfFork_89 rfl (lv_at hl 2 rfl) ?_
      refine va_getN (D := g.1) (ci := 0) (v := va_rf ((nf a).2.2.2.1)) (C := RXN) (T := TXN) (N := 7) hx hb hts (fun w h => List.mem_cons_of_mem _ (in_XN w h)) hown hK hP kv hkv rfl 3 (by decide) (va_Nw.use rfl (hE.w (.fieldLinkNest "MeldTree" 142 "MeldTree$Node" "high" "LMeldTree$Node;" "MeldTree") (by decide +kernel))) (fun _ h9 => h9) rfl dXT_faultsOfFork_90 ?_
      refine qa_q (y := hi) f3 ?_
      refine vp_callSi (W.runS (As := [va_rf hi]) (rest := [.int (mt_sz nf lo), .int (mt_sz nf lo + mt_sz nf hi), .int 0]) ⟨hx, hb, hml, hown, hts⟩ (c_sizeOf l g ws LP nf hp hi (fun x hx9 => (h2 x hx9).1)) (va_cwS 1 hts (mt_giS mw_101 mw_102 mw_1 (mt_gi mw_103)) rfl rfl rfl (by decide +kernel) ⟨Nat.le_of_ble_eq_true rfl, Nat.le_of_ble_eq_true rfl⟩) (mt_preS hE hz hS hP hD) rfl rfl hl.1 rfl (lv_room (Nat.le_of_ble_eq_true rfl)) dXT_faultsOfFork_93 ⟨Nat.zero_le _, Nat.zero_le _⟩) (fun z1 e1 => ?_)
      subst e1
      refine lv_iadd hx hb dXT_faultsOfFork_96 ?_
      refine lv_icmp_ne (tgt := 104) hx hb dXT_faultsOfFork_97 (by decide) (fun z => absurd rfl z) (fun _ => ?_)
      refine lv_iconst (v := 0) hx hb dXT_faultsOfFork_100 (by decide +kernel) ?_
      refine lv_goto (tgt := 105) hx hb dXT_faultsOfFork_101 (by decide) ?_
      refine lv_iadd hx hb dXT_faultsOfFork_105 ?_
      refine qa_i (y := 0) rfl ?_
      refine lv_istore_n (i := 2) (lv' := [(2, .int 0), (1, .int (nI h)), (0, .ref a)]) hx hb dXT_faultsOfFork_106 rfl hl (by decide) rfl (fun ls hl => ?_)
      refine lv_iload_n hx hb dXT_faultsOfFork_107 rfl (lv_at hl 0 rfl) ?_
      refine lv_aload_n hx hb dXT_faultsOfFork_108 rfl (lv_at hl 2 rfl) ?_
      refine va_getN (D := g.1) (ci := 0) (v := .long ((nf a).2.2.2.2.2.2)) (C := RXN) (T := TXN) (N := 7) hx hb hts (fun w h => List.mem_cons_of_mem _ (in_XN w h)) hown hK hP kv hkv rfl 6 (by decide) (va_Nw.use rfl (hE.w (.fieldLinkNest "MeldTree" 161 "MeldTree$Node" "total" "J" "MeldTree") (by decide +kernel))) (fun _ h9 => h9) rfl dXT_faultsOfFork_109 ?_
      refine qa_l (y := (mt_to nf lo + mt_to nf hi)) f6 ?_
      refine lv_aload_n hx hb dXT_faultsOfFork_112 rfl (lv_at hl 2 rfl) ?_
      refine va_getN (D := g.1) (ci := 0) (v := va_rf ((nf a).2.2.1)) (C := RXN) (T := TXN) (N := 7) hx hb hts (fun w h => List.mem_cons_of_mem _ (in_XN w h)) hown hK hP kv hkv rfl 2 (by decide) (va_Nw.use rfl (hE.w (.fieldLinkNest "MeldTree" 138 "MeldTree$Node" "low" "LMeldTree$Node;" "MeldTree") (by decide +kernel))) (fun _ h9 => h9) rfl dXT_faultsOfFork_113 ?_
      refine qa_q (y := lo) f2 ?_
      refine vp_callSl (W.runS (As := [va_rf lo]) (rest := [.long (mt_to nf lo + mt_to nf hi), .int 0]) ⟨hx, hb, hml, hown, hts⟩ (c_totalOf l g ws LP nf hp lo (fun x hx9 => (h1 x hx9).1)) (va_cwS 1 hts (mt_giS mw_104 mw_105 mw_1 (mt_gi mw_106)) rfl rfl rfl (by decide +kernel) ⟨Nat.le_of_ble_eq_true rfl, Nat.le_of_ble_eq_true rfl⟩) (mt_preS hE hz hS hP hD) rfl rfl hl.1 rfl (lv_room (Nat.le_of_ble_eq_true rfl)) dXT_faultsOfFork_116 ⟨Nat.zero_le _, Nat.zero_le _⟩) (fun z1 e1 => ?_)
      subst e1
      refine lv_aload_n hx hb dXT_faultsOfFork_119 rfl (lv_at hl 2 rfl) ?_
      refine va_getN (D := g.1) (ci := 0) (v := va_rf ((nf a).2.2.2.1)) (C := RXN) (T := TXN) (N := 7) hx hb hts (fun w h => List.mem_cons_of_mem _ (in_XN w h)) hown hK hP kv hkv rfl 3 (by decide) (va_Nw.use rfl (hE.w (.fieldLinkNest "MeldTree" 142 "MeldTree$Node" "high" "LMeldTree$Node;" "MeldTree") (by decide +kernel))) (fun _ h9 => h9) rfl dXT_faultsOfFork_120 ?_
      refine qa_q (y := hi) f3 ?_
      refine vp_callSl (W.runS (As := [va_rf hi]) (rest := [.long (mt_to nf lo), .long (mt_to nf lo + mt_to nf hi), .int 0]) ⟨hx, hb, hml, hown, hts⟩ (c_totalOf l g ws LP nf hp hi (fun x hx9 => (h2 x hx9).1)) (va_cwS 1 hts (mt_giS mw_104 mw_105 mw_1 (mt_gi mw_106)) rfl rfl rfl (by decide +kernel) ⟨Nat.le_of_ble_eq_true rfl, Nat.le_of_ble_eq_true rfl⟩) (mt_preS hE hz hS hP hD) rfl rfl hl.1 rfl (lv_room (Nat.le_of_ble_eq_true rfl)) dXT_faultsOfFork_123 ⟨Nat.zero_le _, Nat.zero_le _⟩) (fun z1 e1 => ?_)
      subst e1
      refine lv_ladd hx hb dXT_faultsOfFork_126 ?_
      refine W.lcmp hx hb dXT_faultsOfFork_127 ?_
      refine lv_if_ne (tgt := 135) hx hb dXT_faultsOfFork_128 (by decide) (fun z => absurd (qa_cmp _) z) (fun _ => ?_)
      refine lv_iconst (v := 0) hx hb dXT_faultsOfFork_131 (by decide +kernel) ?_
      refine lv_goto (tgt := 136) hx hb dXT_faultsOfFork_132 (by decide) ?_
      refine lv_iadd hx hb dXT_faultsOfFork_136 ?_
      refine qa_i (y := 0) rfl ?_
      refine lv_istore_n (i := 2) (lv' := [(2, .int 0), (1, .int (nI h)), (0, .ref a)]) hx hb dXT_faultsOfFork_137 rfl hl (by decide) rfl (fun ls hl => ?_)
      refine lv_iload_n hx hb dXT_faultsOfFork_138 rfl (lv_at hl 0 rfl) ?_
      exact W.iret (v := 0) hx hb hr (fun t9 ht hW => ⟨0, rfl, rfl, ht⟩) t_nil dXT_faultsOfFork_139
    · exact absurd ⟨c1, c2⟩ hne
set_option maxHeartbeats 4000000 in
set_option maxRecDepth 100000 in
/-- faultsOf(node), where there are none -/
theorem c_faultsOf (l : Launch) (g : mt_G) (ws : va_W) (LP : List Nat) (nf : Nat → mt_N) (hp : mt_pool ws LP nf) (a : Nat) (ha : a ∈ LP) (hok : mt_ok LP nf a) : Met l yXT_faultsOf wsXT_faultsOf ({ frames := 2, cells := 0, slots := 0, locals := 44 }) (mt_Pc g ws [.ref a]) (vp_Si (fun z => z = 0)) (0) (0) (fun _ => False) := by
  refine Met.ofW (cc := cXT_faultsOf) (maxL := 1) (ret := (some .int)) (by decide) rfl ?_
  intro p e s m args below meth c s₁ B hml hv
  obtain ⟨rfl, hE, hz, hP, hD⟩ := hv
  have hx := B.exec
  have hb := B.bytes
  have hr := B.returns
  have hts := atoms_spec (ws := wsXT_faultsOf) B.pre
  have hown : s.vm.findClass RXT = some m.cls := findClass_of_methodNamed B.named
  have hlocks := B.notSynchronized
  have hK := hE.k
  have hA : ∀ q : Nat, s.heap.size ≤ q → mt_A g q := fun q h => Nat.le_trans hz h
  have hS : va_S (mt_A g) s.heap s.heap [] := va_S.rf
  have hl := lv_entry ([.ref a]) (n := 1) (Nat.le_of_ble_eq_true rfl)
  rw [lg_entry_eq]
  generalize (lg_sl ([.ref a]) ++ List.replicate (1 - (lg_sl ([.ref a])).length) Slot.unset).toArray = ls at hl ⊢
  have hl : lv_has ls 1 [(0, .ref a)] := hl
  have hH : s.heap = s.heap := rfl
  obtain ⟨kv, hkv⟩ := hp a ha
  refine lv_aload_n hx hb dXT_faultsOf_0 rfl (lv_at hl 0 rfl) ?_
  refine lv_ifnonnull (tgt := 6) hx hb dXT_faultsOf_1 (by decide) ?_
  refine lv_aload_n hx hb dXT_faultsOf_6 rfl (lv_at hl 0 rfl) ?_
  refine va_getN (D := g.1) (ci := 0) (v := .int ((nf a).1)) (C := RXN) (T := TXN) (N := 7) hx hb hts (fun w h => List.mem_cons_of_mem _ (in_XN w h)) hown hK hP kv hkv rfl 0 (by decide) (va_Nw.use rfl (hE.w (.fieldLinkNest "MeldTree" 150 "MeldTree$Node" "height" "I" "MeldTree") (by decide +kernel))) (fun _ h9 => h9) rfl dXT_faultsOf_7 ?_
  rcases hok with ⟨b, x, hn⟩ | ⟨h, b, lo, hi, hh, hb9, hn, hne, h1, h2⟩
  · refine qa_i (y := 0) (by rw [hn]) ?_
    refine lv_if_gt (tgt := 20) hx hb dXT_faultsOf_10 (by decide) (fun z => absurd z (show ¬ (0 : Int32) < 0 by decide)) (fun _ => ?_)
    refine lv_aload_n hx hb dXT_faultsOf_13 rfl (lv_at hl 0 rfl) ?_
    refine vp_callSi (W.runS (As := [.ref a]) (rest := []) ⟨hx, hb, hml, hown, hts⟩ (c_faultsOfLeaf l g ws LP nf hp a ha b x hn) (va_cwS 1 hts (mt_giS mw_95 mw_96 mw_1 (mt_gi mw_97)) rfl rfl rfl (by decide +kernel) ⟨Nat.le_of_ble_eq_true rfl, Nat.le_of_ble_eq_true rfl⟩) (mt_preS hE hz hS hP hD) rfl rfl hl.1 rfl (lv_room (Nat.le_of_ble_eq_true rfl)) dXT_faultsOf_14 ⟨Nat.zero_le _, Nat.zero_le _⟩) (fun z1 e1 => ?_)
    subst e1
    refine lv_goto (tgt := 24) hx hb dXT_faultsOf_17 (by decide) ?_
    exact W.iret (v := 0) hx hb hr (fun t9 ht hW => ⟨0, rfl, rfl, ht⟩) t_nil dXT_faultsOf_24
  · refine qa_i (y := (nI (h + 1))) (by rw [hn]) ?_
    refine lv_if_gt (tgt := 20) hx hb dXT_faultsOf_10 (by decide) (fun _ => ?_) (fun z => absurd (show 0 < nI (h + 1) from nI_lt (a := 0) (by omega) (by omega)) z)
    refine lv_aload_n hx hb dXT_faultsOf_20 rfl (lv_at hl 0 rfl) ?_
    refine vp_callSi (W.runS (As := [.ref a]) (rest := []) ⟨hx, hb, hml, hown, hts⟩ (c_faultsOfFork l g ws LP nf hp a ha h b lo hi hh hn hne h1 h2) (va_cwS 1 hts (mt_giS mw_98 mw_99 mw_1 (mt_gi mw_100)) rfl rfl rfl (by decide +kernel) ⟨Nat.le_of_ble_eq_true rfl, Nat.le_of_ble_eq_true rfl⟩) (mt_preS hE hz hS hP hD) rfl rfl hl.1 rfl (lv_room (Nat.le_of_ble_eq_true rfl)) dXT_faultsOf_21 ⟨Nat.zero_le _, Nat.zero_le _⟩) (fun z1 e1 => ?_)
    subst e1
    exact W.iret (v := 0) hx hb hr (fun t9 ht hW => ⟨0, rfl, rfl, ht⟩) t_nil dXT_faultsOf_24
