set_option maxHeartbeats 4000000 in
set_option maxRecDepth 100000 in
/-- lowOf(node) -/
theorem c_lowOf (l : Launch) (g : mt_G) (ws : va_W) (LP : List Nat) (nf : Nat → mt_N) (hp : mt_pool ws LP nf) (r : Option Nat) (hm : ∀ a, r = some a → a ∈ LP) : Met l yXT_lowOf wsXT_lowOf ({ frames := 0, cells := 0, slots := 0, locals := 0 }) (mt_Pc g ws [va_rf r]) (va_Sq (fun z => z = mt_lo nf r)) (0) (0) (fun _ => False) := by
  refine Met.ofW (cc := cXT_lowOf) (maxL := 1) (ret := (some (.object "MeldTree$Node"))) (by decide) rfl ?_
  intro p e s m args below meth c s₁ B hml hv
  obtain ⟨rfl, hE, hz, hP, hD⟩ := hv
  have hx := B.exec
  have hb := B.bytes
  have hr := B.returns
  have hts := atoms_spec (ws := wsXT_lowOf) B.pre
  have hown : s.vm.findClass RXT = some m.cls := findClass_of_methodNamed B.named
  have hlocks := B.notSynchronized
  have hK := hE.k
  have hA : ∀ q : Nat, s.heap.size ≤ q → mt_A g q := fun q h => Nat.le_trans hz h
  have hS : va_S (mt_A g) s.heap s.heap [] := va_S.rf
  have hl := lv_entry ([va_rf r]) (n := 1) (by rw [qa_sl1 (qa_cat _), qa_sl0]; exact Nat.le_of_ble_eq_true rfl)
  rw [lg_entry_eq]
  generalize (lg_sl ([va_rf r]) ++ List.replicate (1 - (lg_sl ([va_rf r])).length) Slot.unset).toArray = ls at hl ⊢
  have hl : lv_has ls 1 [(0, va_rf r)] := by rw [qa_ar1 (qa_cat _)] at hl; exact hl
  have hH : s.heap = s.heap := rfl
  refine qa_aload_n hx hb dXT_lowOf_0 rfl (lv_at hl 0 rfl) ?_
  refine qa_ifnonnull (tgt := 8) hx hb dXT_lowOf_1 (by decide) (fun a e1 => ?_) (fun e1 => ?_)
  · subst e1
    obtain ⟨k0, hk0⟩ := hp a (hm a rfl)
    have hl : lv_has ls 1 [(0, .ref a)] := hl
    refine lv_aload_n hx hb dXT_lowOf_8 rfl (lv_at hl 0 rfl) ?_
    refine va_getN (D := g.1) (ci := 0) (v := va_rf ((nf a).2.2.1)) (C := RXN) (T := TXN) (N := 7) hx hb hts (fun w h => List.mem_cons_of_mem _ (in_XN w h)) hown hK hP k0 hk0 rfl 2 (by decide) (va_Nw.use rfl (hE.w (.fieldLinkNest "MeldTree" 138 "MeldTree$Node" "low" "LMeldTree$Node;" "MeldTree") (by decide +kernel))) (fun _ h9 => h9) rfl dXT_lowOf_9 ?_
    exact W.aret (v := va_rf ((nf a).2.2.1)) hx hb hr (Or.inl ⟨_, rfl⟩) (va_rf_or _) (fun t9 ht hW => ⟨(nf a).2.2.1, rfl, rfl, ht⟩) t_nil dXT_lowOf_12
  · subst e1
    refine lv_null hx hb dXT_lowOf_4 ?_
    refine lv_goto (tgt := 12) hx hb dXT_lowOf_5 (by decide) ?_
    exact W.aret (v := va_rf none) hx hb hr (Or.inl ⟨_, rfl⟩) (va_rf_or _) (fun t9 ht hW => ⟨none, rfl, rfl, ht⟩) t_nil dXT_lowOf_12
set_option maxHeartbeats 4000000 in
set_option maxRecDepth 100000 in
/-- highOf(node) -/
theorem c_highOf (l : Launch) (g : mt_G) (ws : va_W) (LP : List Nat) (nf : Nat → mt_N) (hp : mt_pool ws LP nf) (r : Option Nat) (hm : ∀ a, r = some a → a ∈ LP) : Met l yXT_highOf wsXT_highOf ({ frames := 0, cells := 0, slots := 0, locals := 0 }) (mt_Pc g ws [va_rf r]) (va_Sq (fun z => z = mt_hi nf r)) (0) (0) (fun _ => False) := by
  refine Met.ofW (cc := cXT_highOf) (maxL := 1) (ret := (some (.object "MeldTree$Node"))) (by decide) rfl ?_
  intro p e s m args below meth c s₁ B hml hv
  obtain ⟨rfl, hE, hz, hP, hD⟩ := hv
  have hx := B.exec
  have hb := B.bytes
  have hr := B.returns
  have hts := atoms_spec (ws := wsXT_highOf) B.pre
  have hown : s.vm.findClass RXT = some m.cls := findClass_of_methodNamed B.named
  have hlocks := B.notSynchronized
  have hK := hE.k
  have hA : ∀ q : Nat, s.heap.size ≤ q → mt_A g q := fun q h => Nat.le_trans hz h
  have hS : va_S (mt_A g) s.heap s.heap [] := va_S.rf
  have hl := lv_entry ([va_rf r]) (n := 1) (by rw [qa_sl1 (qa_cat _), qa_sl0]; exact Nat.le_of_ble_eq_true rfl)
  rw [lg_entry_eq]
  generalize (lg_sl ([va_rf r]) ++ List.replicate (1 - (lg_sl ([va_rf r])).length) Slot.unset).toArray = ls at hl ⊢
  have hl : lv_has ls 1 [(0, va_rf r)] := by rw [qa_ar1 (qa_cat _)] at hl; exact hl
  have hH : s.heap = s.heap := rfl
  refine qa_aload_n hx hb dXT_highOf_0 rfl (lv_at hl 0 rfl) ?_
  refine qa_ifnonnull (tgt := 8) hx hb dXT_highOf_1 (by decide) (fun a e1 => ?_) (fun e1 => ?_)
  · subst e1
    obtain ⟨k0, hk0⟩ := hp a (hm a rfl)
    have hl : lv_has ls 1 [(0, .ref a)] := hl
    refine lv_aload_n hx hb dXT_highOf_8 rfl (lv_at hl 0 rfl) ?_
    refine va_getN (D := g.1) (ci := 0) (v := va_rf ((nf a).2.2.2.1)) (C := RXN) (T := TXN) (N := 7) hx hb hts (fun w h => List.mem_cons_of_mem _ (in_XN w h)) hown hK hP k0 hk0 rfl 3 (by decide) (va_Nw.use rfl (hE.w (.fieldLinkNest "MeldTree" 142 "MeldTree$Node" "high" "LMeldTree$Node;" "MeldTree") (by decide +kernel))) (fun _ h9 => h9) rfl dXT_highOf_9 ?_
    exact W.aret (v := va_rf ((nf a).2.2.2.1)) hx hb hr (Or.inl ⟨_, rfl⟩) (va_rf_or _) (fun t9 ht hW => ⟨(nf a).2.2.2.1, rfl, rfl, ht⟩) t_nil dXT_highOf_12
  · subst e1
    refine lv_null hx hb dXT_highOf_4 ?_
    refine lv_goto (tgt := 12) hx hb dXT_highOf_5 (by decide) ?_
    exact W.aret (v := va_rf none) hx hb hr (Or.inl ⟨_, rfl⟩) (va_rf_or _) (fun t9 ht hW => ⟨none, rfl, rfl, ht⟩) t_nil dXT_highOf_12
set_option maxHeartbeats 4000000 in
set_option maxRecDepth 100000 in
/-- sizeOf(node) -/
theorem c_sizeOf (l : Launch) (g : mt_G) (ws : va_W) (LP : List Nat) (nf : Nat → mt_N) (hp : mt_pool ws LP nf) (r : Option Nat) (hm : ∀ a, r = some a → a ∈ LP) : Met l yXT_sizeOf wsXT_sizeOf ({ frames := 0, cells := 0, slots := 0, locals := 0 }) (mt_Pc g ws [va_rf r]) (vp_Si (fun z => z = mt_sz nf r)) (0) (0) (fun _ => False) := by
  refine Met.ofW (cc := cXT_sizeOf) (maxL := 1) (ret := (some .int)) (by decide) rfl ?_
  intro p e s m args below meth c s₁ B hml hv
  obtain ⟨rfl, hE, hz, hP, hD⟩ := hv
  have hx := B.exec
  have hb := B.bytes
  have hr := B.returns
  have hts := atoms_spec (ws := wsXT_sizeOf) B.pre
  have hown : s.vm.findClass RXT = some m.cls := findClass_of_methodNamed B.named
  have hlocks := B.notSynchronized
  have hK := hE.k
  have hA : ∀ q : Nat, s.heap.size ≤ q → mt_A g q := fun q h => Nat.le_trans hz h
  have hS : va_S (mt_A g) s.heap s.heap [] := va_S.rf
  have hl := lv_entry ([va_rf r]) (n := 1) (by rw [qa_sl1 (qa_cat _), qa_sl0]; exact Nat.le_of_ble_eq_true rfl)
  rw [lg_entry_eq]
  generalize (lg_sl ([va_rf r]) ++ List.replicate (1 - (lg_sl ([va_rf r])).length) Slot.unset).toArray = ls at hl ⊢
  have hl : lv_has ls 1 [(0, va_rf r)] := by rw [qa_ar1 (qa_cat _)] at hl; exact hl
  have hH : s.heap = s.heap := rfl
  refine qa_aload_n hx hb dXT_sizeOf_0 rfl (lv_at hl 0 rfl) ?_
  refine qa_ifnonnull (tgt := 8) hx hb dXT_sizeOf_1 (by decide) (fun a e1 => ?_) (fun e1 => ?_)
  · subst e1
    obtain ⟨k0, hk0⟩ := hp a (hm a rfl)
    have hl : lv_has ls 1 [(0, .ref a)] := hl
    refine lv_aload_n hx hb dXT_sizeOf_8 rfl (lv_at hl 0 rfl) ?_
    refine va_getN (D := g.1) (ci := 0) (v := .int ((nf a).2.2.2.2.2.1)) (C := RXN) (T := TXN) (N := 7) hx hb hts (fun w h => List.mem_cons_of_mem _ (in_XN w h)) hown hK hP k0 hk0 rfl 5 (by decide) (va_Nw.use rfl (hE.w (.fieldLinkNest "MeldTree" 159 "MeldTree$Node" "size" "I" "MeldTree") (by decide +kernel))) (fun _ h9 => h9) rfl dXT_sizeOf_9 ?_
    exact W.iret (v := (nf a).2.2.2.2.2.1) hx hb hr (fun t9 ht hW => ⟨(nf a).2.2.2.2.2.1, rfl, rfl, ht⟩) t_nil dXT_sizeOf_12
  · subst e1
    refine lv_iconst (v := 0) hx hb dXT_sizeOf_4 (by decide +kernel) ?_
    refine lv_goto (tgt := 12) hx hb dXT_sizeOf_5 (by decide) ?_
    exact W.iret (v := 0) hx hb hr (fun t9 ht hW => ⟨0, rfl, rfl, ht⟩) t_nil dXT_sizeOf_12
set_option maxHeartbeats 4000000 in
set_option maxRecDepth 100000 in
/-- totalOf(node) -/
theorem c_totalOf (l : Launch) (g : mt_G) (ws : va_W) (LP : List Nat) (nf : Nat → mt_N) (hp : mt_pool ws LP nf) (r : Option Nat) (hm : ∀ a, r = some a → a ∈ LP) : Met l yXT_totalOf wsXT_totalOf ({ frames := 0, cells := 0, slots := 0, locals := 0 }) (mt_Pc g ws [va_rf r]) (vp_Sl (fun z => z = mt_to nf r)) (0) (0) (fun _ => False) := by
  refine Met.ofW (cc := cXT_totalOf) (maxL := 1) (ret := (some .long)) (by decide) rfl ?_
  intro p e s m args below meth c s₁ B hml hv
  obtain ⟨rfl, hE, hz, hP, hD⟩ := hv
  have hx := B.exec
  have hb := B.bytes
  have hr := B.returns
  have hts := atoms_spec (ws := wsXT_totalOf) B.pre
  have hown : s.vm.findClass RXT = some m.cls := findClass_of_methodNamed B.named
  have hlocks := B.notSynchronized
  have hK := hE.k
  have hA : ∀ q : Nat, s.heap.size ≤ q → mt_A g q := fun q h => Nat.le_trans hz h
  have hS : va_S (mt_A g) s.heap s.heap [] := va_S.rf
  have hl := lv_entry ([va_rf r]) (n := 1) (by rw [qa_sl1 (qa_cat _), qa_sl0]; exact Nat.le_of_ble_eq_true rfl)
  rw [lg_entry_eq]
  generalize (lg_sl ([va_rf r]) ++ List.replicate (1 - (lg_sl ([va_rf r])).length) Slot.unset).toArray = ls at hl ⊢
  have hl : lv_has ls 1 [(0, va_rf r)] := by rw [qa_ar1 (qa_cat _)] at hl; exact hl
  have hH : s.heap = s.heap := rfl
  refine qa_aload_n hx hb dXT_totalOf_0 rfl (lv_at hl 0 rfl) ?_
  refine qa_ifnonnull (tgt := 8) hx hb dXT_totalOf_1 (by decide) (fun a e1 => ?_) (fun e1 => ?_)
  · subst e1
    obtain ⟨k0, hk0⟩ := hp a (hm a rfl)
    have hl : lv_has ls 1 [(0, .ref a)] := hl
    refine lv_aload_n hx hb dXT_totalOf_8 rfl (lv_at hl 0 rfl) ?_
    refine va_getN (D := g.1) (ci := 0) (v := .long ((nf a).2.2.2.2.2.2)) (C := RXN) (T := TXN) (N := 7) hx hb hts (fun w h => List.mem_cons_of_mem _ (in_XN w h)) hown hK hP k0 hk0 rfl 6 (by decide) (va_Nw.use rfl (hE.w (.fieldLinkNest "MeldTree" 161 "MeldTree$Node" "total" "J" "MeldTree") (by decide +kernel))) (fun _ h9 => h9) rfl dXT_totalOf_9 ?_
    exact W.lret (v := (nf a).2.2.2.2.2.2) hx hb hr (fun t9 ht hW => ⟨(nf a).2.2.2.2.2.2, rfl, rfl, ht⟩) t_nil dXT_totalOf_12
  · subst e1
    refine lv_lconst (v := 0) hx hb dXT_totalOf_4 (by decide +kernel) ?_
    refine lv_goto (tgt := 12) hx hb dXT_totalOf_5 (by decide) ?_
    exact W.lret (v := 0) hx hb hr (fun t9 ht hW => ⟨0, rfl, rfl, ht⟩) t_nil dXT_totalOf_12
set_option maxHeartbeats 4000000 in
set_option maxRecDepth 100000 in
/-- goesHigh(k, height) -/
theorem c_goesHigh (l : Launch) (g : mt_G) (ws : va_W) {k h : Nat} (hk : k < 256) (hh : h < 8) : Met l yXT_goesHigh wsXT_goesHigh ({ frames := 0, cells := 0, slots := 0, locals := 0 }) (mt_Pc g ws [.int (nI k), .int (nI (h + 1))]) (vp_Si (fun z => z = nI (k / 2 ^ h % 2))) (0) (0) (fun _ => False) := by
  refine Met.ofW (cc := cXT_goesHigh) (maxL := 2) (ret := (some .boolean)) (by decide) rfl ?_
  intro p e s m args below meth c s₁ B hml hv
  obtain ⟨rfl, hE, hz, hP, hD⟩ := hv
  have hx := B.exec
  have hb := B.bytes
  have hr := B.returns
  have hts := atoms_spec (ws := wsXT_goesHigh) B.pre
  have hown : s.vm.findClass RXT = some m.cls := findClass_of_methodNamed B.named
  have hlocks := B.notSynchronized
  have hK := hE.k
  have hA : ∀ q : Nat, s.heap.size ≤ q → mt_A g q := fun q h => Nat.le_trans hz h
  have hS : va_S (mt_A g) s.heap s.heap [] := va_S.rf
  have hl := lv_entry ([.int (nI k), .int (nI (h + 1))]) (n := 2) (Nat.le_of_ble_eq_true rfl)
  rw [lg_entry_eq]
  generalize (lg_sl ([.int (nI k), .int (nI (h + 1))]) ++ List.replicate (2 - (lg_sl ([.int (nI k), .int (nI (h + 1))])).length) Slot.unset).toArray = ls at hl ⊢
  have hl : lv_has ls 2 [(0, .int (nI k)), (1, .int (nI (h + 1)))] := hl
  have hH : s.heap = s.heap := rfl
  refine lv_iload_n hx hb dXT_goesHigh_0 rfl (lv_at hl 0 rfl) ?_
  refine lv_iload_n hx hb dXT_goesHigh_1 rfl (lv_at hl 1 rfl) ?_
  refine lv_iconst (v := 1) hx hb dXT_goesHigh_2 (by decide +kernel) ?_
  refine lv_isub hx hb dXT_goesHigh_3 ?_
  refine lv_ishr hx hb dXT_goesHigh_4 ?_
  refine lv_iconst (v := 1) hx hb dXT_goesHigh_5 (by decide +kernel) ?_
  refine lv_iand hx hb dXT_goesHigh_6 ?_
  refine qa_i (y := nI (k / 2 ^ h % 2)) (mt_bit hk hh) ?_
  have h2 : k / 2 ^ h % 2 = 0 ∨ k / 2 ^ h % 2 = 1 := by omega
  rcases h2 with h2 | h2
  · refine qa_i (y := nI 0) (by rw [h2]) ?_
    refine lv_iconst (v := 1) hx hb dXT_goesHigh_7 (by decide +kernel) ?_
    refine lv_icmp_ne (tgt := 15) hx hb dXT_goesHigh_8 (by decide) (fun _ => ?_) (fun z => absurd z (show ¬ nI 0 = 1 by decide))
    refine lv_iconst (v := 0) hx hb dXT_goesHigh_15 (by decide +kernel) ?_
    exact W.zret (v := 0) hx hb hr rfl (fun t9 ht hW => ⟨0, rfl, by rw [h2]; rfl, ht⟩) t_nil dXT_goesHigh_16
  · refine qa_i (y := nI 1) (by rw [h2]) ?_
    refine lv_iconst (v := 1) hx hb dXT_goesHigh_7 (by decide +kernel) ?_
    refine lv_icmp_ne (tgt := 15) hx hb dXT_goesHigh_8 (by decide) (fun z => absurd (show nI 1 = 1 by decide) z) (fun _ => ?_)
    refine lv_iconst (v := 1) hx hb dXT_goesHigh_11 (by decide +kernel) ?_
    refine lv_goto (tgt := 16) hx hb dXT_goesHigh_12 (by decide) ?_
    exact W.zret (v := 1) hx hb hr rfl (fun t9 ht hW => ⟨1, rfl, by rw [h2]; rfl, ht⟩) t_nil dXT_goesHigh_16
