set_option maxHeartbeats 4000000 in
set_option maxRecDepth 100000 in
/-- differences(v, w, height) -/
theorem c_differences0 (l : Launch) (g : mt_G) (ws : va_W) (LP : List Nat) (nf : Nat → mt_N) (hp : mt_pool ws LP nf) (t u : mt_T) (b : Nat) (v w : Option Nat) (hv0 : mt_rep LP nf t 0 b v) (hw0 : mt_rep LP nf u 0 b w) (hb0 : b + 2 ^ 0 ≤ 256) : Met l yXT_differences wsXT_differences ({ frames := 0 + 1, cells := 0, slots := 0, locals := 22 * 0 + 22 }) (mt_Pc g ws [va_rf v, va_rf w, .int (nI 0)]) (vp_Si (fun z => z = nI (mt_d t u b (2 ^ 0)))) (0) (0) (fun _ => False) := by
  refine Met.ofW (cc := cXT_differences) (maxL := 3) (ret := (some .int)) (by decide) rfl ?_
  intro p e s m args below meth c s₁ B hml hv
  obtain ⟨rfl, hE, hz, hP, hD⟩ := hv
  have hx := B.exec
  have hb := B.bytes
  have hr := B.returns
  have hts := atoms_spec (ws := wsXT_differences) B.pre
  have hown : s.vm.findClass RXT = some m.cls := findClass_of_methodNamed B.named
  have hlocks := B.notSynchronized
  have hK := hE.k
  have hA : ∀ q : Nat, s.heap.size ≤ q → mt_A g q := fun q h => Nat.le_trans hz h
  have hS : va_S (mt_A g) s.heap s.heap [] := va_S.rf
  have hl := lv_entry ([va_rf v, va_rf w, .int (nI 0)]) (n := 3) (by rw [qa_sl1 (qa_cat _), qa_sl1 (qa_cat _), qa_sl1 (qa_ci _), qa_sl0]; exact Nat.le_of_ble_eq_true rfl)
  rw [lg_entry_eq]
  generalize (lg_sl ([va_rf v, va_rf w, .int (nI 0)]) ++ List.replicate (3 - (lg_sl ([va_rf v, va_rf w, .int (nI 0)])).length) Slot.unset).toArray = ls at hl ⊢
  have hl : lv_has ls 3 [(0, va_rf v), (1, va_rf w), (2, .int (nI 0))] := by rw [qa_ar1 (qa_cat _), qa_ar1 (qa_cat _), qa_ar1 (qa_ci _)] at hl; exact hl
  have hH : s.heap = s.heap := rfl
  refine qa_aload_n hx hb dXT_differences_0 rfl (lv_at hl 0 rfl) ?_
  refine qa_aload_n hx hb dXT_differences_1 rfl (lv_at hl 1 rfl) ?_
  refine lv_acmp_ne (tgt := 7) hx hb dXT_differences_2 (by decide) (fun c1 => ?_) (fun c1 => ?_)
  · refine qa_aload_n hx hb dXT_differences_7 rfl (lv_at hl 0 rfl) ?_
    refine qa_ifnull (tgt := 15) hx hb dXT_differences_8 (by decide) (fun c2 => ?_) (fun av c2 => ?_)
    · refine qa_aload_n hx hb dXT_differences_15 rfl (lv_at hl 0 rfl) ?_
      refine vp_callSi (W.runS (As := [va_rf v]) (rest := []) ⟨hx, hb, hml, hown, hts⟩ (c_sizeOf l g _ LP nf hp v (mt_rep_mem hv0)) (va_cwS 1 hts (mt_giS mw_101 mw_102 mw_1 (mt_gi mw_103)) rfl rfl rfl (by decide +kernel) ⟨by show 0 + 1 ≤ 0 + 1; omega, by show 8 + (1 + 11) + 0 ≤ 22 * 0 + 22; omega⟩) (mt_preS hE hz hS hP hD) rfl rfl hl.1 rfl (lv_room (Nat.le_of_ble_eq_true rfl)) dXT_differences_16 ⟨Nat.zero_le _, Nat.zero_le _⟩) (fun z1 e1 => ?_)
      subst e1
      refine qa_aload_n hx hb dXT_differences_19 rfl (lv_at hl 1 rfl) ?_
      refine vp_callSi (W.runS (As := [va_rf w]) (rest := [.int (mt_sz nf v)]) ⟨hx, hb, hml, hown, hts⟩ (c_sizeOf l g _ LP nf hp w (mt_rep_mem hw0)) (va_cwS 1 hts (mt_giS mw_101 mw_102 mw_1 (mt_gi mw_103)) rfl rfl rfl (by decide +kernel) ⟨by show 0 + 1 ≤ 0 + 1; omega, by show 8 + (1 + 11) + 0 ≤ 22 * 0 + 22; omega⟩) (mt_preS hE hz hS hP hD) rfl rfl hl.1 rfl (lv_room (Nat.le_of_ble_eq_true rfl)) dXT_differences_20 ⟨Nat.zero_le _, Nat.zero_le _⟩) (fun z1 e1 => ?_)
      subst e1
      refine lv_iadd hx hb dXT_differences_23 ?_
      have hn := mt_rep_none.mp (c2 ▸ hv0)
      exact W.iret (v := (mt_sz nf v + mt_sz nf w)) hx hb hr (fun t9 ht hW => ⟨(mt_sz nf v + mt_sz nf w), rfl, by rw [mt_d_l hn, (mt_rep_sz hw0).1, c2]; exact (nI_add 0 _).trans (by rw [Nat.zero_add]), ht⟩) t_nil dXT_differences_24
    · refine qa_aload_n hx hb dXT_differences_11 rfl (lv_at hl 1 rfl) ?_
      refine qa_ifnonnull (tgt := 25) hx hb dXT_differences_12 (by decide) (fun aw c3 => ?_) (fun c3 => ?_)
      · subst c2
        subst c3
        obtain ⟨kv, hkv⟩ := hp av (mt_rep_mem hv0 av rfl)
        obtain ⟨kw, hkw⟩ := hp aw (mt_rep_mem hw0 aw rfl)
        have hl : lv_has ls 3 [(0, .ref av), (1, .ref aw), (2, .int (nI 0))] := hl
        refine lv_iload_n hx hb dXT_differences_25 rfl (lv_at hl 2 rfl) ?_
        refine lv_if_gt (tgt := 46) hx hb dXT_differences_26 (by decide) (fun z => absurd z (show ¬ 0 < nI 0 by decide)) (fun _ => ?_)
        refine lv_aload_n hx hb dXT_differences_29 rfl (lv_at hl 0 rfl) ?_
        refine va_getN (D := g.1) (ci := 0) (v := .int ((nf av).2.2.2.2.1)) (C := RXN) (T := TXN) (N := 7) hx hb hts (fun w h => List.mem_cons_of_mem _ (in_XN w h)) hown hK hP kv hkv rfl 4 (by decide) (va_Nw.use rfl (hE.w (.fieldLinkNest "MeldTree" 67 "MeldTree$Node" "value" "I" "MeldTree") (by decide +kernel))) (fun _ h9 => h9) rfl dXT_differences_30 ?_
        refine lv_aload_n hx hb dXT_differences_33 rfl (lv_at hl 1 rfl) ?_
        refine va_getN (D := g.1) (ci := 0) (v := .int ((nf aw).2.2.2.2.1)) (C := RXN) (T := TXN) (N := 7) hx hb hts (fun w h => List.mem_cons_of_mem _ (in_XN w h)) hown hK hP kw hkw rfl 4 (by decide) (va_Nw.use rfl (hE.w (.fieldLinkNest "MeldTree" 67 "MeldTree$Node" "value" "I" "MeldTree") (by decide +kernel))) (fun _ h9 => h9) rfl dXT_differences_34 ?_
        obtain ⟨-, x1, ht1, hx1⟩ := hv0
        obtain ⟨-, x2, ht2, hx2⟩ := hw0
        have ed : mt_d t u b (2 ^ 0) = if x1 = x2 then 0 else 1 := by show 0 + (if t (b + 0) = u (b + 0) then 0 else 1) = _; rw [Nat.add_zero, ht1, ht2]; simp
        rw [hx1, hx2]
        refine lv_icmp_ne (tgt := 44) hx hb dXT_differences_37 (by decide) (fun c4 => ?_) (fun c4 => ?_)
        · refine lv_iconst (v := 1) hx hb dXT_differences_44 (by decide +kernel) ?_
          exact W.iret (v := 1) hx hb hr (fun t9 ht hW => ⟨1, rfl, by rw [ed, if_neg c4]; rfl, ht⟩) t_nil dXT_differences_45
        · refine lv_iconst (v := 0) hx hb dXT_differences_40 (by decide +kernel) ?_
          refine lv_goto (tgt := 45) hx hb dXT_differences_41 (by decide) ?_
          exact W.iret (v := 0) hx hb hr (fun t9 ht hW => ⟨0, rfl, by rw [ed, if_pos c4]; rfl, ht⟩) t_nil dXT_differences_45
      · refine qa_aload_n hx hb dXT_differences_15 rfl (lv_at hl 0 rfl) ?_
        refine vp_callSi (W.runS (As := [va_rf v]) (rest := []) ⟨hx, hb, hml, hown, hts⟩ (c_sizeOf l g _ LP nf hp v (mt_rep_mem hv0)) (va_cwS 1 hts (mt_giS mw_101 mw_102 mw_1 (mt_gi mw_103)) rfl rfl rfl (by decide +kernel) ⟨by show 0 + 1 ≤ 0 + 1; omega, by show 8 + (1 + 11) + 0 ≤ 22 * 0 + 22; omega⟩) (mt_preS hE hz hS hP hD) rfl rfl hl.1 rfl (lv_room (Nat.le_of_ble_eq_true rfl)) dXT_differences_16 ⟨Nat.zero_le _, Nat.zero_le _⟩) (fun z1 e1 => ?_)
        subst e1
        refine qa_aload_n hx hb dXT_differences_19 rfl (lv_at hl 1 rfl) ?_
        refine vp_callSi (W.runS (As := [va_rf w]) (rest := [.int (mt_sz nf v)]) ⟨hx, hb, hml, hown, hts⟩ (c_sizeOf l g _ LP nf hp w (mt_rep_mem hw0)) (va_cwS 1 hts (mt_giS mw_101 mw_102 mw_1 (mt_gi mw_103)) rfl rfl rfl (by decide +kernel) ⟨by show 0 + 1 ≤ 0 + 1; omega, by show 8 + (1 + 11) + 0 ≤ 22 * 0 + 22; omega⟩) (mt_preS hE hz hS hP hD) rfl rfl hl.1 rfl (lv_room (Nat.le_of_ble_eq_true rfl)) dXT_differences_20 ⟨Nat.zero_le _, Nat.zero_le _⟩) (fun z1 e1 => ?_)
        subst e1
        refine lv_iadd hx hb dXT_differences_23 ?_
        have hn := mt_rep_none.mp (c3 ▸ hw0)
        exact W.iret (v := (mt_sz nf v + mt_sz nf w)) hx hb hr (fun t9 ht hW => ⟨(mt_sz nf v + mt_sz nf w), rfl, by rw [mt_d_r hn, (mt_rep_sz hv0).1, c3]; exact (nI_add _ 0), ht⟩) t_nil dXT_differences_24
  · refine lv_iconst (v := 0) hx hb dXT_differences_5 (by decide +kernel) ?_
    subst c1
    exact W.iret (v := 0) hx hb hr (fun t9 ht hW => ⟨0, rfl, by rw [mt_d_same (mt_rep_fun hv0 hw0)]; rfl, ht⟩) t_nil dXT_differences_6
set_option maxHeartbeats 4000000 in
set_option maxRecDepth 100000 in
/-- differences(v, w, height) -/
theorem c_differencesS (l : Launch) (g : mt_G) (ws : va_W) (LP : List Nat) (nf : Nat → mt_N) (hp : mt_pool ws LP nf) (t u : mt_T) (h : Nat) (hh : h < 8) (ih : ∀ (b : Nat) (v w : Option Nat), mt_rep LP nf t h b v → mt_rep LP nf u h b w → b + 2 ^ h ≤ 256 → Met l yXT_differences wsXT_differences ({ frames := h + 1, cells := 0, slots := 0, locals := 22 * h + 22 }) (mt_Pc g ws [va_rf v, va_rf w, .int (nI h)]) (vp_Si (fun z => z = nI (mt_d t u b (2 ^ h)))) 0 0 (fun _ => False)) (b : Nat) (v w : Option Nat) (hv0 : mt_rep LP nf t (h + 1) b v) (hw0 : mt_rep LP nf u (h + 1) b w) (hb0 : b + 2 ^ (h + 1) ≤ 256) : Met l yXT_differences wsXT_differences ({ frames := (h + 1) + 1, cells := 0, slots := 0, locals := 22 * (h + 1) + 22 }) (mt_Pc g ws [va_rf v, va_rf w, .int (nI (h + 1))]) (vp_Si (fun z => z = nI (mt_d t u b (2 ^ (h + 1))))) (0) (0) (fun _ => False) := by
  refine Met.ofW (cc := cXT_differences) (maxL := 3) (ret := (some .int)) (by decide) rfl ?_
  intro p e s m args below meth c s₁ B hml hv
  obtain ⟨rfl, hE, hz, hP, hD⟩ := hv
  have hx := B.exec
  have hb := B.bytes
  have hr := B.returns
  have hts := atoms_spec (ws := wsXT_differences) B.pre
  have hown : s.vm.findClass RXT = some m.cls := findClass_of_methodNamed B.named
  have hlocks := B.notSynchronized
  have hK := hE.k
  have hA : ∀ q : Nat, s.heap.size ≤ q → mt_A g q := fun q h => Nat.le_trans hz h
  have hS : va_S (mt_A g) s.heap s.heap [] := va_S.rf
  have hl := lv_entry ([va_rf v, va_rf w, .int (nI (h + 1))]) (n := 3) (by rw [qa_sl1 (qa_cat _), qa_sl1 (qa_cat _), qa_sl1 (qa_ci _), qa_sl0]; exact Nat.le_of_ble_eq_true rfl)
  rw [lg_entry_eq]
  generalize (lg_sl ([va_rf v, va_rf w, .int (nI (h + 1))]) ++ List.replicate (3 - (lg_sl ([va_rf v, va_rf w, .int (nI (h + 1))])).length) Slot.unset).toArray = ls at hl ⊢
  have hl : lv_has ls 3 [(0, va_rf v), (1, va_rf w), (2, .int (nI (h + 1)))] := by rw [qa_ar1 (qa_cat _), qa_ar1 (qa_cat _), qa_ar1 (qa_ci _)] at hl; exact hl
  have hH : s.heap = s.heap := rfl
  refine qa_aload_n hx hb dXT_differences_0 rfl (lv_at hl 0 rfl) ?_
  refine qa_aload_n hx hb dXT_differences_1 rfl (lv_at hl 1 rfl) ?_
  refine lv_acmp_ne (tgt := 7) hx hb dXT_differences_2 (by decide) (fun c1 => ?_) (fun c1 => ?_)
  · refine qa_aload_n hx hb dXT_differences_7 rfl (lv_at hl 0 rfl) ?_
    refine qa_ifnull (tgt := 15) hx hb dXT_differences_8 (by decide) (fun c2 => ?_) (fun av c2 => ?_)
    · refine qa_aload_n hx hb dXT_differences_15 rfl (lv_at hl 0 rfl) ?_
      refine vp_callSi (W.runS (As := [va_rf v]) (rest := []) ⟨hx, hb, hml, hown, hts⟩ (c_sizeOf l g _ LP nf hp v (mt_rep_mem hv0)) (va_cwS 1 hts (mt_giS mw_101 mw_102 mw_1 (mt_gi mw_103)) rfl rfl rfl (by decide +kernel) ⟨by show 0 + 1 ≤ (h + 1) + 1; omega, by show 8 + (1 + 11) + 0 ≤ 22 * (h + 1) + 22; omega⟩) (mt_preS hE hz hS hP hD) rfl rfl hl.1 rfl (lv_room (Nat.le_of_ble_eq_true rfl)) dXT_differences_16 ⟨Nat.zero_le _, Nat.zero_le _⟩) (fun z1 e1 => ?_)
      subst e1
      refine qa_aload_n hx hb dXT_differences_19 rfl (lv_at hl 1 rfl) ?_
      refine vp_callSi (W.runS (As := [va_rf w]) (rest := [.int (mt_sz nf v)]) ⟨hx, hb, hml, hown, hts⟩ (c_sizeOf l g _ LP nf hp w (mt_rep_mem hw0)) (va_cwS 1 hts (mt_giS mw_101 mw_102 mw_1 (mt_gi mw_103)) rfl rfl rfl (by decide +kernel) ⟨by show 0 + 1 ≤ (h + 1) + 1; omega, by show 8 + (1 + 11) + 0 ≤ 22 * (h + 1) + 22; omega⟩) (mt_preS hE hz hS hP hD) rfl rfl hl.1 rfl (lv_room (Nat.le_of_ble_eq_true rfl)) dXT_differences_20 ⟨Nat.zero_le _, Nat.zero_le _⟩) (fun z1 e1 => ?_)
      subst e1
      refine lv_iadd hx hb dXT_differences_23 ?_
      have hn := mt_rep_none.mp (c2 ▸ hv0)
      exact W.iret (v := (mt_sz nf v + mt_sz nf w)) hx hb hr (fun t9 ht hW => ⟨(mt_sz nf v + mt_sz nf w), rfl, by rw [mt_d_l hn, (mt_rep_sz hw0).1, c2]; exact (nI_add 0 _).trans (by rw [Nat.zero_add]), ht⟩) t_nil dXT_differences_24
    · refine qa_aload_n hx hb dXT_differences_11 rfl (lv_at hl 1 rfl) ?_
      refine qa_ifnonnull (tgt := 25) hx hb dXT_differences_12 (by decide) (fun aw c3 => ?_) (fun c3 => ?_)
      · subst c2
        subst c3
        obtain ⟨kv, hkv⟩ := hp av (mt_rep_mem hv0 av rfl)
        obtain ⟨kw, hkw⟩ := hp aw (mt_rep_mem hw0 aw rfl)
        have hl : lv_has ls 3 [(0, .ref av), (1, .ref aw), (2, .int (nI (h + 1)))] := hl
        refine lv_iload_n hx hb dXT_differences_25 rfl (lv_at hl 2 rfl) ?_
        refine lv_if_gt (tgt := 46) hx hb dXT_differences_26 (by decide) (fun _ => ?_) (fun z => absurd (show 0 < nI (h + 1) from nI_lt (a := 0) (by omega) (by omega)) z)
        obtain ⟨d1, d2⟩ := mt_rep_down hv0
        obtain ⟨d3, d4⟩ := mt_rep_down hw0
        have e3 := mt_two h
        have hp2 := Nat.two_pow_pos h
        refine lv_aload_n hx hb dXT_differences_46 rfl (lv_at hl 0 rfl) ?_
        refine va_getN (D := g.1) (ci := 0) (v := va_rf ((nf av).2.2.1)) (C := RXN) (T := TXN) (N := 7) hx hb hts (fun w h => List.mem_cons_of_mem _ (in_XN w h)) hown hK hP kv hkv rfl 2 (by decide) (va_Nw.use rfl (hE.w (.fieldLinkNest "MeldTree" 138 "MeldTree$Node" "low" "LMeldTree$Node;" "MeldTree") (by decide +kernel))) (fun _ h9 => h9) rfl dXT_differences_47 ?_
        refine lv_aload_n hx hb dXT_differences_50 rfl (lv_at hl 1 rfl) ?_
        refine va_getN (D := g.1) (ci := 0) (v := va_rf ((nf aw).2.2.1)) (C := RXN) (T := TXN) (N := 7) hx hb hts (fun w h => List.mem_cons_of_mem _ (in_XN w h)) hown hK hP kw hkw rfl 2 (by decide) (va_Nw.use rfl (hE.w (.fieldLinkNest "MeldTree" 138 "MeldTree$Node" "low" "LMeldTree$Node;" "MeldTree") (by decide +kernel))) (fun _ h9 => h9) rfl dXT_differences_51 ?_
        refine lv_iload_n hx hb dXT_differences_54 rfl (lv_at hl 2 rfl) ?_
        refine lv_iconst (v := 1) hx hb dXT_differences_55 (by decide +kernel) ?_
        refine lv_isub hx hb dXT_differences_56 ?_
        refine qa_i (y := (nI h)) (nI_pred h) ?_
        refine vp_callSi (W.runS (As := [va_rf ((nf av).2.2.1), va_rf ((nf aw).2.2.1), .int (nI h)]) (rest := []) ⟨hx, hb, hml, hown, hts⟩ (ih b _ _ d1 d3 (by omega)) (va_cwS 3 hts (mt_giS mw_364 mw_365 mw_1 (mt_gi mw_366)) rfl rfl rfl (by decide +kernel) ⟨by show h + 1 + 1 ≤ h + 1 + 1; omega, by show 8 + (3 + 11) + (22 * h + 22) ≤ 22 * (h + 1) + 22; omega⟩) (mt_preS hE hz hS hP hD) rfl rfl hl.1 rfl (lv_room (Nat.le_of_ble_eq_true rfl)) dXT_differences_57 ⟨Nat.zero_le _, Nat.zero_le _⟩) (fun z1 e1 => ?_)
        subst e1
        refine lv_aload_n hx hb dXT_differences_60 rfl (lv_at hl 0 rfl) ?_
        refine va_getN (D := g.1) (ci := 0) (v := va_rf ((nf av).2.2.2.1)) (C := RXN) (T := TXN) (N := 7) hx hb hts (fun w h => List.mem_cons_of_mem _ (in_XN w h)) hown hK hP kv hkv rfl 3 (by decide) (va_Nw.use rfl (hE.w (.fieldLinkNest "MeldTree" 142 "MeldTree$Node" "high" "LMeldTree$Node;" "MeldTree") (by decide +kernel))) (fun _ h9 => h9) rfl dXT_differences_61 ?_
        refine lv_aload_n hx hb dXT_differences_64 rfl (lv_at hl 1 rfl) ?_
        refine va_getN (D := g.1) (ci := 0) (v := va_rf ((nf aw).2.2.2.1)) (C := RXN) (T := TXN) (N := 7) hx hb hts (fun w h => List.mem_cons_of_mem _ (in_XN w h)) hown hK hP kw hkw rfl 3 (by decide) (va_Nw.use rfl (hE.w (.fieldLinkNest "MeldTree" 142 "MeldTree$Node" "high" "LMeldTree$Node;" "MeldTree") (by decide +kernel))) (fun _ h9 => h9) rfl dXT_differences_65 ?_
        refine lv_iload_n hx hb dXT_differences_68 rfl (lv_at hl 2 rfl) ?_
        refine lv_iconst (v := 1) hx hb dXT_differences_69 (by decide +kernel) ?_
        refine lv_isub hx hb dXT_differences_70 ?_
        refine qa_i (y := (nI h)) (nI_pred h) ?_
        refine vp_callSi (W.runS (As := [va_rf ((nf av).2.2.2.1), va_rf ((nf aw).2.2.2.1), .int (nI h)]) (rest := [.int (nI (mt_d t u b (2 ^ h)))]) ⟨hx, hb, hml, hown, hts⟩ (ih (b + 2 ^ h) _ _ d2 d4 (by omega)) (va_cwS 3 hts (mt_giS mw_364 mw_365 mw_1 (mt_gi mw_366)) rfl rfl rfl (by decide +kernel) ⟨by show h + 1 + 1 ≤ h + 1 + 1; omega, by show 8 + (3 + 11) + (22 * h + 22) ≤ 22 * (h + 1) + 22; omega⟩) (mt_preS hE hz hS hP hD) rfl rfl hl.1 rfl (lv_room (Nat.le_of_ble_eq_true rfl)) dXT_differences_71 ⟨Nat.zero_le _, Nat.zero_le _⟩) (fun z1 e1 => ?_)
        subst e1
        refine lv_iadd hx hb dXT_differences_74 ?_
        exact W.iret (v := ((nI (mt_d t u b (2 ^ h))) + (nI (mt_d t u (b + 2 ^ h) (2 ^ h))))) hx hb hr (fun t9 ht hW => ⟨((nI (mt_d t u b (2 ^ h))) + (nI (mt_d t u (b + 2 ^ h) (2 ^ h)))), rfl, by rw [e3, mt_d_add]; exact nI_add _ _, ht⟩) t_nil dXT_differences_75
      · refine qa_aload_n hx hb dXT_differences_15 rfl (lv_at hl 0 rfl) ?_
        refine vp_callSi (W.runS (As := [va_rf v]) (rest := []) ⟨hx, hb, hml, hown, hts⟩ (c_sizeOf l g _ LP nf hp v (mt_rep_mem hv0)) (va_cwS 1 hts (mt_giS mw_101 mw_102 mw_1 (mt_gi mw_103)) rfl rfl rfl (by decide +kernel) ⟨by show 0 + 1 ≤ (h + 1) + 1; omega, by show 8 + (1 + 11) + 0 ≤ 22 * (h + 1) + 22; omega⟩) (mt_preS hE hz hS hP hD) rfl rfl hl.1 rfl (lv_room (Nat.le_of_ble_eq_true rfl)) dXT_differences_16 ⟨Nat.zero_le _, Nat.zero_le _⟩) (fun z1 e1 => ?_)
        subst e1
        refine qa_aload_n hx hb dXT_differences_19 rfl (lv_at hl 1 rfl) ?_
        refine vp_callSi (W.runS (As := [va_rf w]) (rest := [.int (mt_sz nf v)]) ⟨hx, hb, hml, hown, hts⟩ (c_sizeOf l g _ LP nf hp w (mt_rep_mem hw0)) (va_cwS 1 hts (mt_giS mw_101 mw_102 mw_1 (mt_gi mw_103)) rfl rfl rfl (by decide +kernel) ⟨by show 0 + 1 ≤ (h + 1) + 1; omega, by show 8 + (1 + 11) + 0 ≤ 22 * (h + 1) + 22; omega⟩) (mt_preS hE hz hS hP hD) rfl rfl hl.1 rfl (lv_room (Nat.le_of_ble_eq_true rfl)) dXT_differences_20 ⟨Nat.zero_le _, Nat.zero_le _⟩) (fun z1 e1 => ?_)
        subst e1
        refine lv_iadd hx hb dXT_differences_23 ?_
        have hn := mt_rep_none.mp (c3 ▸ hw0)
        exact W.iret (v := (mt_sz nf v + mt_sz nf w)) hx hb hr (fun t9 ht hW => ⟨(mt_sz nf v + mt_sz nf w), rfl, by rw [mt_d_r hn, (mt_rep_sz hv0).1, c3]; exact (nI_add _ 0), ht⟩) t_nil dXT_differences_24
  · refine lv_iconst (v := 0) hx hb dXT_differences_5 (by decide +kernel) ?_
    subst c1
    exact W.iret (v := 0) hx hb hr (fun t9 ht hW => ⟨0, rfl, by rw [mt_d_same (mt_rep_fun hv0 hw0)]; rfl, ht⟩) t_nil dXT_differences_6
set_option maxRecDepth 100000 in
theorem c_differences (l : Launch) (g : mt_G) (ws : va_W) (LP : List Nat) (nf : Nat → mt_N) (hp : mt_pool ws LP nf) (t u : mt_T) : ∀ (h : Nat), h ≤ 8 → ∀ (b : Nat) (v w : Option Nat), mt_rep LP nf t h b v → mt_rep LP nf u h b w → b + 2 ^ h ≤ 256 → Met l yXT_differences wsXT_differences ({ frames := h + 1, cells := 0, slots := 0, locals := 22 * h + 22 }) (mt_Pc g ws [va_rf v, va_rf w, .int (nI h)]) (vp_Si (fun z => z = nI (mt_d t u b (2 ^ h)))) 0 0 (fun _ => False) := by
  intro h
  induction h with
  | zero => exact fun _ b v w h1 h2 h3 => c_differences0 l g ws LP nf hp t u b v w h1 h2 h3
  | succ h ih => exact fun h8 b v w h1 h2 h3 => c_differencesS l g ws LP nf hp t u h (by omega) (ih (by omega)) b v w h1 h2 h3
set_option maxHeartbeats 4000000 in
set_option maxRecDepth 100000 in
/-- digestOn(start, node, height) -/
theorem c_digestOn0 (l : Launch) (g : mt_G) (ws : va_W) (LP : List Nat) (nf : Nat → mt_N) (hp : mt_pool ws LP nf) (t : mt_T) (b : Nat) (z : Int64) (v : Option Nat) (hv0 : mt_rep LP nf t 0 b v) (hb0 : b + 2 ^ 0 ≤ 256) : Met l yXT_digestOn wsXT_digestOn ({ frames := 0, cells := 0, slots := 0, locals := 23 * 0 }) (mt_Pc g ws [.long z, va_rf v, .int (nI 0)]) (vp_Sl (fun y => y = mt_g t b z (2 ^ 0))) (0) (0) (fun _ => False) := by
  refine Met.ofW (cc := cXT_digestOn) (maxL := 4) (ret := (some .long)) (by decide) rfl ?_
  intro p e s m args below meth c s₁ B hml hv
  obtain ⟨rfl, hE, hz, hP, hD⟩ := hv
  have hx := B.exec
  have hb := B.bytes
  have hr := B.returns
  have hts := atoms_spec (ws := wsXT_digestOn) B.pre
  have hown : s.vm.findClass RXT = some m.cls := findClass_of_methodNamed B.named
  have hlocks := B.notSynchronized
  have hK := hE.k
  have hA : ∀ q : Nat, s.heap.size ≤ q → mt_A g q := fun q h => Nat.le_trans hz h
  have hS : va_S (mt_A g) s.heap s.heap [] := va_S.rf
  have hl := lv_entry ([.long z, va_rf v, .int (nI 0)]) (n := 4) (by rw [qa_sl2 (qa_cl _), qa_sl1 (qa_cat _), qa_sl1 (qa_ci _), qa_sl0]; exact Nat.le_of_ble_eq_true rfl)
  rw [lg_entry_eq]
  generalize (lg_sl ([.long z, va_rf v, .int (nI 0)]) ++ List.replicate (4 - (lg_sl ([.long z, va_rf v, .int (nI 0)])).length) Slot.unset).toArray = ls at hl ⊢
  have hl : lv_has ls 4 [(0, .long z), (2, va_rf v), (3, .int (nI 0))] := by rw [qa_ar2 (qa_cl _), qa_ar1 (qa_cat _), qa_ar1 (qa_ci _)] at hl; exact hl
  have hH : s.heap = s.heap := rfl
  refine qa_aload_n hx hb dXT_digestOn_0 rfl (lv_at hl 1 rfl) ?_
  refine qa_ifnonnull (tgt := 6) hx hb dXT_digestOn_1 (by decide) (fun av c1 => ?_) (fun c1 => ?_)
  · subst c1
    obtain ⟨kv, hkv⟩ := hp av (mt_rep_mem hv0 av rfl)
    have hl : lv_has ls 4 [(0, .long z), (2, .ref av), (3, .int (nI 0))] := hl
    refine lv_iload_n hx hb dXT_digestOn_6 rfl (lv_at hl 2 rfl) ?_
    refine lv_if_gt (tgt := 32) hx hb dXT_digestOn_7 (by decide) (fun z => absurd z (show ¬ 0 < nI 0 by decide)) (fun _ => ?_)
    obtain ⟨-, x1, ht1, hx1⟩ := hv0
    refine lv_lload_n hx hb dXT_digestOn_10 rfl (lv_at hl 0 rfl) ?_
    refine lv_ldc2 (v := 31) hx hb hown (hts _ (List.mem_cons_of_mem _ mw_378)) dXT_digestOn_11 ?_
    refine lv_lmul hx hb dXT_digestOn_14 ?_
    refine lv_aload_n hx hb dXT_digestOn_15 rfl (lv_at hl 1 rfl) ?_
    refine va_getN (D := g.1) (ci := 0) (v := .int ((nf av).2.1)) (C := RXN) (T := TXN) (N := 7) hx hb hts (fun w h => List.mem_cons_of_mem _ (in_XN w h)) hown hK hP kv hkv rfl 1 (by decide) (va_Nw.use rfl (hE.w (.fieldLinkNest "MeldTree" 147 "MeldTree$Node" "first" "I" "MeldTree") (by decide +kernel))) (fun _ h9 => h9) rfl dXT_digestOn_16 ?_
    refine lv_i2l (v := ((nf av).2.1).toInt64) hx hb dXT_digestOn_19 rfl ?_
    refine lv_ladd hx hb dXT_digestOn_20 ?_
    refine lv_ldc2 (v := 31) hx hb hown (hts _ (List.mem_cons_of_mem _ mw_378)) dXT_digestOn_21 ?_
    refine lv_lmul hx hb dXT_digestOn_24 ?_
    refine lv_aload_n hx hb dXT_digestOn_25 rfl (lv_at hl 1 rfl) ?_
    refine va_getN (D := g.1) (ci := 0) (v := .int ((nf av).2.2.2.2.1)) (C := RXN) (T := TXN) (N := 7) hx hb hts (fun w h => List.mem_cons_of_mem _ (in_XN w h)) hown hK hP kv hkv rfl 4 (by decide) (va_Nw.use rfl (hE.w (.fieldLinkNest "MeldTree" 67 "MeldTree$Node" "value" "I" "MeldTree") (by decide +kernel))) (fun _ h9 => h9) rfl dXT_digestOn_26 ?_
    refine lv_i2l (v := ((nf av).2.2.2.2.1).toInt64) hx hb dXT_digestOn_29 rfl ?_
    refine lv_ladd hx hb dXT_digestOn_30 ?_
    exact W.lret (v := ((((z * 31) + (((nf av).2.1).toInt64)) * 31) + (((nf av).2.2.2.2.1).toInt64))) hx hb hr (fun t9 ht hW => ⟨((((z * 31) + (((nf av).2.1).toInt64)) * 31) + (((nf av).2.2.2.2.1).toInt64)), rfl, by rw [hx1]; show _ = mt_gs z (b + 0) (t (b + 0)); rw [Nat.add_zero, ht1]; rfl, ht⟩) t_nil dXT_digestOn_31
  · subst c1
    refine lv_lload_n hx hb dXT_digestOn_4 rfl (lv_at hl 0 rfl) ?_
    exact W.lret (v := z) hx hb hr (fun t9 ht hW => ⟨z, rfl, (mt_g_none (mt_rep_none.mp hv0)).symm, ht⟩) t_nil dXT_digestOn_5
set_option maxHeartbeats 4000000 in
set_option maxRecDepth 100000 in
/-- digestOn(start, node, height) -/
theorem c_digestOnS (l : Launch) (g : mt_G) (ws : va_W) (LP : List Nat) (nf : Nat → mt_N) (hp : mt_pool ws LP nf) (t : mt_T) (h : Nat) (hh : h < 8) (ih : ∀ (b : Nat) (z : Int64) (v : Option Nat), mt_rep LP nf t h b v → b + 2 ^ h ≤ 256 → Met l yXT_digestOn wsXT_digestOn ({ frames := h, cells := 0, slots := 0, locals := 23 * h }) (mt_Pc g ws [.long z, va_rf v, .int (nI h)]) (vp_Sl (fun y => y = mt_g t b z (2 ^ h))) 0 0 (fun _ => False)) (b : Nat) (z : Int64) (v : Option Nat) (hv0 : mt_rep LP nf t (h + 1) b v) (hb0 : b + 2 ^ (h + 1) ≤ 256) : Met l yXT_digestOn wsXT_digestOn ({ frames := (h + 1), cells := 0, slots := 0, locals := 23 * (h + 1) }) (mt_Pc g ws [.long z, va_rf v, .int (nI (h + 1))]) (vp_Sl (fun y => y = mt_g t b z (2 ^ (h + 1)))) (0) (0) (fun _ => False) := by
  refine Met.ofW (cc := cXT_digestOn) (maxL := 4) (ret := (some .long)) (by decide) rfl ?_
  intro p e s m args below meth c s₁ B hml hv
  obtain ⟨rfl, hE, hz, hP, hD⟩ := hv
  have hx := B.exec
  have hb := B.bytes
  have hr := B.returns
  have hts := atoms_spec (ws := wsXT_digestOn) B.pre
  have hown : s.vm.findClass RXT = some m.cls := findClass_of_methodNamed B.named
  have hlocks := B.notSynchronized
  have hK := hE.k
  have hA : ∀ q : Nat, s.heap.size ≤ q → mt_A g q := fun q h => Nat.le_trans hz h
  have hS : va_S (mt_A g) s.heap s.heap [] := va_S.rf
  have hl := lv_entry ([.long z, va_rf v, .int (nI (h + 1))]) (n := 4) (by rw [qa_sl2 (qa_cl _), qa_sl1 (qa_cat _), qa_sl1 (qa_ci _), qa_sl0]; exact Nat.le_of_ble_eq_true rfl)
  rw [lg_entry_eq]
  generalize (lg_sl ([.long z, va_rf v, .int (nI (h + 1))]) ++ List.replicate (4 - (lg_sl ([.long z, va_rf v, .int (nI (h + 1))])).length) Slot.unset).toArray = ls at hl ⊢
  have hl : lv_has ls 4 [(0, .long z), (2, va_rf v), (3, .int (nI (h + 1)))] := by rw [qa_ar2 (qa_cl _), qa_ar1 (qa_cat _), qa_ar1 (qa_ci _)] at hl; exact hl
  have hH : s.heap = s.heap := rfl
  refine qa_aload_n hx hb dXT_digestOn_0 rfl (lv_at hl 1 rfl) ?_
  refine qa_ifnonnull (tgt := 6) hx hb dXT_digestOn_1 (by decide) (fun av c1 => ?_) (fun c1 => ?_)
  · subst c1
    obtain ⟨kv, hkv⟩ := hp av (mt_rep_mem hv0 av rfl)
    have hl : lv_has ls 4 [(0, .long z), (2, .ref av), (3, .int (nI (h + 1)))] := hl
    refine lv_iload_n hx hb dXT_digestOn_6 rfl (lv_at hl 2 rfl) ?_
    refine lv_if_gt (tgt := 32) hx hb dXT_digestOn_7 (by decide) (fun _ => ?_) (fun z => absurd (show 0 < nI (h + 1) from nI_lt (a := 0) (by omega) (by omega)) z)
    obtain ⟨d1, d2⟩ := mt_rep_down hv0
    have e3 := mt_two h
    have hp2 := Nat.two_pow_pos h
    refine lv_lload_n hx hb dXT_digestOn_32 rfl (lv_at hl 0 rfl) ?_
    refine lv_aload_n hx hb dXT_digestOn_33 rfl (lv_at hl 1 rfl) ?_
    refine va_getN (D := g.1) (ci := 0) (v := va_rf ((nf av).2.2.1)) (C := RXN) (T := TXN) (N := 7) hx hb hts (fun w h => List.mem_cons_of_mem _ (in_XN w h)) hown hK hP kv hkv rfl 2 (by decide) (va_Nw.use rfl (hE.w (.fieldLinkNest "MeldTree" 138 "MeldTree$Node" "low" "LMeldTree$Node;" "MeldTree") (by decide +kernel))) (fun _ h9 => h9) rfl dXT_digestOn_34 ?_
    refine lv_iload_n hx hb dXT_digestOn_37 rfl (lv_at hl 2 rfl) ?_
    refine lv_iconst (v := 1) hx hb dXT_digestOn_38 (by decide +kernel) ?_
    refine lv_isub hx hb dXT_digestOn_39 ?_
    refine qa_i (y := (nI h)) (nI_pred h) ?_
    refine vp_callSl (W.runS (As := [.long z, va_rf ((nf av).2.2.1), .int (nI h)]) (rest := []) ⟨hx, hb, hml, hown, hts⟩ (ih b z _ d1 (by omega)) (va_cwS 3 hts (mt_giS mw_375 mw_376 mw_1 (mt_gi mw_377)) rfl rfl rfl (by decide +kernel) ⟨Nat.le_refl _, by show 8 + (4 + 11) + 23 * h ≤ 23 * (h + 1); omega⟩) (mt_preS hE hz hS hP hD) rfl rfl hl.1 rfl (lv_room (Nat.le_of_ble_eq_true rfl)) dXT_digestOn_40 ⟨Nat.zero_le _, Nat.zero_le _⟩) (fun z1 e1 => ?_)
    subst e1
    refine lv_aload_n hx hb dXT_digestOn_43 rfl (lv_at hl 1 rfl) ?_
    refine va_getN (D := g.1) (ci := 0) (v := va_rf ((nf av).2.2.2.1)) (C := RXN) (T := TXN) (N := 7) hx hb hts (fun w h => List.mem_cons_of_mem _ (in_XN w h)) hown hK hP kv hkv rfl 3 (by decide) (va_Nw.use rfl (hE.w (.fieldLinkNest "MeldTree" 142 "MeldTree$Node" "high" "LMeldTree$Node;" "MeldTree") (by decide +kernel))) (fun _ h9 => h9) rfl dXT_digestOn_44 ?_
    refine lv_iload_n hx hb dXT_digestOn_47 rfl (lv_at hl 2 rfl) ?_
    refine lv_iconst (v := 1) hx hb dXT_digestOn_48 (by decide +kernel) ?_
    refine lv_isub hx hb dXT_digestOn_49 ?_
    refine qa_i (y := (nI h)) (nI_pred h) ?_
    refine vp_callSl (W.runS (As := [.long (mt_g t b z (2 ^ h)), va_rf ((nf av).2.2.2.1), .int (nI h)]) (rest := []) ⟨hx, hb, hml, hown, hts⟩ (ih (b + 2 ^ h) _ _ d2 (by omega)) (va_cwS 3 hts (mt_giS mw_375 mw_376 mw_1 (mt_gi mw_377)) rfl rfl rfl (by decide +kernel) ⟨Nat.le_refl _, by show 8 + (4 + 11) + 23 * h ≤ 23 * (h + 1); omega⟩) (mt_preS hE hz hS hP hD) rfl rfl hl.1 rfl (lv_room (Nat.le_of_ble_eq_true rfl)) dXT_digestOn_50 ⟨Nat.zero_le _, Nat.zero_le _⟩) (fun z1 e1 => ?_)
    subst e1
    exact W.lret (v := (mt_g t (b + 2 ^ h) (mt_g t b z (2 ^ h)) (2 ^ h))) hx hb hr (fun t9 ht hW => ⟨(mt_g t (b + 2 ^ h) (mt_g t b z (2 ^ h)) (2 ^ h)), rfl, by rw [e3, mt_g_add], ht⟩) t_nil dXT_digestOn_53
  · subst c1
    refine lv_lload_n hx hb dXT_digestOn_4 rfl (lv_at hl 0 rfl) ?_
    exact W.lret (v := z) hx hb hr (fun t9 ht hW => ⟨z, rfl, (mt_g_none (mt_rep_none.mp hv0)).symm, ht⟩) t_nil dXT_digestOn_5
set_option maxRecDepth 100000 in
theorem c_digestOn (l : Launch) (g : mt_G) (ws : va_W) (LP : List Nat) (nf : Nat → mt_N) (hp : mt_pool ws LP nf) (t : mt_T) : ∀ (h : Nat), h ≤ 8 → ∀ (b : Nat) (z : Int64) (v : Option Nat), mt_rep LP nf t h b v → b + 2 ^ h ≤ 256 → Met l yXT_digestOn wsXT_digestOn ({ frames := h, cells := 0, slots := 0, locals := 23 * h }) (mt_Pc g ws [.long z, va_rf v, .int (nI h)]) (vp_Sl (fun y => y = mt_g t b z (2 ^ h))) 0 0 (fun _ => False) := by
  intro h
  induction h with
  | zero => exact fun _ b z v h1 h2 => c_digestOn0 l g ws LP nf hp t b z v h1 h2
  | succ h ih => exact fun h8 b z v h1 h2 => c_digestOnS l g ws LP nf hp t h (by omega) (ih (by omega)) b z v h1 h2
