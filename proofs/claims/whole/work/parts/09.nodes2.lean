set_option maxHeartbeats 4000000 in
set_option maxRecDepth 100000 in
/-- leafAt(root, k): the leaf at k, or null -/
theorem c_leafAt (l : Launch) (g : mt_G) (ws : va_W) (LP : List Nat) (nf : Nat → mt_N) (hp : mt_pool ws LP nf) (t : mt_T) (r : Option Nat) (hr0 : mt_rep LP nf t 8 0 r) {k : Nat} (hk : k < 256) : Met l yXT_leafAt wsXT_leafAt ({ frames := 1, cells := 0, slots := 0, locals := 21 }) (mt_Pc g ws [va_rf r, .int (nI k)]) (va_Sq (fun z => mt_rep LP nf t 0 k z)) (0) (0) (fun _ => False) := by
  refine Met.ofW (cc := cXT_leafAt) (maxL := 4) (ret := (some (.object "MeldTree$Node"))) (by decide) rfl ?_
  intro p e s m args below meth c s₁ B hml hv
  obtain ⟨rfl, hE, hz, hP, hD⟩ := hv
  have hx := B.exec
  have hb := B.bytes
  have hr := B.returns
  have hts := atoms_spec (ws := wsXT_leafAt) B.pre
  have hown : s.vm.findClass RXT = some m.cls := findClass_of_methodNamed B.named
  have hlocks := B.notSynchronized
  have hK := hE.k
  have hA : ∀ q : Nat, s.heap.size ≤ q → mt_A g q := fun q h => Nat.le_trans hz h
  have hS : va_S (mt_A g) s.heap s.heap [] := va_S.rf
  have hl := lv_entry ([va_rf r, .int (nI k)]) (n := 4) (by rw [qa_sl1 (qa_cat _), qa_sl1 (qa_ci _), qa_sl0]; exact Nat.le_of_ble_eq_true rfl)
  rw [lg_entry_eq]
  generalize (lg_sl ([va_rf r, .int (nI k)]) ++ List.replicate (4 - (lg_sl ([va_rf r, .int (nI k)])).length) Slot.unset).toArray = ls at hl ⊢
  have hl : lv_has ls 4 [(0, va_rf r), (1, .int (nI k))] := by rw [qa_ar1 (qa_cat _), qa_ar1 (qa_ci _)] at hl; exact hl
  have hH : s.heap = s.heap := rfl
  refine qa_aload_n hx hb dXT_leafAt_0 rfl (lv_at hl 0 rfl) ?_
  refine qa_astore_n (i := 2) (lv' := [(2, va_rf r), (0, va_rf r), (1, .int (nI k))]) hx hb dXT_leafAt_1 rfl hl (by decide) (by simp [List.filter, qa_cat, qa_ci, qa_cl, qa_cr, qa_cn]) (fun ls hl => ?_)
  refine lv_bipush (v := (nI 8)) hx hb dXT_leafAt_2 (by decide +kernel) ?_
  refine lv_istore_n (i := 3) (lv' := [(3, .int (nI 8)), (2, va_rf r), (0, va_rf r), (1, .int (nI k))]) hx hb dXT_leafAt_4 rfl hl (by decide) (by simp [List.filter, qa_cat, qa_ci, qa_cl, qa_cr, qa_cn]) (fun ls hl => ?_)
  refine qa_for (V := Nat × Option Nat) (fun v => v.1) (fun v => [(3, .int (nI v.1)), (2, va_rf v.2), (0, va_rf r), (1, .int (nI k))]) (fun v => v.1 ≤ 8 ∧ mt_rep LP nf t v.1 (k / 2 ^ v.1 * 2 ^ v.1) v.2) ?_ (8, r) ls ⟨Nat.le_refl _, by rw [mt_base8 hk]; exact hr0⟩ hl
  intro v ls hi hl ih
  obtain ⟨h, z⟩ := v
  obtain ⟨h8, hz0⟩ := hi
  dsimp only at h8 hz0 hl ih
  cases h with
  | zero =>
    refine lv_iload_n hx hb dXT_leafAt_5 rfl (lv_at hl 0 rfl) ?_
    refine lv_if_le (tgt := 35) hx hb dXT_leafAt_6 (by decide) (fun _ => ?_) (fun z => absurd (show nI 0 ≤ 0 by decide) z)
    refine qa_aload_n hx hb dXT_leafAt_35 rfl (lv_at hl 1 rfl) ?_
    rw [mt_base0] at hz0
    exact W.aret (v := va_rf z) hx hb hr (Or.inl ⟨_, rfl⟩) (va_rf_or _) (fun t9 ht hW => ⟨z, rfl, hz0, ht⟩) t_nil dXT_leafAt_36
  | succ h =>
    refine lv_iload_n hx hb dXT_leafAt_5 rfl (lv_at hl 0 rfl) ?_
    refine lv_if_le (tgt := 35) hx hb dXT_leafAt_6 (by decide) (fun z => absurd z (nI_nle (n := h + 1) (by omega) (by omega))) (fun _ => ?_)
    obtain ⟨d1, d2⟩ := mt_rep_down hz0
    have hb2 := mt_base k h
    refine lv_iload_n hx hb dXT_leafAt_9 rfl (lv_at hl 3 rfl) ?_
    refine lv_iload_n hx hb dXT_leafAt_10 rfl (lv_at hl 0 rfl) ?_
    refine vp_callSi (W.runS (As := [.int (nI k), .int (nI (h + 1))]) (rest := []) ⟨hx, hb, hml, hown, hts⟩ (c_goesHigh l g ws (k := k) (h := h) hk (by omega)) (va_cwS 2 hts (mt_giS mw_274 mw_275 mw_1 (mt_gi mw_276)) rfl rfl rfl (by decide +kernel) ⟨Nat.le_of_ble_eq_true rfl, Nat.le_of_ble_eq_true rfl⟩) (mt_preS hE hz hS hP hD) rfl rfl hl.1 rfl (lv_room (Nat.le_of_ble_eq_true rfl)) dXT_leafAt_11 ⟨Nat.zero_le _, Nat.zero_le _⟩) (fun z1 e1 => ?_)
    subst e1
    have h2 : k / 2 ^ h % 2 = 0 ∨ k / 2 ^ h % 2 = 1 := by omega
    rcases h2 with h2 | h2
    · refine qa_i (y := nI 0) (by rw [h2]) ?_
      refine lv_if_eq (tgt := 24) hx hb dXT_leafAt_14 (by decide) (fun _ => ?_) (fun z => absurd (show nI 0 = 0 by decide) z)
      refine qa_aload_n hx hb dXT_leafAt_24 rfl (lv_at hl 1 rfl) ?_
      refine va_csq (W.runS (As := [va_rf z]) (rest := []) ⟨hx, hb, hml, hown, hts⟩ (c_lowOf l g _ LP nf hp z (mt_rep_mem hz0)) (va_cwS 1 hts (mt_giS mw_277 mw_278 mw_1 (mt_gi mw_279)) rfl rfl rfl (by decide +kernel) ⟨Nat.le_of_ble_eq_true rfl, Nat.le_of_ble_eq_true rfl⟩) (mt_preS hE hz hS hP hD) rfl rfl hl.1 rfl (lv_room (Nat.le_of_ble_eq_true rfl)) dXT_leafAt_25 ⟨Nat.zero_le _, Nat.zero_le _⟩) (fun z1 e1 => ?_)
      subst e1
      refine qa_astore_n (i := 2) (lv' := [(2, va_rf (mt_lo nf z)), (3, .int (nI (h + 1))), (0, va_rf r), (1, .int (nI k))]) hx hb dXT_leafAt_28 rfl hl (by decide) (by simp [List.filter, qa_cat, qa_ci, qa_cl, qa_cr, qa_cn]) (fun ls hl => ?_)
      refine lv_iinc (k := 1) (v := (nI h)) (lv' := [(3, .int (nI h)), (2, va_rf (mt_lo nf z)), (0, va_rf r), (1, .int (nI k))]) hx hb dXT_leafAt_29 hl rfl (pk_m1 h) (by decide) (by simp [List.filter, qa_cat, qa_ci, qa_cl, qa_cr, qa_cn]) (fun ls hl => ?_)
      refine lv_goto (tgt := 5) hx hb dXT_leafAt_32 (by decide) ?_
      have hl := lv_sub (l' := [(3, .int (nI h)), (2, va_rf (mt_lo nf z)), (0, va_rf r), (1, .int (nI k))]) hl [0, 1, 2, 3] rfl
      exact ih (h, mt_lo nf z) ls (Nat.lt_succ_self h) ⟨by show h ≤ 8; omega, by show mt_rep LP nf t h (k / 2 ^ h * 2 ^ h) _; rw [hb2, h2, Nat.zero_mul, Nat.add_zero]; exact d1⟩ hl
    · refine qa_i (y := nI 1) (by rw [h2]) ?_
      refine lv_if_eq (tgt := 24) hx hb dXT_leafAt_14 (by decide) (fun z => absurd z (show ¬ nI 1 = 0 by decide)) (fun _ => ?_)
      refine qa_aload_n hx hb dXT_leafAt_17 rfl (lv_at hl 1 rfl) ?_
      refine va_csq (W.runS (As := [va_rf z]) (rest := []) ⟨hx, hb, hml, hown, hts⟩ (c_highOf l g _ LP nf hp z (mt_rep_mem hz0)) (va_cwS 1 hts (mt_giS mw_280 mw_281 mw_1 (mt_gi mw_282)) rfl rfl rfl (by decide +kernel) ⟨Nat.le_of_ble_eq_true rfl, Nat.le_of_ble_eq_true rfl⟩) (mt_preS hE hz hS hP hD) rfl rfl hl.1 rfl (lv_room (Nat.le_of_ble_eq_true rfl)) dXT_leafAt_18 ⟨Nat.zero_le _, Nat.zero_le _⟩) (fun z1 e1 => ?_)
      subst e1
      refine lv_goto (tgt := 28) hx hb dXT_leafAt_21 (by decide) ?_
      refine qa_astore_n (i := 2) (lv' := [(2, va_rf (mt_hi nf z)), (3, .int (nI (h + 1))), (0, va_rf r), (1, .int (nI k))]) hx hb dXT_leafAt_28 rfl hl (by decide) (by simp [List.filter, qa_cat, qa_ci, qa_cl, qa_cr, qa_cn]) (fun ls hl => ?_)
      refine lv_iinc (k := 1) (v := (nI h)) (lv' := [(3, .int (nI h)), (2, va_rf (mt_hi nf z)), (0, va_rf r), (1, .int (nI k))]) hx hb dXT_leafAt_29 hl rfl (pk_m1 h) (by decide) (by simp [List.filter, qa_cat, qa_ci, qa_cl, qa_cr, qa_cn]) (fun ls hl => ?_)
      refine lv_goto (tgt := 5) hx hb dXT_leafAt_32 (by decide) ?_
      have hl := lv_sub (l' := [(3, .int (nI h)), (2, va_rf (mt_hi nf z)), (0, va_rf r), (1, .int (nI k))]) hl [0, 1, 2, 3] rfl
      exact ih (h, mt_hi nf z) ls (Nat.lt_succ_self h) ⟨by show h ≤ 8; omega, by show mt_rep LP nf t h (k / 2 ^ h * 2 ^ h) _; rw [hb2, h2, Nat.one_mul]; exact d2⟩ hl
set_option maxHeartbeats 4000000 in
set_option maxRecDepth 100000 in
/-- keyAt(root, i): the i-th key -/
theorem c_keyAt (l : Launch) (g : mt_G) (ws : va_W) (LP : List Nat) (nf : Nat → mt_N) (hp : mt_pool ws LP nf) (t : mt_T) (r : Option Nat) (hr0 : mt_rep LP nf t 8 0 r) {i : Nat} (hi0 : i < mt_c t 0 256) : Met l yXT_keyAt wsXT_keyAt ({ frames := 1, cells := 0, slots := 0, locals := 20 }) (mt_Pc g ws [va_rf r, .int (nI i)]) (vp_Si (fun z => ∃ k, k < 256 ∧ z = nI k ∧ t k ≠ none ∧ mt_c t 0 k = i)) (0) (0) (fun _ => False) := by
  refine Met.ofW (cc := cXT_keyAt) (maxL := 7) (ret := (some .int)) (by decide) rfl ?_
  intro p e s m args below meth c s₁ B hml hv
  obtain ⟨rfl, hE, hz, hP, hD⟩ := hv
  have hx := B.exec
  have hb := B.bytes
  have hr := B.returns
  have hts := atoms_spec (ws := wsXT_keyAt) B.pre
  have hown : s.vm.findClass RXT = some m.cls := findClass_of_methodNamed B.named
  have hlocks := B.notSynchronized
  have hK := hE.k
  have hA : ∀ q : Nat, s.heap.size ≤ q → mt_A g q := fun q h => Nat.le_trans hz h
  have hS : va_S (mt_A g) s.heap s.heap [] := va_S.rf
  have hl := lv_entry ([va_rf r, .int (nI i)]) (n := 7) (by rw [qa_sl1 (qa_cat _), qa_sl1 (qa_ci _), qa_sl0]; exact Nat.le_of_ble_eq_true rfl)
  rw [lg_entry_eq]
  generalize (lg_sl ([va_rf r, .int (nI i)]) ++ List.replicate (7 - (lg_sl ([va_rf r, .int (nI i)])).length) Slot.unset).toArray = ls at hl ⊢
  have hl : lv_has ls 7 [(0, va_rf r), (1, .int (nI i))] := by rw [qa_ar1 (qa_cat _), qa_ar1 (qa_ci _)] at hl; exact hl
  have hH : s.heap = s.heap := rfl
  refine qa_aload_n hx hb dXT_keyAt_0 rfl (lv_at hl 0 rfl) ?_
  refine qa_astore_n (i := 2) (lv' := [(2, va_rf r), (0, va_rf r), (1, .int (nI i))]) hx hb dXT_keyAt_1 rfl hl (by decide) (by simp [List.filter, qa_cat, qa_ci, qa_cl, qa_cr, qa_cn]) (fun ls hl => ?_)
  refine lv_iconst (v := 0) hx hb dXT_keyAt_2 (by decide +kernel) ?_
  refine lv_istore_n (i := 3) (lv' := [(3, .int 0), (2, va_rf r), (0, va_rf r), (1, .int (nI i))]) hx hb dXT_keyAt_3 rfl hl (by decide) (by simp [List.filter, qa_cat, qa_ci, qa_cl, qa_cr, qa_cn]) (fun ls hl => ?_)
  refine lv_iload_n hx hb dXT_keyAt_4 rfl (lv_at hl 3 rfl) ?_
  refine lv_istore (i := 4) (lv' := [(4, .int (nI i)), (3, .int 0), (2, va_rf r), (0, va_rf r), (1, .int (nI i))]) hx hb dXT_keyAt_5 hl (by decide) (by simp [List.filter, qa_cat, qa_ci, qa_cl, qa_cr, qa_cn]) (fun ls hl => ?_)
  refine lv_bipush (v := (nI 8)) hx hb dXT_keyAt_7 (by decide +kernel) ?_
  refine lv_istore (i := 5) (lv' := [(5, .int (nI 8)), (4, .int (nI i)), (3, .int 0), (2, va_rf r), (0, va_rf r), (1, .int (nI i))]) hx hb dXT_keyAt_9 hl (by decide) (by simp [List.filter, qa_cat, qa_ci, qa_cl, qa_cr, qa_cn]) (fun ls hl => ?_)
  have hc256 := mt_c_le t 0 256
  refine qa_for (V := Nat × Nat × Nat × Option Nat) (fun v => v.1) (fun v => [(5, .int (nI v.1)), (4, .int (nI v.2.1)), (3, .int (nI v.2.2.1)), (2, va_rf v.2.2.2), (0, va_rf r), (1, .int (nI i))]) (fun v => v.1 ≤ 8 ∧ v.2.2.1 * 2 ^ v.1 + 2 ^ v.1 ≤ 256 ∧ mt_rep LP nf t v.1 (v.2.2.1 * 2 ^ v.1) v.2.2.2 ∧ v.2.1 + mt_c t 0 (v.2.2.1 * 2 ^ v.1) = i ∧ v.2.1 < mt_c t (v.2.2.1 * 2 ^ v.1) (2 ^ v.1)) ?_ (8, i, 0, r) ls ⟨Nat.le_refl _, by show 0 * 2 ^ 8 + 2 ^ 8 ≤ 256; decide, by rw [Nat.zero_mul]; exact hr0, by simp [mt_c], by rw [Nat.zero_mul]; exact hi0⟩ hl
  intro v ls hi hl ih
  obtain ⟨h, le, ke, z⟩ := v
  obtain ⟨h8, hke, hz0, hi1, hi2⟩ := hi
  dsimp only at h8 hke hz0 hi1 hi2 hl ih
  cases h with
  | zero =>
    refine lv_iload hx hb dXT_keyAt_11 (lv_at hl 0 rfl) ?_
    refine lv_if_le (tgt := 68) hx hb dXT_keyAt_13 (by decide) (fun _ => ?_) (fun z => absurd (show nI 0 ≤ 0 by decide) z)
    refine lv_iload_n hx hb dXT_keyAt_68 rfl (lv_at hl 2 rfl) ?_
    rw [Nat.pow_zero, Nat.mul_one] at hi1 hi2 hke
    have hi3 : le < mt_1 t ke := by have := hi2; simp only [mt_c, Nat.add_zero, Nat.zero_add] at this; exact this
    have hi4 := mt_1_le t ke
    have hi5 : t ke ≠ none := fun h9 => by rw [mt_1_0 h9] at hi3; omega
    exact W.iret (v := (nI ke)) hx hb hr (fun t9 ht hW => ⟨(nI ke), rfl, ⟨ke, by omega, rfl, hi5, by omega⟩, ht⟩) t_nil dXT_keyAt_69
  | succ h =>
    refine lv_iload hx hb dXT_keyAt_11 (lv_at hl 0 rfl) ?_
    refine lv_if_le (tgt := 68) hx hb dXT_keyAt_13 (by decide) (fun z => absurd z (nI_nle (n := h + 1) (by omega) (by omega))) (fun _ => ?_)
    obtain ⟨d1, d2⟩ := mt_rep_down hz0
    have e2 : ke * 2 ^ (h + 1) = 2 * ke * 2 ^ h := by rw [Nat.pow_succ, Nat.mul_comm (2 ^ h) 2, ← Nat.mul_assoc, Nat.mul_comm ke 2]
    have e3 := mt_two h
    have e4 : (2 * ke + 1) * 2 ^ h = 2 * ke * 2 ^ h + 2 ^ h := by rw [Nat.add_mul, Nat.one_mul]
    rw [e2] at d1 d2 hi1 hi2 hke
    rw [e3] at hi2 hke
    rw [mt_c_add] at hi2
    have hp2 := Nat.two_pow_pos h
    refine qa_aload_n hx hb dXT_keyAt_16 rfl (lv_at hl 3 rfl) ?_
    refine va_csq (W.runS (As := [va_rf z]) (rest := []) ⟨hx, hb, hml, hown, hts⟩ (c_lowOf l g _ LP nf hp z (mt_rep_mem hz0)) (va_cwS 1 hts (mt_giS mw_277 mw_278 mw_1 (mt_gi mw_279)) rfl rfl rfl (by decide +kernel) ⟨Nat.le_of_ble_eq_true rfl, Nat.le_of_ble_eq_true rfl⟩) (mt_preS hE hz hS hP hD) rfl rfl hl.1 rfl (lv_room (Nat.le_of_ble_eq_true rfl)) dXT_keyAt_17 ⟨Nat.zero_le _, Nat.zero_le _⟩) (fun z1 e1 => ?_)
    subst e1
    refine vp_callSi (W.runS (As := [va_rf (mt_lo nf z)]) (rest := []) ⟨hx, hb, hml, hown, hts⟩ (c_sizeOf l g _ LP nf hp (mt_lo nf z) (mt_rep_mem d1)) (va_cwS 1 hts (mt_giS mw_101 mw_102 mw_1 (mt_gi mw_103)) rfl rfl rfl (by decide +kernel) ⟨Nat.le_of_ble_eq_true rfl, Nat.le_of_ble_eq_true rfl⟩) (mt_preS hE hz hS hP hD) rfl rfl hl.1 rfl (lv_room (Nat.le_of_ble_eq_true rfl)) dXT_keyAt_20 ⟨Nat.zero_le _, Nat.zero_le _⟩) (fun z1 e1 => ?_)
    subst e1
    refine qa_i (y := (nI (mt_c t (2 * ke * 2 ^ h) (2 ^ h)))) ((mt_rep_sz d1).1) ?_
    have hcl := mt_c_le t (2 * ke * 2 ^ h) (2 ^ h)
    have hc2 := mt_c_le t (2 * ke * 2 ^ h + 2 ^ h) (2 ^ h)
    generalize hcv : mt_c t (2 * ke * 2 ^ h) (2 ^ h) = cv at hcl hi2 ⊢
    refine lv_istore (i := 6) (lv' := [(6, .int (nI cv)), (5, .int (nI (h + 1))), (4, .int (nI le)), (3, .int (nI ke)), (2, va_rf z), (0, va_rf r), (1, .int (nI i))]) hx hb dXT_keyAt_23 hl (by decide) (by simp [List.filter, qa_cat, qa_ci, qa_cl, qa_cr, qa_cn]) (fun ls hl => ?_)
    refine lv_iload hx hb dXT_keyAt_25 (lv_at hl 2 rfl) ?_
    refine lv_iload hx hb dXT_keyAt_27 (lv_at hl 0 rfl) ?_
    by_cases hlt : le < cv
    · refine lv_icmp_ge (tgt := 44) hx hb dXT_keyAt_29 (by decide) (fun z => absurd z (nI_ge hlt (by omega))) (fun _ => ?_)
      refine lv_iconst (v := (nI 2)) hx hb dXT_keyAt_32 (by decide +kernel) ?_
      refine lv_iload_n hx hb dXT_keyAt_33 rfl (lv_at hl 3 rfl) ?_
      refine lv_imul hx hb dXT_keyAt_34 ?_
      refine qa_i (y := (nI (2 * ke))) (pk_mul 2 ke) ?_
      refine lv_istore_n (i := 3) (lv' := [(3, .int (nI (2 * ke))), (6, .int (nI cv)), (5, .int (nI (h + 1))), (4, .int (nI le)), (2, va_rf z), (0, va_rf r), (1, .int (nI i))]) hx hb dXT_keyAt_35 rfl hl (by decide) (by simp [List.filter, qa_cat, qa_ci, qa_cl, qa_cr, qa_cn]) (fun ls hl => ?_)
      refine qa_aload_n hx hb dXT_keyAt_36 rfl (lv_at hl 4 rfl) ?_
      refine va_csq (W.runS (As := [va_rf z]) (rest := []) ⟨hx, hb, hml, hown, hts⟩ (c_lowOf l g _ LP nf hp z (mt_rep_mem hz0)) (va_cwS 1 hts (mt_giS mw_277 mw_278 mw_1 (mt_gi mw_279)) rfl rfl rfl (by decide +kernel) ⟨Nat.le_of_ble_eq_true rfl, Nat.le_of_ble_eq_true rfl⟩) (mt_preS hE hz hS hP hD) rfl rfl hl.1 rfl (lv_room (Nat.le_of_ble_eq_true rfl)) dXT_keyAt_37 ⟨Nat.zero_le _, Nat.zero_le _⟩) (fun z1 e1 => ?_)
      subst e1
      refine qa_astore_n (i := 2) (lv' := [(2, va_rf (mt_lo nf z)), (3, .int (nI (2 * ke))), (6, .int (nI cv)), (5, .int (nI (h + 1))), (4, .int (nI le)), (0, va_rf r), (1, .int (nI i))]) hx hb dXT_keyAt_40 rfl hl (by decide) (by simp [List.filter, qa_cat, qa_ci, qa_cl, qa_cr, qa_cn]) (fun ls hl => ?_)
      refine lv_goto (tgt := 62) hx hb dXT_keyAt_41 (by decide) ?_
      refine lv_iinc (k := 3) (v := (nI h)) (lv' := [(5, .int (nI h)), (2, va_rf (mt_lo nf z)), (3, .int (nI (2 * ke))), (6, .int (nI cv)), (4, .int (nI le)), (0, va_rf r), (1, .int (nI i))]) hx hb dXT_keyAt_62 hl rfl (pk_m1 h) (by decide) (by simp [List.filter, qa_cat, qa_ci, qa_cl, qa_cr, qa_cn]) (fun ls hl => ?_)
      refine lv_goto (tgt := 11) hx hb dXT_keyAt_65 (by decide) ?_
      have hl := lv_sub (l' := [(5, .int (nI h)), (4, .int (nI le)), (3, .int (nI (2 * ke))), (2, va_rf (mt_lo nf z)), (0, va_rf r), (1, .int (nI i))]) hl [0, 4, 2, 1, 5, 6] rfl
      exact ih (h, le, 2 * ke, mt_lo nf z) ls (Nat.lt_succ_self h) ⟨by show h ≤ 8; omega, by show 2 * ke * 2 ^ h + 2 ^ h ≤ 256; omega, d1, hi1, by show le < mt_c t (2 * ke * 2 ^ h) (2 ^ h); rw [hcv]; exact hlt⟩ hl
    · refine lv_icmp_ge (tgt := 44) hx hb dXT_keyAt_29 (by decide) (fun _ => ?_) (fun z => absurd (nI_le (a := cv) (b := le) (by omega) (by omega)) z)
      refine lv_iconst (v := (nI 2)) hx hb dXT_keyAt_44 (by decide +kernel) ?_
      refine lv_iload_n hx hb dXT_keyAt_45 rfl (lv_at hl 3 rfl) ?_
      refine lv_imul hx hb dXT_keyAt_46 ?_
      refine qa_i (y := (nI (2 * ke))) (pk_mul 2 ke) ?_
      refine lv_iconst (v := 1) hx hb dXT_keyAt_47 (by decide +kernel) ?_
      refine lv_iadd hx hb dXT_keyAt_48 ?_
      refine qa_i (y := (nI (2 * ke + 1))) (nI_1 (2 * ke)) ?_
      refine lv_istore_n (i := 3) (lv' := [(3, .int (nI (2 * ke + 1))), (6, .int (nI cv)), (5, .int (nI (h + 1))), (4, .int (nI le)), (2, va_rf z), (0, va_rf r), (1, .int (nI i))]) hx hb dXT_keyAt_49 rfl hl (by decide) (by simp [List.filter, qa_cat, qa_ci, qa_cl, qa_cr, qa_cn]) (fun ls hl => ?_)
      refine lv_iload hx hb dXT_keyAt_50 (lv_at hl 3 rfl) ?_
      refine lv_iload hx hb dXT_keyAt_52 (lv_at hl 1 rfl) ?_
      refine lv_isub hx hb dXT_keyAt_54 ?_
      refine qa_i (y := (nI (le - cv))) (pk_sub (by omega)) ?_
      refine lv_istore (i := 4) (lv' := [(4, .int (nI (le - cv))), (3, .int (nI (2 * ke + 1))), (6, .int (nI cv)), (5, .int (nI (h + 1))), (2, va_rf z), (0, va_rf r), (1, .int (nI i))]) hx hb dXT_keyAt_55 hl (by decide) (by simp [List.filter, qa_cat, qa_ci, qa_cl, qa_cr, qa_cn]) (fun ls hl => ?_)
      refine qa_aload_n hx hb dXT_keyAt_57 rfl (lv_at hl 4 rfl) ?_
      refine va_csq (W.runS (As := [va_rf z]) (rest := []) ⟨hx, hb, hml, hown, hts⟩ (c_highOf l g _ LP nf hp z (mt_rep_mem hz0)) (va_cwS 1 hts (mt_giS mw_280 mw_281 mw_1 (mt_gi mw_282)) rfl rfl rfl (by decide +kernel) ⟨Nat.le_of_ble_eq_true rfl, Nat.le_of_ble_eq_true rfl⟩) (mt_preS hE hz hS hP hD) rfl rfl hl.1 rfl (lv_room (Nat.le_of_ble_eq_true rfl)) dXT_keyAt_58 ⟨Nat.zero_le _, Nat.zero_le _⟩) (fun z1 e1 => ?_)
      subst e1
      refine qa_astore_n (i := 2) (lv' := [(2, va_rf (mt_hi nf z)), (4, .int (nI (le - cv))), (3, .int (nI (2 * ke + 1))), (6, .int (nI cv)), (5, .int (nI (h + 1))), (0, va_rf r), (1, .int (nI i))]) hx hb dXT_keyAt_61 rfl hl (by decide) (by simp [List.filter, qa_cat, qa_ci, qa_cl, qa_cr, qa_cn]) (fun ls hl => ?_)
      refine lv_iinc (k := 4) (v := (nI h)) (lv' := [(5, .int (nI h)), (2, va_rf (mt_hi nf z)), (4, .int (nI (le - cv))), (3, .int (nI (2 * ke + 1))), (6, .int (nI cv)), (0, va_rf r), (1, .int (nI i))]) hx hb dXT_keyAt_62 hl rfl (pk_m1 h) (by decide) (by simp [List.filter, qa_cat, qa_ci, qa_cl, qa_cr, qa_cn]) (fun ls hl => ?_)
      refine lv_goto (tgt := 11) hx hb dXT_keyAt_65 (by decide) ?_
      have hl := lv_sub (l' := [(5, .int (nI h)), (4, .int (nI (le - cv))), (3, .int (nI (2 * ke + 1))), (2, va_rf (mt_hi nf z)), (0, va_rf r), (1, .int (nI i))]) hl [0, 2, 3, 1, 5, 6] rfl
      exact ih (h, le - cv, 2 * ke + 1, mt_hi nf z) ls (Nat.lt_succ_self h) ⟨by show h ≤ 8; omega, by show (2 * ke + 1) * 2 ^ h + 2 ^ h ≤ 256; rw [e4]; omega, by show mt_rep LP nf t h ((2 * ke + 1) * 2 ^ h) _; rw [e4]; exact d2, by show le - cv + mt_c t 0 ((2 * ke + 1) * 2 ^ h) = i; rw [e4, mt_c_add, Nat.zero_add, hcv]; omega, by show le - cv < mt_c t ((2 * ke + 1) * 2 ^ h) (2 ^ h); rw [e4]; omega⟩ hl
set_option maxHeartbeats 4000000 in
set_option maxRecDepth 100000 in
/-- sizeBelow(root, bound) -/
theorem c_sizeBelow (l : Launch) (g : mt_G) (ws : va_W) (LP : List Nat) (nf : Nat → mt_N) (hp : mt_pool ws LP nf) (t : mt_T) (r : Option Nat) (hr0 : mt_rep LP nf t 8 0 r) (bd : Int32) : Met l yXT_sizeBelow wsXT_sizeBelow ({ frames := 1, cells := 0, slots := 0, locals := 21 }) (mt_Pc g ws [va_rf r, .int bd]) (vp_Si (fun z => z = nI (mt_c t 0 (mt_cl bd)))) (0) (0) (fun _ => False) := by
  refine Met.ofW (cc := cXT_sizeBelow) (maxL := 5) (ret := (some .int)) (by decide) rfl ?_
  intro p e s m args below meth c s₁ B hml hv
  obtain ⟨rfl, hE, hz, hP, hD⟩ := hv
  have hx := B.exec
  have hb := B.bytes
  have hr := B.returns
  have hts := atoms_spec (ws := wsXT_sizeBelow) B.pre
  have hown : s.vm.findClass RXT = some m.cls := findClass_of_methodNamed B.named
  have hlocks := B.notSynchronized
  have hK := hE.k
  have hA : ∀ q : Nat, s.heap.size ≤ q → mt_A g q := fun q h => Nat.le_trans hz h
  have hS : va_S (mt_A g) s.heap s.heap [] := va_S.rf
  have hl := lv_entry ([va_rf r, .int bd]) (n := 5) (by rw [qa_sl1 (qa_cat _), qa_sl1 (qa_ci _), qa_sl0]; exact Nat.le_of_ble_eq_true rfl)
  rw [lg_entry_eq]
  generalize (lg_sl ([va_rf r, .int bd]) ++ List.replicate (5 - (lg_sl ([va_rf r, .int bd])).length) Slot.unset).toArray = ls at hl ⊢
  have hl : lv_has ls 5 [(0, va_rf r), (1, .int bd)] := by rw [qa_ar1 (qa_cat _), qa_ar1 (qa_ci _)] at hl; exact hl
  have hH : s.heap = s.heap := rfl
  refine lv_iload_n hx hb dXT_sizeBelow_0 rfl (lv_at hl 1 rfl) ?_
  refine lv_if_gt (tgt := 6) hx hb dXT_sizeBelow_1 (by decide) (fun c1 => ?_) (fun c1 => ?_)
  · refine lv_iload_n hx hb dXT_sizeBelow_6 rfl (lv_at hl 1 rfl) ?_
    refine lv_sipush (v := (nI 256)) hx hb dXT_sizeBelow_7 (by decide +kernel) ?_
    refine lv_icmp_lt (tgt := 18) hx hb dXT_sizeBelow_10 (by decide) (fun c2 => ?_) (fun c2 => ?_)
    · obtain ⟨k, hk31, rfl⟩ := nI_of (x := bd) (fun h9 => absurd c1 (Int32.not_lt.mpr (Int32.le_of_lt h9)))
      have hk : k < 256 := (nI_ltI hk31 (by decide)).mp c2
      have hk0 : 0 < k := (nI_ltI (by decide) hk31).mp c1
      have ecl : mt_cl (nI k) = k := by unfold mt_cl; rw [if_neg (nI_nle hk0 hk31), if_neg (nI_ge hk (by decide)), nI_toInt hk31]; rfl
      refine qa_aload_n hx hb dXT_sizeBelow_18 rfl (lv_at hl 0 rfl) ?_
      refine qa_astore_n (i := 2) (lv' := [(2, va_rf r), (0, va_rf r), (1, .int (nI k))]) hx hb dXT_sizeBelow_19 rfl hl (by decide) (by simp [List.filter, qa_cat, qa_ci, qa_cl, qa_cr, qa_cn]) (fun ls hl => ?_)
      refine lv_iconst (v := 0) hx hb dXT_sizeBelow_20 (by decide +kernel) ?_
      refine lv_istore_n (i := 3) (lv' := [(3, .int 0), (2, va_rf r), (0, va_rf r), (1, .int (nI k))]) hx hb dXT_sizeBelow_21 rfl hl (by decide) (by simp [List.filter, qa_cat, qa_ci, qa_cl, qa_cr, qa_cn]) (fun ls hl => ?_)
      refine lv_bipush (v := (nI 8)) hx hb dXT_sizeBelow_22 (by decide +kernel) ?_
      refine lv_istore (i := 4) (lv' := [(4, .int (nI 8)), (3, .int 0), (2, va_rf r), (0, va_rf r), (1, .int (nI k))]) hx hb dXT_sizeBelow_24 hl (by decide) (by simp [List.filter, qa_cat, qa_ci, qa_cl, qa_cr, qa_cn]) (fun ls hl => ?_)
      refine qa_for (V := Nat × Nat × Option Nat) (fun v => v.1) (fun v => [(4, .int (nI v.1)), (3, .int (nI v.2.1)), (2, va_rf v.2.2), (0, va_rf r), (1, .int (nI k))]) (fun v => v.1 ≤ 8 ∧ v.2.1 = mt_c t 0 (k / 2 ^ v.1 * 2 ^ v.1) ∧ mt_rep LP nf t v.1 (k / 2 ^ v.1 * 2 ^ v.1) v.2.2) ?_ (8, 0, r) ls ⟨Nat.le_refl _, by rw [mt_base8 hk]; rfl, by rw [mt_base8 hk]; exact hr0⟩ hl
      intro v ls hi hl ih
      obtain ⟨h, ac, z⟩ := v
      obtain ⟨h8, hac, hz0⟩ := hi
      dsimp only at h8 hac hz0 hl ih
      cases h with
      | zero =>
        refine lv_iload hx hb dXT_sizeBelow_26 (lv_at hl 0 rfl) ?_
        refine lv_if_le (tgt := 69) hx hb dXT_sizeBelow_28 (by decide) (fun _ => ?_) (fun z => absurd (show nI 0 ≤ 0 by decide) z)
        refine lv_iload_n hx hb dXT_sizeBelow_69 rfl (lv_at hl 1 rfl) ?_
        rw [mt_base0] at hac
        exact W.iret (v := nI (ac)) hx hb hr (fun t9 ht hW => ⟨nI (ac), rfl, by rw [ecl, hac], ht⟩) t_nil dXT_sizeBelow_70
      | succ h =>
        refine lv_iload hx hb dXT_sizeBelow_26 (lv_at hl 0 rfl) ?_
        refine lv_if_le (tgt := 69) hx hb dXT_sizeBelow_28 (by decide) (fun z => absurd z (nI_nle (n := h + 1) (by omega) (by omega))) (fun _ => ?_)
        obtain ⟨d1, d2⟩ := mt_rep_down hz0
        have hb2 := mt_base k h
        refine lv_iload_n hx hb dXT_sizeBelow_31 rfl (lv_at hl 4 rfl) ?_
        refine lv_iload hx hb dXT_sizeBelow_32 (lv_at hl 0 rfl) ?_
        refine vp_callSi (W.runS (As := [.int (nI k), .int (nI (h + 1))]) (rest := []) ⟨hx, hb, hml, hown, hts⟩ (c_goesHigh l g ws (k := k) (h := h) hk (by omega)) (va_cwS 2 hts (mt_giS mw_274 mw_275 mw_1 (mt_gi mw_276)) rfl rfl rfl (by decide +kernel) ⟨Nat.le_of_ble_eq_true rfl, Nat.le_of_ble_eq_true rfl⟩) (mt_preS hE hz hS hP hD) rfl rfl hl.1 rfl (lv_room (Nat.le_of_ble_eq_true rfl)) dXT_sizeBelow_34 ⟨Nat.zero_le _, Nat.zero_le _⟩) (fun z1 e1 => ?_)
        subst e1
        have h2 : k / 2 ^ h % 2 = 0 ∨ k / 2 ^ h % 2 = 1 := by omega
        rcases h2 with h2 | h2
        · refine qa_i (y := nI 0) (by rw [h2]) ?_
          refine lv_if_eq (tgt := 58) hx hb dXT_sizeBelow_37 (by decide) (fun _ => ?_) (fun z => absurd (show nI 0 = 0 by decide) z)
          refine qa_aload_n hx hb dXT_sizeBelow_58 rfl (lv_at hl 2 rfl) ?_
          refine va_csq (W.runS (As := [va_rf z]) (rest := []) ⟨hx, hb, hml, hown, hts⟩ (c_lowOf l g _ LP nf hp z (mt_rep_mem hz0)) (va_cwS 1 hts (mt_giS mw_277 mw_278 mw_1 (mt_gi mw_279)) rfl rfl rfl (by decide +kernel) ⟨Nat.le_of_ble_eq_true rfl, Nat.le_of_ble_eq_true rfl⟩) (mt_preS hE hz hS hP hD) rfl rfl hl.1 rfl (lv_room (Nat.le_of_ble_eq_true rfl)) dXT_sizeBelow_59 ⟨Nat.zero_le _, Nat.zero_le _⟩) (fun z1 e1 => ?_)
          subst e1
          refine qa_astore_n (i := 2) (lv' := [(2, va_rf (mt_lo nf z)), (4, .int (nI (h + 1))), (3, .int (nI (ac))), (0, va_rf r), (1, .int (nI k))]) hx hb dXT_sizeBelow_62 rfl hl (by decide) (by simp [List.filter, qa_cat, qa_ci, qa_cl, qa_cr, qa_cn]) (fun ls hl => ?_)
          refine lv_iinc (k := 1) (v := (nI h)) (lv' := [(4, .int (nI h)), (2, va_rf (mt_lo nf z)), (3, .int (nI (ac))), (0, va_rf r), (1, .int (nI k))]) hx hb dXT_sizeBelow_63 hl rfl (pk_m1 h) (by decide) (by simp [List.filter, qa_cat, qa_ci, qa_cl, qa_cr, qa_cn]) (fun ls hl => ?_)
          refine lv_goto (tgt := 26) hx hb dXT_sizeBelow_66 (by decide) ?_
          have hl := lv_sub (l' := [(4, .int (nI h)), (3, .int (nI (ac))), (2, va_rf (mt_lo nf z)), (0, va_rf r), (1, .int (nI k))]) hl [0, 2, 1, 3, 4] rfl
          rw [h2, Nat.zero_mul, Nat.add_zero] at hb2
          exact ih (h, ac, mt_lo nf z) ls (Nat.lt_succ_self h) ⟨by show h ≤ 8; omega, by show ac = mt_c t 0 (k / 2 ^ h * 2 ^ h); rw [hb2]; exact hac, by show mt_rep LP nf t h (k / 2 ^ h * 2 ^ h) _; rw [hb2]; exact d1⟩ hl
        · refine qa_i (y := nI 1) (by rw [h2]) ?_
          refine lv_if_eq (tgt := 58) hx hb dXT_sizeBelow_37 (by decide) (fun z => absurd z (show ¬ nI 1 = 0 by decide)) (fun _ => ?_)
          refine lv_iload_n hx hb dXT_sizeBelow_40 rfl (lv_at hl 1 rfl) ?_
          refine qa_aload_n hx hb dXT_sizeBelow_41 rfl (lv_at hl 2 rfl) ?_
          refine va_csq (W.runS (As := [va_rf z]) (rest := [.int (nI (ac))]) ⟨hx, hb, hml, hown, hts⟩ (c_lowOf l g _ LP nf hp z (mt_rep_mem hz0)) (va_cwS 1 hts (mt_giS mw_277 mw_278 mw_1 (mt_gi mw_279)) rfl rfl rfl (by decide +kernel) ⟨Nat.le_of_ble_eq_true rfl, Nat.le_of_ble_eq_true rfl⟩) (mt_preS hE hz hS hP hD) rfl rfl hl.1 rfl (lv_room (Nat.le_of_ble_eq_true rfl)) dXT_sizeBelow_42 ⟨Nat.zero_le _, Nat.zero_le _⟩) (fun z1 e1 => ?_)
          subst e1
          refine vp_callSi (W.runS (As := [va_rf (mt_lo nf z)]) (rest := [.int (nI (ac))]) ⟨hx, hb, hml, hown, hts⟩ (c_sizeOf l g _ LP nf hp (mt_lo nf z) (mt_rep_mem d1)) (va_cwS 1 hts (mt_giS mw_101 mw_102 mw_1 (mt_gi mw_103)) rfl rfl rfl (by decide +kernel) ⟨Nat.le_of_ble_eq_true rfl, Nat.le_of_ble_eq_true rfl⟩) (mt_preS hE hz hS hP hD) rfl rfl hl.1 rfl (lv_room (Nat.le_of_ble_eq_true rfl)) dXT_sizeBelow_45 ⟨Nat.zero_le _, Nat.zero_le _⟩) (fun z1 e1 => ?_)
          subst e1
          refine lv_iadd hx hb dXT_sizeBelow_48 ?_
          refine qa_i (y := (nI (ac + mt_c t (k / 2 ^ (h + 1) * 2 ^ (h + 1)) (2 ^ h)))) (by rw [(mt_rep_sz d1).1]; exact nI_add _ _) ?_
          refine lv_istore_n (i := 3) (lv' := [(3, .int (nI (ac + mt_c t (k / 2 ^ (h + 1) * 2 ^ (h + 1)) (2 ^ h)))), (4, .int (nI (h + 1))), (2, va_rf z), (0, va_rf r), (1, .int (nI k))]) hx hb dXT_sizeBelow_49 rfl hl (by decide) (by simp [List.filter, qa_cat, qa_ci, qa_cl, qa_cr, qa_cn]) (fun ls hl => ?_)
          refine qa_aload_n hx hb dXT_sizeBelow_50 rfl (lv_at hl 2 rfl) ?_
          refine va_csq (W.runS (As := [va_rf z]) (rest := []) ⟨hx, hb, hml, hown, hts⟩ (c_highOf l g _ LP nf hp z (mt_rep_mem hz0)) (va_cwS 1 hts (mt_giS mw_280 mw_281 mw_1 (mt_gi mw_282)) rfl rfl rfl (by decide +kernel) ⟨Nat.le_of_ble_eq_true rfl, Nat.le_of_ble_eq_true rfl⟩) (mt_preS hE hz hS hP hD) rfl rfl hl.1 rfl (lv_room (Nat.le_of_ble_eq_true rfl)) dXT_sizeBelow_51 ⟨Nat.zero_le _, Nat.zero_le _⟩) (fun z1 e1 => ?_)
          subst e1
          refine qa_astore_n (i := 2) (lv' := [(2, va_rf (mt_hi nf z)), (3, .int (nI (ac + mt_c t (k / 2 ^ (h + 1) * 2 ^ (h + 1)) (2 ^ h)))), (4, .int (nI (h + 1))), (0, va_rf r), (1, .int (nI k))]) hx hb dXT_sizeBelow_54 rfl hl (by decide) (by simp [List.filter, qa_cat, qa_ci, qa_cl, qa_cr, qa_cn]) (fun ls hl => ?_)
          refine lv_goto (tgt := 63) hx hb dXT_sizeBelow_55 (by decide) ?_
          refine lv_iinc (k := 2) (v := (nI h)) (lv' := [(4, .int (nI h)), (2, va_rf (mt_hi nf z)), (3, .int (nI (ac + mt_c t (k / 2 ^ (h + 1) * 2 ^ (h + 1)) (2 ^ h)))), (0, va_rf r), (1, .int (nI k))]) hx hb dXT_sizeBelow_63 hl rfl (pk_m1 h) (by decide) (by simp [List.filter, qa_cat, qa_ci, qa_cl, qa_cr, qa_cn]) (fun ls hl => ?_)
          refine lv_goto (tgt := 26) hx hb dXT_sizeBelow_66 (by decide) ?_
          have hl := lv_sub (l' := [(4, .int (nI h)), (3, .int (nI (ac + mt_c t (k / 2 ^ (h + 1) * 2 ^ (h + 1)) (2 ^ h)))), (2, va_rf (mt_hi nf z)), (0, va_rf r), (1, .int (nI k))]) hl [0, 2, 1, 3, 4] rfl
          rw [h2, Nat.one_mul] at hb2
          exact ih (h, ac + mt_c t (k / 2 ^ (h + 1) * 2 ^ (h + 1)) (2 ^ h), mt_hi nf z) ls (Nat.lt_succ_self h) ⟨by show h ≤ 8; omega, by show _ = mt_c t 0 (k / 2 ^ h * 2 ^ h); rw [hb2, mt_c_add, Nat.zero_add, hac], by show mt_rep LP nf t h (k / 2 ^ h * 2 ^ h) _; rw [hb2]; exact d2⟩ hl
    · refine qa_aload_n hx hb dXT_sizeBelow_13 rfl (lv_at hl 0 rfl) ?_
      refine vp_callSi (W.runS (As := [va_rf r]) (rest := []) ⟨hx, hb, hml, hown, hts⟩ (c_sizeOf l g _ LP nf hp r (mt_rep_mem hr0)) (va_cwS 1 hts (mt_giS mw_101 mw_102 mw_1 (mt_gi mw_103)) rfl rfl rfl (by decide +kernel) ⟨Nat.le_of_ble_eq_true rfl, Nat.le_of_ble_eq_true rfl⟩) (mt_preS hE hz hS hP hD) rfl rfl hl.1 rfl (lv_room (Nat.le_of_ble_eq_true rfl)) dXT_sizeBelow_14 ⟨Nat.zero_le _, Nat.zero_le _⟩) (fun z1 e1 => ?_)
      subst e1
      have e0 : mt_cl bd = 256 := by unfold mt_cl; rw [if_neg (Int32.not_le.mpr c1), if_pos (Int32.not_lt.mp c2)]
      exact W.iret (v := (mt_sz nf r)) hx hb hr (fun t9 ht hW => ⟨(mt_sz nf r), rfl, by rw [e0]; exact (mt_rep_sz hr0).1, ht⟩) t_nil dXT_sizeBelow_17
  · refine lv_iconst (v := 0) hx hb dXT_sizeBelow_4 (by decide +kernel) ?_
    have e0 : mt_cl bd = 0 := if_pos (Int32.not_lt.mp c1)
    exact W.iret (v := 0) hx hb hr (fun t9 ht hW => ⟨0, rfl, by rw [e0]; rfl, ht⟩) t_nil dXT_sizeBelow_5
set_option maxHeartbeats 4000000 in
set_option maxRecDepth 100000 in
/-- totalBelow(root, bound) -/
theorem c_totalBelow (l : Launch) (g : mt_G) (ws : va_W) (LP : List Nat) (nf : Nat → mt_N) (hp : mt_pool ws LP nf) (t : mt_T) (r : Option Nat) (hr0 : mt_rep LP nf t 8 0 r) (bd : Int32) : Met l yXT_totalBelow wsXT_totalBelow ({ frames := 1, cells := 0, slots := 0, locals := 21 }) (mt_Pc g ws [va_rf r, .int bd]) (vp_Sl (fun z => z = mt_s t 0 (mt_cl bd))) (0) (0) (fun _ => False) := by
  refine Met.ofW (cc := cXT_totalBelow) (maxL := 6) (ret := (some .long)) (by decide) rfl ?_
  intro p e s m args below meth c s₁ B hml hv
  obtain ⟨rfl, hE, hz, hP, hD⟩ := hv
  have hx := B.exec
  have hb := B.bytes
  have hr := B.returns
  have hts := atoms_spec (ws := wsXT_totalBelow) B.pre
  have hown : s.vm.findClass RXT = some m.cls := findClass_of_methodNamed B.named
  have hlocks := B.notSynchronized
  have hK := hE.k
  have hA : ∀ q : Nat, s.heap.size ≤ q → mt_A g q := fun q h => Nat.le_trans hz h
  have hS : va_S (mt_A g) s.heap s.heap [] := va_S.rf
  have hl := lv_entry ([va_rf r, .int bd]) (n := 6) (by rw [qa_sl1 (qa_cat _), qa_sl1 (qa_ci _), qa_sl0]; exact Nat.le_of_ble_eq_true rfl)
  rw [lg_entry_eq]
  generalize (lg_sl ([va_rf r, .int bd]) ++ List.replicate (6 - (lg_sl ([va_rf r, .int bd])).length) Slot.unset).toArray = ls at hl ⊢
  have hl : lv_has ls 6 [(0, va_rf r), (1, .int bd)] := by rw [qa_ar1 (qa_cat _), qa_ar1 (qa_ci _)] at hl; exact hl
  have hH : s.heap = s.heap := rfl
  refine lv_iload_n hx hb dXT_totalBelow_0 rfl (lv_at hl 1 rfl) ?_
  refine lv_if_gt (tgt := 6) hx hb dXT_totalBelow_1 (by decide) (fun c1 => ?_) (fun c1 => ?_)
  · refine lv_iload_n hx hb dXT_totalBelow_6 rfl (lv_at hl 1 rfl) ?_
    refine lv_sipush (v := (nI 256)) hx hb dXT_totalBelow_7 (by decide +kernel) ?_
    refine lv_icmp_lt (tgt := 18) hx hb dXT_totalBelow_10 (by decide) (fun c2 => ?_) (fun c2 => ?_)
    · obtain ⟨k, hk31, rfl⟩ := nI_of (x := bd) (fun h9 => absurd c1 (Int32.not_lt.mpr (Int32.le_of_lt h9)))
      have hk : k < 256 := (nI_ltI hk31 (by decide)).mp c2
      have hk0 : 0 < k := (nI_ltI (by decide) hk31).mp c1
      have ecl : mt_cl (nI k) = k := by unfold mt_cl; rw [if_neg (nI_nle hk0 hk31), if_neg (nI_ge hk (by decide)), nI_toInt hk31]; rfl
      refine qa_aload_n hx hb dXT_totalBelow_18 rfl (lv_at hl 0 rfl) ?_
      refine qa_astore_n (i := 2) (lv' := [(2, va_rf r), (0, va_rf r), (1, .int (nI k))]) hx hb dXT_totalBelow_19 rfl hl (by decide) (by simp [List.filter, qa_cat, qa_ci, qa_cl, qa_cr, qa_cn]) (fun ls hl => ?_)
      refine lv_lconst (v := 0) hx hb dXT_totalBelow_20 (by decide +kernel) ?_
      refine lv_lstore_n (i := 3) (lv' := [(3, .long 0), (2, va_rf r), (0, va_rf r), (1, .int (nI k))]) hx hb dXT_totalBelow_21 rfl hl (by decide) (by simp [List.filter, qa_cat, qa_ci, qa_cl, qa_cr, qa_cn]) (fun ls hl => ?_)
      refine lv_bipush (v := (nI 8)) hx hb dXT_totalBelow_22 (by decide +kernel) ?_
      refine lv_istore (i := 5) (lv' := [(5, .int (nI 8)), (3, .long 0), (2, va_rf r), (0, va_rf r), (1, .int (nI k))]) hx hb dXT_totalBelow_24 hl (by decide) (by simp [List.filter, qa_cat, qa_ci, qa_cl, qa_cr, qa_cn]) (fun ls hl => ?_)
      refine qa_for (V := Nat × Int64 × Option Nat) (fun v => v.1) (fun v => [(5, .int (nI v.1)), (3, .long v.2.1), (2, va_rf v.2.2), (0, va_rf r), (1, .int (nI k))]) (fun v => v.1 ≤ 8 ∧ v.2.1 = mt_s t 0 (k / 2 ^ v.1 * 2 ^ v.1) ∧ mt_rep LP nf t v.1 (k / 2 ^ v.1 * 2 ^ v.1) v.2.2) ?_ (8, 0, r) ls ⟨Nat.le_refl _, by rw [mt_base8 hk]; rfl, by rw [mt_base8 hk]; exact hr0⟩ hl
      intro v ls hi hl ih
      obtain ⟨h, ac, z⟩ := v
      obtain ⟨h8, hac, hz0⟩ := hi
      dsimp only at h8 hac hz0 hl ih
      cases h with
      | zero =>
        refine lv_iload hx hb dXT_totalBelow_26 (lv_at hl 0 rfl) ?_
        refine lv_if_le (tgt := 69) hx hb dXT_totalBelow_28 (by decide) (fun _ => ?_) (fun z => absurd (show nI 0 ≤ 0 by decide) z)
        refine lv_lload_n hx hb dXT_totalBelow_69 rfl (lv_at hl 1 rfl) ?_
        rw [mt_base0] at hac
        exact W.lret (v := ac) hx hb hr (fun t9 ht hW => ⟨ac, rfl, by rw [ecl, hac], ht⟩) t_nil dXT_totalBelow_70
      | succ h =>
        refine lv_iload hx hb dXT_totalBelow_26 (lv_at hl 0 rfl) ?_
        refine lv_if_le (tgt := 69) hx hb dXT_totalBelow_28 (by decide) (fun z => absurd z (nI_nle (n := h + 1) (by omega) (by omega))) (fun _ => ?_)
        obtain ⟨d1, d2⟩ := mt_rep_down hz0
        have hb2 := mt_base k h
        refine lv_iload_n hx hb dXT_totalBelow_31 rfl (lv_at hl 4 rfl) ?_
        refine lv_iload hx hb dXT_totalBelow_32 (lv_at hl 0 rfl) ?_
        refine vp_callSi (W.runS (As := [.int (nI k), .int (nI (h + 1))]) (rest := []) ⟨hx, hb, hml, hown, hts⟩ (c_goesHigh l g ws (k := k) (h := h) hk (by omega)) (va_cwS 2 hts (mt_giS mw_274 mw_275 mw_1 (mt_gi mw_276)) rfl rfl rfl (by decide +kernel) ⟨Nat.le_of_ble_eq_true rfl, Nat.le_of_ble_eq_true rfl⟩) (mt_preS hE hz hS hP hD) rfl rfl hl.1 rfl (lv_room (Nat.le_of_ble_eq_true rfl)) dXT_totalBelow_34 ⟨Nat.zero_le _, Nat.zero_le _⟩) (fun z1 e1 => ?_)
        subst e1
        have h2 : k / 2 ^ h % 2 = 0 ∨ k / 2 ^ h % 2 = 1 := by omega
        rcases h2 with h2 | h2
        · refine qa_i (y := nI 0) (by rw [h2]) ?_
          refine lv_if_eq (tgt := 58) hx hb dXT_totalBelow_37 (by decide) (fun _ => ?_) (fun z => absurd (show nI 0 = 0 by decide) z)
          refine qa_aload_n hx hb dXT_totalBelow_58 rfl (lv_at hl 2 rfl) ?_
          refine va_csq (W.runS (As := [va_rf z]) (rest := []) ⟨hx, hb, hml, hown, hts⟩ (c_lowOf l g _ LP nf hp z (mt_rep_mem hz0)) (va_cwS 1 hts (mt_giS mw_277 mw_278 mw_1 (mt_gi mw_279)) rfl rfl rfl (by decide +kernel) ⟨Nat.le_of_ble_eq_true rfl, Nat.le_of_ble_eq_true rfl⟩) (mt_preS hE hz hS hP hD) rfl rfl hl.1 rfl (lv_room (Nat.le_of_ble_eq_true rfl)) dXT_totalBelow_59 ⟨Nat.zero_le _, Nat.zero_le _⟩) (fun z1 e1 => ?_)
          subst e1
          refine qa_astore_n (i := 2) (lv' := [(2, va_rf (mt_lo nf z)), (5, .int (nI (h + 1))), (3, .long ac), (0, va_rf r), (1, .int (nI k))]) hx hb dXT_totalBelow_62 rfl hl (by decide) (by simp [List.filter, qa_cat, qa_ci, qa_cl, qa_cr, qa_cn]) (fun ls hl => ?_)
          refine lv_iinc (k := 1) (v := (nI h)) (lv' := [(5, .int (nI h)), (2, va_rf (mt_lo nf z)), (3, .long ac), (0, va_rf r), (1, .int (nI k))]) hx hb dXT_totalBelow_63 hl rfl (pk_m1 h) (by decide) (by simp [List.filter, qa_cat, qa_ci, qa_cl, qa_cr, qa_cn]) (fun ls hl => ?_)
          refine lv_goto (tgt := 26) hx hb dXT_totalBelow_66 (by decide) ?_
          have hl := lv_sub (l' := [(5, .int (nI h)), (3, .long ac), (2, va_rf (mt_lo nf z)), (0, va_rf r), (1, .int (nI k))]) hl [0, 2, 1, 3, 4] rfl
          rw [h2, Nat.zero_mul, Nat.add_zero] at hb2
          exact ih (h, ac, mt_lo nf z) ls (Nat.lt_succ_self h) ⟨by show h ≤ 8; omega, by show ac = mt_s t 0 (k / 2 ^ h * 2 ^ h); rw [hb2]; exact hac, by show mt_rep LP nf t h (k / 2 ^ h * 2 ^ h) _; rw [hb2]; exact d1⟩ hl
        · refine qa_i (y := nI 1) (by rw [h2]) ?_
          refine lv_if_eq (tgt := 58) hx hb dXT_totalBelow_37 (by decide) (fun z => absurd z (show ¬ nI 1 = 0 by decide)) (fun _ => ?_)
          refine lv_lload_n hx hb dXT_totalBelow_40 rfl (lv_at hl 1 rfl) ?_
          refine qa_aload_n hx hb dXT_totalBelow_41 rfl (lv_at hl 2 rfl) ?_
          refine va_csq (W.runS (As := [va_rf z]) (rest := [.long ac]) ⟨hx, hb, hml, hown, hts⟩ (c_lowOf l g _ LP nf hp z (mt_rep_mem hz0)) (va_cwS 1 hts (mt_giS mw_277 mw_278 mw_1 (mt_gi mw_279)) rfl rfl rfl (by decide +kernel) ⟨Nat.le_of_ble_eq_true rfl, Nat.le_of_ble_eq_true rfl⟩) (mt_preS hE hz hS hP hD) rfl rfl hl.1 rfl (lv_room (Nat.le_of_ble_eq_true rfl)) dXT_totalBelow_42 ⟨Nat.zero_le _, Nat.zero_le _⟩) (fun z1 e1 => ?_)
          subst e1
          refine vp_callSl (W.runS (As := [va_rf (mt_lo nf z)]) (rest := [.long ac]) ⟨hx, hb, hml, hown, hts⟩ (c_totalOf l g _ LP nf hp (mt_lo nf z) (mt_rep_mem d1)) (va_cwS 1 hts (mt_giS mw_104 mw_105 mw_1 (mt_gi mw_106)) rfl rfl rfl (by decide +kernel) ⟨Nat.le_of_ble_eq_true rfl, Nat.le_of_ble_eq_true rfl⟩) (mt_preS hE hz hS hP hD) rfl rfl hl.1 rfl (lv_room (Nat.le_of_ble_eq_true rfl)) dXT_totalBelow_45 ⟨Nat.zero_le _, Nat.zero_le _⟩) (fun z1 e1 => ?_)
          subst e1
          refine lv_ladd hx hb dXT_totalBelow_48 ?_
          refine qa_l (y := (ac + mt_s t (k / 2 ^ (h + 1) * 2 ^ (h + 1)) (2 ^ h))) (by rw [(mt_rep_sz d1).2]) ?_
          refine lv_lstore_n (i := 3) (lv' := [(3, .long (ac + mt_s t (k / 2 ^ (h + 1) * 2 ^ (h + 1)) (2 ^ h))), (5, .int (nI (h + 1))), (2, va_rf z), (0, va_rf r), (1, .int (nI k))]) hx hb dXT_totalBelow_49 rfl hl (by decide) (by simp [List.filter, qa_cat, qa_ci, qa_cl, qa_cr, qa_cn]) (fun ls hl => ?_)
          refine qa_aload_n hx hb dXT_totalBelow_50 rfl (lv_at hl 2 rfl) ?_
          refine va_csq (W.runS (As := [va_rf z]) (rest := []) ⟨hx, hb, hml, hown, hts⟩ (c_highOf l g _ LP nf hp z (mt_rep_mem hz0)) (va_cwS 1 hts (mt_giS mw_280 mw_281 mw_1 (mt_gi mw_282)) rfl rfl rfl (by decide +kernel) ⟨Nat.le_of_ble_eq_true rfl, Nat.le_of_ble_eq_true rfl⟩) (mt_preS hE hz hS hP hD) rfl rfl hl.1 rfl (lv_room (Nat.le_of_ble_eq_true rfl)) dXT_totalBelow_51 ⟨Nat.zero_le _, Nat.zero_le _⟩) (fun z1 e1 => ?_)
          subst e1
          refine qa_astore_n (i := 2) (lv' := [(2, va_rf (mt_hi nf z)), (3, .long (ac + mt_s t (k / 2 ^ (h + 1) * 2 ^ (h + 1)) (2 ^ h))), (5, .int (nI (h + 1))), (0, va_rf r), (1, .int (nI k))]) hx hb dXT_totalBelow_54 rfl hl (by decide) (by simp [List.filter, qa_cat, qa_ci, qa_cl, qa_cr, qa_cn]) (fun ls hl => ?_)
          refine lv_goto (tgt := 63) hx hb dXT_totalBelow_55 (by decide) ?_
          refine lv_iinc (k := 2) (v := (nI h)) (lv' := [(5, .int (nI h)), (2, va_rf (mt_hi nf z)), (3, .long (ac + mt_s t (k / 2 ^ (h + 1) * 2 ^ (h + 1)) (2 ^ h))), (0, va_rf r), (1, .int (nI k))]) hx hb dXT_totalBelow_63 hl rfl (pk_m1 h) (by decide) (by simp [List.filter, qa_cat, qa_ci, qa_cl, qa_cr, qa_cn]) (fun ls hl => ?_)
          refine lv_goto (tgt := 26) hx hb dXT_totalBelow_66 (by decide) ?_
          have hl := lv_sub (l' := [(5, .int (nI h)), (3, .long (ac + mt_s t (k / 2 ^ (h + 1) * 2 ^ (h + 1)) (2 ^ h))), (2, va_rf (mt_hi nf z)), (0, va_rf r), (1, .int (nI k))]) hl [0, 2, 1, 3, 4] rfl
          rw [h2, Nat.one_mul] at hb2
          exact ih (h, ac + mt_s t (k / 2 ^ (h + 1) * 2 ^ (h + 1)) (2 ^ h), mt_hi nf z) ls (Nat.lt_succ_self h) ⟨by show h ≤ 8; omega, by show _ = mt_s t 0 (k / 2 ^ h * 2 ^ h); rw [hb2, mt_s_add, Nat.zero_add, hac], by show mt_rep LP nf t h (k / 2 ^ h * 2 ^ h) _; rw [hb2]; exact d2⟩ hl
    · refine qa_aload_n hx hb dXT_totalBelow_13 rfl (lv_at hl 0 rfl) ?_
      refine vp_callSl (W.runS (As := [va_rf r]) (rest := []) ⟨hx, hb, hml, hown, hts⟩ (c_totalOf l g _ LP nf hp r (mt_rep_mem hr0)) (va_cwS 1 hts (mt_giS mw_104 mw_105 mw_1 (mt_gi mw_106)) rfl rfl rfl (by decide +kernel) ⟨Nat.le_of_ble_eq_true rfl, Nat.le_of_ble_eq_true rfl⟩) (mt_preS hE hz hS hP hD) rfl rfl hl.1 rfl (lv_room (Nat.le_of_ble_eq_true rfl)) dXT_totalBelow_14 ⟨Nat.zero_le _, Nat.zero_le _⟩) (fun z1 e1 => ?_)
      subst e1
      have e0 : mt_cl bd = 256 := by unfold mt_cl; rw [if_neg (Int32.not_le.mpr c1), if_pos (Int32.not_lt.mp c2)]
      exact W.lret (v := (mt_to nf r)) hx hb hr (fun t9 ht hW => ⟨(mt_to nf r), rfl, by rw [e0]; exact (mt_rep_sz hr0).2, ht⟩) t_nil dXT_totalBelow_17
  · refine lv_lconst (v := 0) hx hb dXT_totalBelow_4 (by decide +kernel) ?_
    have e0 : mt_cl bd = 0 := if_pos (Int32.not_lt.mp c1)
    exact W.lret (v := 0) hx hb hr (fun t9 ht hW => ⟨0, rfl, by rw [e0]; rfl, ht⟩) t_nil dXT_totalBelow_5
