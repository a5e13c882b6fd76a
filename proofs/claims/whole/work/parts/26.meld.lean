set_option maxHeartbeats 4000000 in
set_option maxRecDepth 100000 in
/-- meld at height 0 -/
theorem c_meld0 (l : Launch) (g : mt_G) (c0 c1 c2 c3 c4 c5 : Nat × va_E) (al n cap : Nat) (LL : va_W) (LP : List Nat) (nf : Nat → mt_N) (hLL : mt_LL g al LP n cap LL) (hlc : mt_lc n cap) (hn5 : n < 4980) (hok : ∀ a, a ∈ LP → mt_ok LP nf a) (k : Nat) (hk : k < 256) (lf : Option Nat) (t tv tw : mt_T) (v w : Option Nat) (hv0 : mt_rep LP nf tv 0 (k / 2 ^ 0 * 2 ^ 0) v) (hw0 : mt_rep LP nf tw 0 (k / 2 ^ 0 * 2 ^ 0) w) (hlo : ∀ j, k / 2 ^ 0 * 2 ^ 0 ≤ j → j < k → t j = tv j) (hhi : ∀ j, k < j → j < k / 2 ^ 0 * 2 ^ 0 + 2 ^ 0 → t j = tw j) (hlf : mt_rep LP nf t 0 k lf) : Met l yXT_meld wsXT_meld ({ frames := 0 + 12, cells := 2 * mt_na t k 0, slots := 7 * mt_na t k 0 + mt_gr n cap (mt_na t k 0), locals := 28 * 0 + 400 }) (mt_Pc g (mt_LW c0 c1 c2 c3 c4 c5 LL LP nf) [va_rf v, va_rf w, .int (nI 0), .int (nI k), va_rf lf, .ref al]) (va_Qq (fun r (q : va_W × List Nat × (Nat → mt_N)) => mt_LL g al q.2.1 (n + mt_na t k 0) (mt_cap n cap (mt_na t k 0)) q.1 ∧ (∀ a, a ∈ LP → a ∈ q.2.1 ∧ q.2.2 a = nf a) ∧ (∀ a, a ∈ q.2.1 → mt_ok q.2.1 q.2.2 a) ∧ mt_rep q.2.1 q.2.2 t 0 (k / 2 ^ 0 * 2 ^ 0) r) (fun q t => mt_B g (mt_LW c0 c1 c2 c3 c4 c5 q.1 q.2.1 q.2.2) t) (mt_A g)) (2 * mt_na t k 0) (7 * mt_na t k 0 + mt_gr n cap (mt_na t k 0)) (mt_A g) := by
  refine Met.ofW (cc := cXT_meld) (maxL := 9) (ret := (some (.object "MeldTree$Node"))) (by decide) rfl ?_
  intro p e s m args below meth c s₁ B hml hv
  obtain ⟨rfl, hE, hz, hP, hD⟩ := hv
  have hx := B.exec
  have hb := B.bytes
  have hr := B.returns
  have hts := atoms_spec (ws := wsXT_meld) B.pre
  have hown : s.vm.findClass RXT = some m.cls := findClass_of_methodNamed B.named
  have hlocks := B.notSynchronized
  have hK := hE.k
  have hA : ∀ q : Nat, s.heap.size ≤ q → mt_A g q := fun q h => Nat.le_trans hz h
  have hS : va_S (mt_A g) s.heap s.heap [] := va_S.rf
  have hl := lv_entry ([va_rf v, va_rf w, .int (nI 0), .int (nI k), va_rf lf, .ref al]) (n := 9) (by rw [qa_sl1 (qa_cat _), qa_sl1 (qa_cat _), qa_sl1 (qa_ci _), qa_sl1 (qa_ci _), qa_sl1 (qa_cat _), qa_sl1 (qa_cr _), qa_sl0]; exact Nat.le_of_ble_eq_true rfl)
  rw [lg_entry_eq]
  generalize (lg_sl ([va_rf v, va_rf w, .int (nI 0), .int (nI k), va_rf lf, .ref al]) ++ List.replicate (9 - (lg_sl ([va_rf v, va_rf w, .int (nI 0), .int (nI k), va_rf lf, .ref al])).length) Slot.unset).toArray = ls at hl ⊢
  have hl : lv_has ls 9 [(0, va_rf v), (1, va_rf w), (2, .int (nI 0)), (3, .int (nI k)), (4, va_rf lf), (5, .ref al)] := by rw [qa_ar1 (qa_cat _), qa_ar1 (qa_cat _), qa_ar1 (qa_ci _), qa_ar1 (qa_ci _), qa_ar1 (qa_cat _), qa_ar1 (qa_cr _)] at hl; exact hl
  have hH : s.heap = s.heap := rfl
  refine lv_iload_n hx hb dXT_meld_0 rfl (lv_at hl 2 rfl) ?_
  refine lv_if_gt (tgt := 7) hx hb dXT_meld_1 (by decide) (fun z => absurd z (show ¬ 0 < nI 0 by decide)) (fun _ => ?_)
  refine qa_aload hx hb dXT_meld_4 (lv_at hl 4 rfl) ?_
  exact W.aret hx hb hr (Or.inl ⟨_, rfl⟩) (va_rf_or _) (fun t1 ht hW => ⟨⟨lf, (LL, LP, nf), rfl, ⟨hLL, fun _ h9 => ⟨h9, rfl⟩, hok, by rw [mt_base0]; exact hlf⟩, by rw [ht]; exact hP, hD⟩, hS.F ht⟩) hS.2.2 dXT_meld_6
set_option maxHeartbeats 4000000 in
set_option maxRecDepth 100000 in
/-- meld, one level -/
theorem c_meldS (l : Launch) (g : mt_G) (c0 c1 c2 c3 c4 c5 : Nat × va_E) (al n cap : Nat) (LL : va_W) (LP : List Nat) (nf : Nat → mt_N) (hLL : mt_LL g al LP n cap LL) (hlc : mt_lc n cap) (hn5 : n < 4980) (hok : ∀ a, a ∈ LP → mt_ok LP nf a) (k : Nat) (hk : k < 256) (lf : Option Nat) (t : mt_T) (h : Nat) (hh : h < 8) (ih : ∀ (v w : Option Nat) (tv tw : mt_T) (hv0 : mt_rep LP nf tv h (k / 2 ^ h * 2 ^ h) v) (hw0 : mt_rep LP nf tw h (k / 2 ^ h * 2 ^ h) w) (hlo : ∀ j, k / 2 ^ h * 2 ^ h ≤ j → j < k → t j = tv j) (hhi : ∀ j, k < j → j < k / 2 ^ h * 2 ^ h + 2 ^ h → t j = tw j) (hlf : mt_rep LP nf t 0 k lf), Met l yXT_meld wsXT_meld ({ frames := h + 12, cells := 2 * mt_na t k h, slots := 7 * mt_na t k h + mt_gr n cap (mt_na t k h), locals := 28 * h + 400 }) (mt_Pc g (mt_LW c0 c1 c2 c3 c4 c5 LL LP nf) [va_rf v, va_rf w, .int (nI h), .int (nI k), va_rf lf, .ref al]) (va_Qq (fun r (q : va_W × List Nat × (Nat → mt_N)) => mt_LL g al q.2.1 (n + mt_na t k h) (mt_cap n cap (mt_na t k h)) q.1 ∧ (∀ a, a ∈ LP → a ∈ q.2.1 ∧ q.2.2 a = nf a) ∧ (∀ a, a ∈ q.2.1 → mt_ok q.2.1 q.2.2 a) ∧ mt_rep q.2.1 q.2.2 t h (k / 2 ^ h * 2 ^ h) r) (fun q t => mt_B g (mt_LW c0 c1 c2 c3 c4 c5 q.1 q.2.1 q.2.2) t) (mt_A g)) (2 * mt_na t k h) (7 * mt_na t k h + mt_gr n cap (mt_na t k h)) (mt_A g)) (v w : Option Nat) (tv tw : mt_T) (hv0 : mt_rep LP nf tv (h + 1) (k / 2 ^ (h + 1) * 2 ^ (h + 1)) v) (hw0 : mt_rep LP nf tw (h + 1) (k / 2 ^ (h + 1) * 2 ^ (h + 1)) w) (hlo : ∀ j, k / 2 ^ (h + 1) * 2 ^ (h + 1) ≤ j → j < k → t j = tv j) (hhi : ∀ j, k < j → j < k / 2 ^ (h + 1) * 2 ^ (h + 1) + 2 ^ (h + 1) → t j = tw j) (hlf : mt_rep LP nf t 0 k lf) : Met l yXT_meld wsXT_meld ({ frames := (h + 1) + 12, cells := 2 * mt_na t k (h + 1), slots := 7 * mt_na t k (h + 1) + mt_gr n cap (mt_na t k (h + 1)), locals := 28 * (h + 1) + 400 }) (mt_Pc g (mt_LW c0 c1 c2 c3 c4 c5 LL LP nf) [va_rf v, va_rf w, .int (nI (h + 1)), .int (nI k), va_rf lf, .ref al]) (va_Qq (fun r (q : va_W × List Nat × (Nat → mt_N)) => mt_LL g al q.2.1 (n + mt_na t k (h + 1)) (mt_cap n cap (mt_na t k (h + 1))) q.1 ∧ (∀ a, a ∈ LP → a ∈ q.2.1 ∧ q.2.2 a = nf a) ∧ (∀ a, a ∈ q.2.1 → mt_ok q.2.1 q.2.2 a) ∧ mt_rep q.2.1 q.2.2 t (h + 1) (k / 2 ^ (h + 1) * 2 ^ (h + 1)) r) (fun q t => mt_B g (mt_LW c0 c1 c2 c3 c4 c5 q.1 q.2.1 q.2.2) t) (mt_A g)) (2 * mt_na t k (h + 1)) (7 * mt_na t k (h + 1) + mt_gr n cap (mt_na t k (h + 1))) (mt_A g) := by
  refine Met.ofW (cc := cXT_meld) (maxL := 9) (ret := (some (.object "MeldTree$Node"))) (by decide) rfl ?_
  intro p e s m args below meth c s₁ B hml hv
  obtain ⟨rfl, hE, hz, hP, hD⟩ := hv
  have hx := B.exec
  have hb := B.bytes
  have hr := B.returns
  have hts := atoms_spec (ws := wsXT_meld) B.pre
  have hown : s.vm.findClass RXT = some m.cls := findClass_of_methodNamed B.named
  have hlocks := B.notSynchronized
  have hK := hE.k
  have hA : ∀ q : Nat, s.heap.size ≤ q → mt_A g q := fun q h => Nat.le_trans hz h
  have hS : va_S (mt_A g) s.heap s.heap [] := va_S.rf
  have hl := lv_entry ([va_rf v, va_rf w, .int (nI (h + 1)), .int (nI k), va_rf lf, .ref al]) (n := 9) (by rw [qa_sl1 (qa_cat _), qa_sl1 (qa_cat _), qa_sl1 (qa_ci _), qa_sl1 (qa_ci _), qa_sl1 (qa_cat _), qa_sl1 (qa_cr _), qa_sl0]; exact Nat.le_of_ble_eq_true rfl)
  rw [lg_entry_eq]
  generalize (lg_sl ([va_rf v, va_rf w, .int (nI (h + 1)), .int (nI k), va_rf lf, .ref al]) ++ List.replicate (9 - (lg_sl ([va_rf v, va_rf w, .int (nI (h + 1)), .int (nI k), va_rf lf, .ref al])).length) Slot.unset).toArray = ls at hl ⊢
  have hl : lv_has ls 9 [(0, va_rf v), (1, va_rf w), (2, .int (nI (h + 1))), (3, .int (nI k)), (4, va_rf lf), (5, .ref al)] := by rw [qa_ar1 (qa_cat _), qa_ar1 (qa_cat _), qa_ar1 (qa_ci _), qa_ar1 (qa_ci _), qa_ar1 (qa_cat _), qa_ar1 (qa_cr _)] at hl; exact hl
  have hH : s.heap = s.heap := rfl
  refine lv_iload_n hx hb dXT_meld_0 rfl (lv_at hl 2 rfl) ?_
  refine lv_if_gt (tgt := 7) hx hb dXT_meld_1 (by decide) (fun _ => ?_) (fun z => absurd (show 0 < nI (h + 1) from nI_lt (a := 0) (by omega) (by omega)) z)
  obtain ⟨d1, d2⟩ := mt_rep_down hv0
  obtain ⟨d3, d4⟩ := mt_rep_down hw0
  have hb2 := mt_base k h
  have e3 := mt_two h
  have hin2 := mt_in k h
  have hin3 := mt_in k (h + 1)
  have hp : mt_pool (mt_LW c0 c1 c2 c3 c4 c5 LL LP nf) LP nf := mt_LW_pool
  have hnale := mt_na_le t k h
  refine lv_iload_n hx hb dXT_meld_7 rfl (lv_at hl 3 rfl) ?_
  refine lv_iload_n hx hb dXT_meld_8 rfl (lv_at hl 2 rfl) ?_
  refine vp_callSi (W.runS (As := [.int (nI k), .int (nI (h + 1))]) (rest := []) ⟨hx, hb, hml, hown, hts⟩ (c_goesHigh l g _ (k := k) (h := h) hk hh) (va_cwS 2 hts (mt_giS mw_274 mw_275 mw_1 (mt_gi mw_276)) rfl rfl rfl (by decide +kernel) ⟨by show 0 + 1 ≤ h + 1 + 12; omega, by show 8 + (2 + 11) + 0 ≤ 28 * (h + 1) + 400; omega⟩) (mt_preS hE hz hS hP hD) rfl rfl hl.1 rfl (lv_room (Nat.le_of_ble_eq_true rfl)) dXT_meld_9 ⟨Nat.zero_le _, Nat.zero_le _⟩) (fun z1 e1 => ?_)
  subst e1
  have h2 : k / 2 ^ h % 2 = 0 ∨ k / 2 ^ h % 2 = 1 := by omega
  rcases h2 with h2 | h2
  · refine qa_i (y := nI 0) (by rw [h2]) ?_
    refine lv_if_eq (tgt := 45) hx hb dXT_meld_12 (by decide) (fun _ => ?_) (fun z => absurd (show nI 0 = 0 by decide) z)
    rw [h2, Nat.zero_mul, Nat.add_zero] at hb2
    refine qa_aload_n hx hb dXT_meld_45 rfl (lv_at hl 0 rfl) ?_
    refine va_csq (W.runS (As := [va_rf v]) (rest := []) ⟨hx, hb, hml, hown, hts⟩ (c_lowOf l g _ LP nf hp v (mt_rep_mem hv0)) (va_cwS 1 hts (mt_giS mw_277 mw_278 mw_1 (mt_gi mw_279)) rfl rfl rfl (by decide +kernel) ⟨by show 0 + 1 ≤ h + 1 + 12; omega, by show 8 + (1 + 11) + 0 ≤ 28 * (h + 1) + 400; omega⟩) (mt_preS hE hz hS hP hD) rfl rfl hl.1 rfl (lv_room (Nat.le_of_ble_eq_true rfl)) dXT_meld_46 ⟨Nat.zero_le _, Nat.zero_le _⟩) (fun z1 e1 => ?_)
    subst e1
    refine qa_aload_n hx hb dXT_meld_49 rfl (lv_at hl 1 rfl) ?_
    refine va_csq (W.runS (As := [va_rf w]) (rest := [va_rf (mt_lo nf v)]) ⟨hx, hb, hml, hown, hts⟩ (c_lowOf l g _ LP nf hp w (mt_rep_mem hw0)) (va_cwS 1 hts (mt_giS mw_277 mw_278 mw_1 (mt_gi mw_279)) rfl rfl rfl (by decide +kernel) ⟨by show 0 + 1 ≤ h + 1 + 12; omega, by show 8 + (1 + 11) + 0 ≤ 28 * (h + 1) + 400; omega⟩) (mt_preS hE hz hS hP hD) rfl rfl hl.1 rfl (lv_room (by simp only [List.map_cons, List.map_nil, List.sum_cons, List.sum_nil, qa_cat, qa_ci, qa_cl, qa_cr, qa_cn]; exact Nat.le_of_ble_eq_true rfl)) dXT_meld_50 ⟨Nat.zero_le _, Nat.zero_le _⟩) (fun z1 e1 => ?_)
    subst e1
    refine lv_iload_n hx hb dXT_meld_53 rfl (lv_at hl 2 rfl) ?_
    refine lv_iconst (v := 1) hx hb dXT_meld_54 (by decide +kernel) ?_
    refine lv_isub hx hb dXT_meld_55 ?_
    refine qa_i (y := (nI h)) (nI_pred h) ?_
    refine lv_iload_n hx hb dXT_meld_56 rfl (lv_at hl 3 rfl) ?_
    refine qa_aload hx hb dXT_meld_57 (lv_at hl 4 rfl) ?_
    refine lv_aload hx hb dXT_meld_59 (lv_at hl 5 rfl) ?_
    refine va_callq (va_runS (As := [va_rf (mt_lo nf v), va_rf (mt_lo nf w), .int (nI h), .int (nI k), va_rf lf, .ref al]) (rest := []) ⟨hx, hb, hml, hown, hts⟩ (ih (mt_lo nf v) (mt_lo nf w) tv tw (by rw [hb2]; exact d1) (by rw [hb2]; exact d3) (fun j h8 h9 => hlo j (by omega) h9) (fun j h8 h9 => hhi j h8 (by omega)) hlf) (va_cwS 6 hts (mt_giS mw_271 mw_272 mw_1 (mt_gi mw_273)) rfl rfl rfl (by decide +kernel) ⟨by show h + 12 + 1 ≤ h + 1 + 12; omega, by show 8 + (9 + 11) + (28 * h + 400) ≤ 28 * (h + 1) + 400; omega⟩) (mt_preS hE hz hS hP hD) rfl rfl hl.1 rfl (lv_room (Nat.le_of_ble_eq_true rfl)) dXT_meld_61 ⟨by show 0 + 2 * mt_na t k h ≤ 2 * mt_na t k (h + 1); rw [mt_na_succ]; omega, by show 0 + (7 * mt_na t k h + mt_gr n cap (mt_na t k h)) ≤ 7 * mt_na t k (h + 1) + mt_gr n cap (mt_na t k (h + 1)); exact mt_ms_mono t k h n cap⟩) hS (fun _ _ h9 => h9) (fun _ h9 => h9) (fun r1 u1 t1 H locs ht1 hvm1 hpo1 hB1 hz1 hk1 hS => ?_)
    obtain ⟨LL1, LP1, nf1⟩ := u1
    obtain ⟨hLL1, hkp, hok1, hr1⟩ := hpo1
    obtain ⟨hP, hD⟩ := hB1
    rw [ht1] at hP
    dsimp only at hLL1 hkp hok1 hr1 hP hD
    refine qa_astore (i := 6) (lv' := [(6, va_rf r1), (0, va_rf v), (1, va_rf w), (2, .int (nI (h + 1))), (3, .int (nI k)), (4, va_rf lf), (5, .ref al)]) hx hb dXT_meld_64 hl (by decide) (by simp [List.filter, qa_cat, qa_ci, qa_cl, qa_cr, qa_cn]) (fun ls hl => ?_)
    refine qa_aload_n hx hb dXT_meld_66 rfl (lv_at hl 2 rfl) ?_
    have hp1 : mt_pool (mt_LW c0 c1 c2 c3 c4 c5 LL1 LP1 nf1) LP1 nf1 := mt_LW_pool
    have hw1 := mt_rep_keep hkp hw0
    refine va_csq (W.runS (As := [va_rf w]) (rest := []) ⟨hx, hb, hml, hown, hts⟩ (c_highOf l g _ LP1 nf1 hp1 w (mt_rep_mem hw1)) (va_cwS 1 hts (mt_giS mw_280 mw_281 mw_1 (mt_gi mw_282)) rfl rfl rfl (by decide +kernel) ⟨by show 0 + 1 ≤ h + 1 + 12; omega, by show 8 + (1 + 11) + 0 ≤ 28 * (h + 1) + 400; omega⟩) (mt_preS hE hz hS hP hD) rfl rfl hl.1 rfl (lv_room (Nat.le_of_ble_eq_true rfl)) dXT_meld_67 ⟨by show 0 + 2 * mt_na t k h + 0 ≤ 2 * mt_na t k (h + 1); rw [mt_na_succ]; omega, by have := mt_ms_mono t k h n cap; show 0 + (7 * mt_na t k h + mt_gr n cap (mt_na t k h)) + 0 ≤ 7 * mt_na t k (h + 1) + mt_gr n cap (mt_na t k (h + 1)); omega⟩) (fun z1 e1 => ?_)
    subst e1
    obtain ⟨d5, d6⟩ := mt_rep_down hw1
    have hlo1 : mt_rep LP1 nf1 t h (k / 2 ^ (h + 1) * 2 ^ (h + 1)) r1 := by rw [← hb2]; exact hr1
    have hhi1 : mt_rep LP1 nf1 t h (k / 2 ^ (h + 1) * 2 ^ (h + 1) + 2 ^ h) (mt_hi nf1 w) := mt_rep_ext (fun y hy => hhi _ (by omega) (by omega)) d6
    refine qa_astore (i := 7) (lv' := [(7, va_rf (mt_hi nf1 w)), (6, va_rf r1), (0, va_rf v), (1, va_rf w), (2, .int (nI (h + 1))), (3, .int (nI k)), (4, va_rf lf), (5, .ref al)]) hx hb dXT_meld_70 hl (by decide) (by simp [List.filter, qa_cat, qa_ci, qa_cl, qa_cr, qa_cn]) (fun ls hl => ?_)
    generalize hge : mt_hi nf1 w = hi at hlo1 hhi1 hl ⊢
    refine qa_aload hx hb dXT_meld_72 (lv_at hl 1 rfl) ?_
    refine qa_ifnonnull (tgt := 84) hx hb dXT_meld_74 (by decide) (fun xa hcx1 => ?_) (fun hcx1 => ?_)
    · have hne : ¬ (r1 = none ∧ hi = none) := fun h9 => by rw [hcx1] at h9; cases h9.1
      have hcn0 : mt_c t (k / 2 ^ (h + 1) * 2 ^ (h + 1)) (2 ^ (h + 1)) ≠ 0 := mt_fork_ne hlo1 hhi1 hne
      have hna : mt_na t k (h + 1) = mt_na t k h + 1 := by rw [mt_na_succ, if_neg hcn0]
      refine va_new (ci := 0) (fs := [.int 0, .int 0, .null, .null, .int 0, .int 0, .long 0]) (C := RXN) (T := TXN) (N := 7) hx hb hts (fun w h => List.mem_cons_of_mem _ (in_XN w h)) tyXN tyXN_ok hown (hts _ (List.mem_cons_of_mem _ mw_27)) (hts _ (List.mem_cons_of_mem _ mw_195)) (hts _ (List.mem_cons_of_mem _ mw_11)) hK hP hD hS hA rfl (fun j hj => by rcases (show j = 0 ∨ j = 1 ∨ j = 2 ∨ j = 3 ∨ j = 4 ∨ j = 5 ∨ j = 6 by omega) with rfl | rfl | rfl | rfl | rfl | rfl | rfl <;> rfl) (by show 0 + 2 * mt_na t k h + 1 ≤ 2 * mt_na t k (h + 1); omega) (by show 0 + (7 * mt_na t k h + mt_gr n cap (mt_na t k h)) + 7 ≤ 7 * mt_na t k (h + 1) + mt_gr n cap (mt_na t k (h + 1)); rw [hna]; show _ ≤ _ + (mt_gr n cap (mt_na t k h) + _); omega) dXT_meld_84 (fun q H hP hD hS => ?_)
      refine lv_dup hx hb dXT_meld_87 rfl ?_
      refine lv_iload_n hx hb dXT_meld_88 rfl (lv_at hl 4 rfl) ?_
      refine lv_iload_n hx hb dXT_meld_89 rfl (lv_at hl 5 rfl) ?_
      refine qa_aload hx hb dXT_meld_90 (lv_at hl 1 rfl) ?_
      refine qa_aload hx hb dXT_meld_92 (lv_at hl 0 rfl) ?_
      have hp1 : mt_pool (mt_LW c0 c1 c2 c3 c4 c5 LL1 LP1 nf1) LP1 nf1 := mt_LW_pool
      refine va_callv (va_runIN (As := [.int (nI (h + 1)), .int (nI k), va_rf r1, va_rf hi]) (rest := [.ref q]) ⟨hx, hb, hml, hown, hts⟩ (c_fork l g _ LP1 nf1 hp1 q (nI (h + 1)) (nI k) r1 hi (mt_rep_mem hlo1) (mt_rep_mem hhi1)) ⟨va_cnB 4 hts (mt_gi mw_284) rfl rfl rfl (hE.w (.methodLinkNest RXT 131 yXN_init_2 "MeldTree") (by decide +kernel)) (hts _ (List.mem_cons_of_mem _ mw_11)) (by decide +kernel) ⟨by show 1 + 1 ≤ h + 1 + 12; omega, by show 8 + (5 + 11) + 20 ≤ 28 * (h + 1) + 400; omega⟩, rfl, hts _ (List.mem_cons_of_mem _ mw_283)⟩ (mt_preS hE hz hS hP hD) rfl rfl hl.1 rfl (lv_room (Nat.le_of_ble_eq_true rfl)) dXT_meld_94 ⟨by show 0 + 2 * mt_na t k h + 1 + 0 ≤ 2 * mt_na t k (h + 1); omega, by show 0 + (7 * mt_na t k h + mt_gr n cap (mt_na t k h)) + 7 + 0 ≤ 7 * mt_na t k (h + 1) + mt_gr n cap (mt_na t k (h + 1)); rw [hna]; show _ ≤ _ + (mt_gr n cap (mt_na t k h) + _); omega⟩) hS (fun _ _ h9 => h9) (fun _ h9 => h9) (fun u2 t2 H locs ht2 hvm2 _ hB2 hz2 hk2 hS => ?_)
      obtain ⟨hP, hD⟩ := hB2
      rw [ht2] at hP
      rw [mt_first hk (by omega)] at hP hD
      obtain ⟨hP, hD, hq1⟩ := mt_LW_push hP hD
      obtain ⟨hkp2, hok2, hrep2⟩ := mt_push_fork (q := q) hq1 hk hh hok1 hlo1 hhi1 hne
      generalize hnf2 : va_up nf1 q (nI (h + 1), nI (k / 2 ^ (h + 1) * 2 ^ (h + 1)), r1, hi, 0, mt_sz nf1 r1 + mt_sz nf1 hi, mt_to nf1 r1 + mt_to nf1 hi) = nf2 at hP hD hkp2 hok2 hrep2
      refine lv_astore (i := 8) (lv' := [(8, .ref q), (7, va_rf hi), (6, va_rf r1), (0, va_rf v), (1, va_rf w), (2, .int (nI (h + 1))), (3, .int (nI k)), (4, va_rf lf), (5, .ref al)]) hx hb dXT_meld_97 hl (by decide) (by simp [List.filter, qa_cat, qa_ci, qa_cl, qa_cr, qa_cn]) (fun ls hl => ?_)
      refine lv_aload hx hb dXT_meld_99 (lv_at hl 8 rfl) ?_
      refine lv_aload hx hb dXT_meld_101 (lv_at hl 0 rfl) ?_
      have hLL2 := mt_LL_more (L2 := LP1 ++ [q]) (fun a h9 => List.mem_append_left _ h9) hLL1
      obtain ⟨hlcj, hgj, hcj⟩ := mt_lcj hlc (mt_na t k h)
      have hrcv := mt_LL_recv hLL2 hK hP
      refine va_calli (va_runV (As := [.ref q]) (rest := []) ⟨hx, hb, hml, hown, hts⟩ (c_add l g c0 c1 c2 c3 c4 c5 al (n + mt_na t k h) (mt_cap n cap (mt_na t k h)) LL1 (LP1 ++ [q]) nf2 hLL2 hlcj (by omega) q (by simp)) (cwV 1 hts (mt_giV mw_221 mw_222 mw_223 mw_4 (mt_gi mw_224)) rfl rfl rfl (by decide +kernel) ⟨by show 10 + 1 ≤ h + 1 + 12; omega, by show 8 + (2 + 11) + 300 ≤ 28 * (h + 1) + 400; omega⟩) (mt_preV hE hz hS hP hD hrcv) rfl rfl hl.1 rfl (lv_room (Nat.le_of_ble_eq_true rfl)) dXT_meld_103 ⟨by show 0 + 2 * mt_na t k h + 1 + 0 + 1 ≤ 2 * mt_na t k (h + 1); omega, by show 0 + (7 * mt_na t k h + mt_gr n cap (mt_na t k h)) + 7 + 0 + mt_gr1 (n + mt_na t k h) (mt_cap n cap (mt_na t k h)) ≤ 7 * mt_na t k (h + 1) + mt_gr n cap (mt_na t k (h + 1)); rw [hna]; show _ ≤ _ + (mt_gr n cap (mt_na t k h) + _); omega⟩) hS (fun _ _ h9 => h9) (fun _ h9 => h9) (fun r3 LL3 t3 H locs ht3 hvm3 hpo3 hB3 hz3 hk3 hS => ?_)
      obtain ⟨rfl, hLL3⟩ := hpo3
      obtain ⟨hP, hD⟩ := hB3
      rw [ht3] at hP
      refine lv_pop hx hb dXT_meld_106 rfl ?_
      refine lv_aload hx hb dXT_meld_107 (lv_at hl 0 rfl) ?_
      refine W.widen (k := 2 * mt_na t k (h + 1)) (n := 7 * mt_na t k (h + 1) + mt_gr n cap (mt_na t k (h + 1))) (by show 0 + 2 * mt_na t k h + 1 + 0 + 1 ≤ 2 * mt_na t k (h + 1); omega) (by show 0 + (7 * mt_na t k h + mt_gr n cap (mt_na t k h)) + 7 + 0 + mt_gr1 (n + mt_na t k h) (mt_cap n cap (mt_na t k h)) ≤ 7 * mt_na t k (h + 1) + mt_gr n cap (mt_na t k (h + 1)); rw [hna]; show _ ≤ _ + (mt_gr n cap (mt_na t k h) + _); omega) ?_
      exact W.aret hx hb hr (Or.inl ⟨_, rfl⟩) (Or.inr ⟨_, rfl⟩) (fun t4 ht hW => ⟨⟨some q, (LL3, LP1 ++ [q], nf2), rfl, ⟨by rw [hna]; exact hLL3, fun a h9 => ⟨(hkp2 a (hkp a h9).1).1, (hkp2 a (hkp a h9).1).2.trans (hkp a h9).2⟩, hok2, hrep2⟩, by rw [ht]; exact hP, hD⟩, hS.F ht⟩) hS.2.2 dXT_meld_109
    · refine qa_aload hx hb dXT_meld_77 (lv_at hl 0 rfl) ?_
      refine qa_ifnonnull (tgt := 84) hx hb dXT_meld_79 (by decide) (fun xb hcx2 => ?_) (fun hcx2 => ?_)
      · have hne : ¬ (r1 = none ∧ hi = none) := fun h9 => by rw [hcx2] at h9; cases h9.2
        have hcn0 : mt_c t (k / 2 ^ (h + 1) * 2 ^ (h + 1)) (2 ^ (h + 1)) ≠ 0 := mt_fork_ne hlo1 hhi1 hne
        have hna : mt_na t k (h + 1) = mt_na t k h + 1 := by rw [mt_na_succ, if_neg hcn0]
        refine va_new (ci := 0) (fs := [.int 0, .int 0, .null, .null, .int 0, .int 0, .long 0]) (C := RXN) (T := TXN) (N := 7) hx hb hts (fun w h => List.mem_cons_of_mem _ (in_XN w h)) tyXN tyXN_ok hown (hts _ (List.mem_cons_of_mem _ mw_27)) (hts _ (List.mem_cons_of_mem _ mw_195)) (hts _ (List.mem_cons_of_mem _ mw_11)) hK hP hD hS hA rfl (fun j hj => by rcases (show j = 0 ∨ j = 1 ∨ j = 2 ∨ j = 3 ∨ j = 4 ∨ j = 5 ∨ j = 6 by omega) with rfl | rfl | rfl | rfl | rfl | rfl | rfl <;> rfl) (by show 0 + 2 * mt_na t k h + 1 ≤ 2 * mt_na t k (h + 1); omega) (by show 0 + (7 * mt_na t k h + mt_gr n cap (mt_na t k h)) + 7 ≤ 7 * mt_na t k (h + 1) + mt_gr n cap (mt_na t k (h + 1)); rw [hna]; show _ ≤ _ + (mt_gr n cap (mt_na t k h) + _); omega) dXT_meld_84 (fun q H hP hD hS => ?_)
        refine lv_dup hx hb dXT_meld_87 rfl ?_
        refine lv_iload_n hx hb dXT_meld_88 rfl (lv_at hl 4 rfl) ?_
        refine lv_iload_n hx hb dXT_meld_89 rfl (lv_at hl 5 rfl) ?_
        refine qa_aload hx hb dXT_meld_90 (lv_at hl 1 rfl) ?_
        refine qa_aload hx hb dXT_meld_92 (lv_at hl 0 rfl) ?_
        have hp1 : mt_pool (mt_LW c0 c1 c2 c3 c4 c5 LL1 LP1 nf1) LP1 nf1 := mt_LW_pool
        refine va_callv (va_runIN (As := [.int (nI (h + 1)), .int (nI k), va_rf r1, va_rf hi]) (rest := [.ref q]) ⟨hx, hb, hml, hown, hts⟩ (c_fork l g _ LP1 nf1 hp1 q (nI (h + 1)) (nI k) r1 hi (mt_rep_mem hlo1) (mt_rep_mem hhi1)) ⟨va_cnB 4 hts (mt_gi mw_284) rfl rfl rfl (hE.w (.methodLinkNest RXT 131 yXN_init_2 "MeldTree") (by decide +kernel)) (hts _ (List.mem_cons_of_mem _ mw_11)) (by decide +kernel) ⟨by show 1 + 1 ≤ h + 1 + 12; omega, by show 8 + (5 + 11) + 20 ≤ 28 * (h + 1) + 400; omega⟩, rfl, hts _ (List.mem_cons_of_mem _ mw_283)⟩ (mt_preS hE hz hS hP hD) rfl rfl hl.1 rfl (lv_room (Nat.le_of_ble_eq_true rfl)) dXT_meld_94 ⟨by show 0 + 2 * mt_na t k h + 1 + 0 ≤ 2 * mt_na t k (h + 1); omega, by show 0 + (7 * mt_na t k h + mt_gr n cap (mt_na t k h)) + 7 + 0 ≤ 7 * mt_na t k (h + 1) + mt_gr n cap (mt_na t k (h + 1)); rw [hna]; show _ ≤ _ + (mt_gr n cap (mt_na t k h) + _); omega⟩) hS (fun _ _ h9 => h9) (fun _ h9 => h9) (fun u2 t2 H locs ht2 hvm2 _ hB2 hz2 hk2 hS => ?_)
        obtain ⟨hP, hD⟩ := hB2
        rw [ht2] at hP
        rw [mt_first hk (by omega)] at hP hD
        obtain ⟨hP, hD, hq1⟩ := mt_LW_push hP hD
        obtain ⟨hkp2, hok2, hrep2⟩ := mt_push_fork (q := q) hq1 hk hh hok1 hlo1 hhi1 hne
        generalize hnf2 : va_up nf1 q (nI (h + 1), nI (k / 2 ^ (h + 1) * 2 ^ (h + 1)), r1, hi, 0, mt_sz nf1 r1 + mt_sz nf1 hi, mt_to nf1 r1 + mt_to nf1 hi) = nf2 at hP hD hkp2 hok2 hrep2
        refine lv_astore (i := 8) (lv' := [(8, .ref q), (7, va_rf hi), (6, va_rf r1), (0, va_rf v), (1, va_rf w), (2, .int (nI (h + 1))), (3, .int (nI k)), (4, va_rf lf), (5, .ref al)]) hx hb dXT_meld_97 hl (by decide) (by simp [List.filter, qa_cat, qa_ci, qa_cl, qa_cr, qa_cn]) (fun ls hl => ?_)
        refine lv_aload hx hb dXT_meld_99 (lv_at hl 8 rfl) ?_
        refine lv_aload hx hb dXT_meld_101 (lv_at hl 0 rfl) ?_
        have hLL2 := mt_LL_more (L2 := LP1 ++ [q]) (fun a h9 => List.mem_append_left _ h9) hLL1
        obtain ⟨hlcj, hgj, hcj⟩ := mt_lcj hlc (mt_na t k h)
        have hrcv := mt_LL_recv hLL2 hK hP
        refine va_calli (va_runV (As := [.ref q]) (rest := []) ⟨hx, hb, hml, hown, hts⟩ (c_add l g c0 c1 c2 c3 c4 c5 al (n + mt_na t k h) (mt_cap n cap (mt_na t k h)) LL1 (LP1 ++ [q]) nf2 hLL2 hlcj (by omega) q (by simp)) (cwV 1 hts (mt_giV mw_221 mw_222 mw_223 mw_4 (mt_gi mw_224)) rfl rfl rfl (by decide +kernel) ⟨by show 10 + 1 ≤ h + 1 + 12; omega, by show 8 + (2 + 11) + 300 ≤ 28 * (h + 1) + 400; omega⟩) (mt_preV hE hz hS hP hD hrcv) rfl rfl hl.1 rfl (lv_room (Nat.le_of_ble_eq_true rfl)) dXT_meld_103 ⟨by show 0 + 2 * mt_na t k h + 1 + 0 + 1 ≤ 2 * mt_na t k (h + 1); omega, by show 0 + (7 * mt_na t k h + mt_gr n cap (mt_na t k h)) + 7 + 0 + mt_gr1 (n + mt_na t k h) (mt_cap n cap (mt_na t k h)) ≤ 7 * mt_na t k (h + 1) + mt_gr n cap (mt_na t k (h + 1)); rw [hna]; show _ ≤ _ + (mt_gr n cap (mt_na t k h) + _); omega⟩) hS (fun _ _ h9 => h9) (fun _ h9 => h9) (fun r3 LL3 t3 H locs ht3 hvm3 hpo3 hB3 hz3 hk3 hS => ?_)
        obtain ⟨rfl, hLL3⟩ := hpo3
        obtain ⟨hP, hD⟩ := hB3
        rw [ht3] at hP
        refine lv_pop hx hb dXT_meld_106 rfl ?_
        refine lv_aload hx hb dXT_meld_107 (lv_at hl 0 rfl) ?_
        refine W.widen (k := 2 * mt_na t k (h + 1)) (n := 7 * mt_na t k (h + 1) + mt_gr n cap (mt_na t k (h + 1))) (by show 0 + 2 * mt_na t k h + 1 + 0 + 1 ≤ 2 * mt_na t k (h + 1); omega) (by show 0 + (7 * mt_na t k h + mt_gr n cap (mt_na t k h)) + 7 + 0 + mt_gr1 (n + mt_na t k h) (mt_cap n cap (mt_na t k h)) ≤ 7 * mt_na t k (h + 1) + mt_gr n cap (mt_na t k (h + 1)); rw [hna]; show _ ≤ _ + (mt_gr n cap (mt_na t k h) + _); omega) ?_
        exact W.aret hx hb hr (Or.inl ⟨_, rfl⟩) (Or.inr ⟨_, rfl⟩) (fun t4 ht hW => ⟨⟨some q, (LL3, LP1 ++ [q], nf2), rfl, ⟨by rw [hna]; exact hLL3, fun a h9 => ⟨(hkp2 a (hkp a h9).1).1, (hkp2 a (hkp a h9).1).2.trans (hkp a h9).2⟩, hok2, hrep2⟩, by rw [ht]; exact hP, hD⟩, hS.F ht⟩) hS.2.2 dXT_meld_109
      · have hc0 : mt_c t (k / 2 ^ (h + 1) * 2 ^ (h + 1)) (2 ^ (h + 1)) = 0 := by rw [hcx1] at hlo1; rw [hcx2] at hhi1; generalize k / 2 ^ (h + 1) * 2 ^ (h + 1) = bb at hlo1 hhi1 ⊢; rw [mt_two, mt_c_add, mt_c_none (mt_rep_none.mp hlo1), mt_c_none (mt_rep_none.mp hhi1)]
        have hna : mt_na t k (h + 1) = mt_na t k h := by rw [mt_na_succ, if_pos hc0]; rfl
        refine lv_null hx hb dXT_meld_82 ?_
        refine W.widen (k := 2 * mt_na t k (h + 1)) (n := 7 * mt_na t k (h + 1) + mt_gr n cap (mt_na t k (h + 1))) (by show 0 + 2 * mt_na t k h ≤ 2 * mt_na t k (h + 1); omega) (by show 0 + (7 * mt_na t k h + mt_gr n cap (mt_na t k h)) ≤ 7 * mt_na t k (h + 1) + mt_gr n cap (mt_na t k (h + 1)); rw [hna]; omega) ?_
        exact W.aret hx hb hr (Or.inl ⟨_, rfl⟩) (Or.inl rfl) (fun t4 ht hW => ⟨⟨none, (LL1, LP1, nf1), rfl, ⟨by rw [hna]; exact hLL1, hkp, hok1, mt_rep_none.mpr (mt_c_zero hc0)⟩, by rw [ht]; exact hP, hD⟩, hS.F ht⟩) hS.2.2 dXT_meld_83
  · refine qa_i (y := nI 1) (by rw [h2]) ?_
    refine lv_if_eq (tgt := 45) hx hb dXT_meld_12 (by decide) (fun z => absurd z (show ¬ nI 1 = 0 by decide)) (fun _ => ?_)
    rw [h2, Nat.one_mul] at hb2
    refine qa_aload_n hx hb dXT_meld_15 rfl (lv_at hl 0 rfl) ?_
    refine va_csq (W.runS (As := [va_rf v]) (rest := []) ⟨hx, hb, hml, hown, hts⟩ (c_lowOf l g _ LP nf hp v (mt_rep_mem hv0)) (va_cwS 1 hts (mt_giS mw_277 mw_278 mw_1 (mt_gi mw_279)) rfl rfl rfl (by decide +kernel) ⟨by show 0 + 1 ≤ h + 1 + 12; omega, by show 8 + (1 + 11) + 0 ≤ 28 * (h + 1) + 400; omega⟩) (mt_preS hE hz hS hP hD) rfl rfl hl.1 rfl (lv_room (Nat.le_of_ble_eq_true rfl)) dXT_meld_16 ⟨Nat.zero_le _, Nat.zero_le _⟩) (fun z1 e1 => ?_)
    subst e1
    refine qa_astore (i := 6) (lv' := [(6, va_rf (mt_lo nf v)), (0, va_rf v), (1, va_rf w), (2, .int (nI (h + 1))), (3, .int (nI k)), (4, va_rf lf), (5, .ref al)]) hx hb dXT_meld_19 hl (by decide) (by simp [List.filter, qa_cat, qa_ci, qa_cl, qa_cr, qa_cn]) (fun ls hl => ?_)
    refine qa_aload_n hx hb dXT_meld_21 rfl (lv_at hl 1 rfl) ?_
    refine va_csq (W.runS (As := [va_rf v]) (rest := []) ⟨hx, hb, hml, hown, hts⟩ (c_highOf l g _ LP nf hp v (mt_rep_mem hv0)) (va_cwS 1 hts (mt_giS mw_280 mw_281 mw_1 (mt_gi mw_282)) rfl rfl rfl (by decide +kernel) ⟨by show 0 + 1 ≤ h + 1 + 12; omega, by show 8 + (1 + 11) + 0 ≤ 28 * (h + 1) + 400; omega⟩) (mt_preS hE hz hS hP hD) rfl rfl hl.1 rfl (lv_room (Nat.le_of_ble_eq_true rfl)) dXT_meld_22 ⟨Nat.zero_le _, Nat.zero_le _⟩) (fun z1 e1 => ?_)
    subst e1
    refine qa_aload_n hx hb dXT_meld_25 rfl (lv_at hl 2 rfl) ?_
    refine va_csq (W.runS (As := [va_rf w]) (rest := [va_rf (mt_hi nf v)]) ⟨hx, hb, hml, hown, hts⟩ (c_highOf l g _ LP nf hp w (mt_rep_mem hw0)) (va_cwS 1 hts (mt_giS mw_280 mw_281 mw_1 (mt_gi mw_282)) rfl rfl rfl (by decide +kernel) ⟨by show 0 + 1 ≤ h + 1 + 12; omega, by show 8 + (1 + 11) + 0 ≤ 28 * (h + 1) + 400; omega⟩) (mt_preS hE hz hS hP hD) rfl rfl hl.1 rfl (lv_room (by simp only [List.map_cons, List.map_nil, List.sum_cons, List.sum_nil, qa_cat, qa_ci, qa_cl, qa_cr, qa_cn]; exact Nat.le_of_ble_eq_true rfl)) dXT_meld_26 ⟨Nat.zero_le _, Nat.zero_le _⟩) (fun z1 e1 => ?_)
    subst e1
    refine lv_iload_n hx hb dXT_meld_29 rfl (lv_at hl 3 rfl) ?_
    refine lv_iconst (v := 1) hx hb dXT_meld_30 (by decide +kernel) ?_
    refine lv_isub hx hb dXT_meld_31 ?_
    refine qa_i (y := (nI h)) (nI_pred h) ?_
    refine lv_iload_n hx hb dXT_meld_32 rfl (lv_at hl 4 rfl) ?_
    refine qa_aload hx hb dXT_meld_33 (lv_at hl 5 rfl) ?_
    refine lv_aload hx hb dXT_meld_35 (lv_at hl 6 rfl) ?_
    refine va_callq (va_runS (As := [va_rf (mt_hi nf v), va_rf (mt_hi nf w), .int (nI h), .int (nI k), va_rf lf, .ref al]) (rest := []) ⟨hx, hb, hml, hown, hts⟩ (ih (mt_hi nf v) (mt_hi nf w) tv tw (by rw [hb2]; exact d2) (by rw [hb2]; exact d4) (fun j h8 h9 => hlo j (by omega) h9) (fun j h8 h9 => hhi j h8 (by omega)) hlf) (va_cwS 6 hts (mt_giS mw_271 mw_272 mw_1 (mt_gi mw_273)) rfl rfl rfl (by decide +kernel) ⟨by show h + 12 + 1 ≤ h + 1 + 12; omega, by show 8 + (9 + 11) + (28 * h + 400) ≤ 28 * (h + 1) + 400; omega⟩) (mt_preS hE hz hS hP hD) rfl rfl hl.1 rfl (lv_room (Nat.le_of_ble_eq_true rfl)) dXT_meld_37 ⟨by show 0 + 2 * mt_na t k h ≤ 2 * mt_na t k (h + 1); rw [mt_na_succ]; omega, by show 0 + (7 * mt_na t k h + mt_gr n cap (mt_na t k h)) ≤ 7 * mt_na t k (h + 1) + mt_gr n cap (mt_na t k (h + 1)); exact mt_ms_mono t k h n cap⟩) hS (fun _ _ h9 => h9) (fun _ h9 => h9) (fun r1 u1 t1 H locs ht1 hvm1 hpo1 hB1 hz1 hk1 hS => ?_)
    obtain ⟨LL1, LP1, nf1⟩ := u1
    obtain ⟨hLL1, hkp, hok1, hr1⟩ := hpo1
    obtain ⟨hP, hD⟩ := hB1
    rw [ht1] at hP
    dsimp only at hLL1 hkp hok1 hr1 hP hD
    refine qa_astore (i := 7) (lv' := [(7, va_rf r1), (6, va_rf (mt_lo nf v)), (0, va_rf v), (1, va_rf w), (2, .int (nI (h + 1))), (3, .int (nI k)), (4, va_rf lf), (5, .ref al)]) hx hb dXT_meld_40 hl (by decide) (by simp [List.filter, qa_cat, qa_ci, qa_cl, qa_cr, qa_cn]) (fun ls hl => ?_)
    refine lv_goto (tgt := 72) hx hb dXT_meld_42 (by decide) ?_
    have hlo1 : mt_rep LP1 nf1 t h (k / 2 ^ (h + 1) * 2 ^ (h + 1)) (mt_lo nf v) := mt_rep_keep hkp (mt_rep_ext (fun y hy => hlo _ (by omega) (by omega)) d1)
    have hhi1 : mt_rep LP1 nf1 t h (k / 2 ^ (h + 1) * 2 ^ (h + 1) + 2 ^ h) r1 := by rw [← hb2]; exact hr1
    generalize hge : mt_lo nf v = lo at hlo1 hhi1 hl ⊢
    refine qa_aload hx hb dXT_meld_72 (lv_at hl 1 rfl) ?_
    refine qa_ifnonnull (tgt := 84) hx hb dXT_meld_74 (by decide) (fun xa hcx1 => ?_) (fun hcx1 => ?_)
    · have hne : ¬ (lo = none ∧ r1 = none) := fun h9 => by rw [hcx1] at h9; cases h9.1
      have hcn0 : mt_c t (k / 2 ^ (h + 1) * 2 ^ (h + 1)) (2 ^ (h + 1)) ≠ 0 := mt_fork_ne hlo1 hhi1 hne
      have hna : mt_na t k (h + 1) = mt_na t k h + 1 := by rw [mt_na_succ, if_neg hcn0]
      refine va_new (ci := 0) (fs := [.int 0, .int 0, .null, .null, .int 0, .int 0, .long 0]) (C := RXN) (T := TXN) (N := 7) hx hb hts (fun w h => List.mem_cons_of_mem _ (in_XN w h)) tyXN tyXN_ok hown (hts _ (List.mem_cons_of_mem _ mw_27)) (hts _ (List.mem_cons_of_mem _ mw_195)) (hts _ (List.mem_cons_of_mem _ mw_11)) hK hP hD hS hA rfl (fun j hj => by rcases (show j = 0 ∨ j = 1 ∨ j = 2 ∨ j = 3 ∨ j = 4 ∨ j = 5 ∨ j = 6 by omega) with rfl | rfl | rfl | rfl | rfl | rfl | rfl <;> rfl) (by show 0 + 2 * mt_na t k h + 1 ≤ 2 * mt_na t k (h + 1); omega) (by show 0 + (7 * mt_na t k h + mt_gr n cap (mt_na t k h)) + 7 ≤ 7 * mt_na t k (h + 1) + mt_gr n cap (mt_na t k (h + 1)); rw [hna]; show _ ≤ _ + (mt_gr n cap (mt_na t k h) + _); omega) dXT_meld_84 (fun q H hP hD hS => ?_)
      refine lv_dup hx hb dXT_meld_87 rfl ?_
      refine lv_iload_n hx hb dXT_meld_88 rfl (lv_at hl 4 rfl) ?_
      refine lv_iload_n hx hb dXT_meld_89 rfl (lv_at hl 5 rfl) ?_
      refine qa_aload hx hb dXT_meld_90 (lv_at hl 1 rfl) ?_
      refine qa_aload hx hb dXT_meld_92 (lv_at hl 0 rfl) ?_
      have hp1 : mt_pool (mt_LW c0 c1 c2 c3 c4 c5 LL1 LP1 nf1) LP1 nf1 := mt_LW_pool
      refine va_callv (va_runIN (As := [.int (nI (h + 1)), .int (nI k), va_rf lo, va_rf r1]) (rest := [.ref q]) ⟨hx, hb, hml, hown, hts⟩ (c_fork l g _ LP1 nf1 hp1 q (nI (h + 1)) (nI k) lo r1 (mt_rep_mem hlo1) (mt_rep_mem hhi1)) ⟨va_cnB 4 hts (mt_gi mw_284) rfl rfl rfl (hE.w (.methodLinkNest RXT 131 yXN_init_2 "MeldTree") (by decide +kernel)) (hts _ (List.mem_cons_of_mem _ mw_11)) (by decide +kernel) ⟨by show 1 + 1 ≤ h + 1 + 12; omega, by show 8 + (5 + 11) + 20 ≤ 28 * (h + 1) + 400; omega⟩, rfl, hts _ (List.mem_cons_of_mem _ mw_283)⟩ (mt_preS hE hz hS hP hD) rfl rfl hl.1 rfl (lv_room (Nat.le_of_ble_eq_true rfl)) dXT_meld_94 ⟨by show 0 + 2 * mt_na t k h + 1 + 0 ≤ 2 * mt_na t k (h + 1); omega, by show 0 + (7 * mt_na t k h + mt_gr n cap (mt_na t k h)) + 7 + 0 ≤ 7 * mt_na t k (h + 1) + mt_gr n cap (mt_na t k (h + 1)); rw [hna]; show _ ≤ _ + (mt_gr n cap (mt_na t k h) + _); omega⟩) hS (fun _ _ h9 => h9) (fun _ h9 => h9) (fun u2 t2 H locs ht2 hvm2 _ hB2 hz2 hk2 hS => ?_)
      obtain ⟨hP, hD⟩ := hB2
      rw [ht2] at hP
      rw [mt_first hk (by omega)] at hP hD
      obtain ⟨hP, hD, hq1⟩ := mt_LW_push hP hD
      obtain ⟨hkp2, hok2, hrep2⟩ := mt_push_fork (q := q) hq1 hk hh hok1 hlo1 hhi1 hne
      generalize hnf2 : va_up nf1 q (nI (h + 1), nI (k / 2 ^ (h + 1) * 2 ^ (h + 1)), lo, r1, 0, mt_sz nf1 lo + mt_sz nf1 r1, mt_to nf1 lo + mt_to nf1 r1) = nf2 at hP hD hkp2 hok2 hrep2
      refine lv_astore (i := 8) (lv' := [(8, .ref q), (7, va_rf r1), (6, va_rf lo), (0, va_rf v), (1, va_rf w), (2, .int (nI (h + 1))), (3, .int (nI k)), (4, va_rf lf), (5, .ref al)]) hx hb dXT_meld_97 hl (by decide) (by simp [List.filter, qa_cat, qa_ci, qa_cl, qa_cr, qa_cn]) (fun ls hl => ?_)
      refine lv_aload hx hb dXT_meld_99 (lv_at hl 8 rfl) ?_
      refine lv_aload hx hb dXT_meld_101 (lv_at hl 0 rfl) ?_
      have hLL2 := mt_LL_more (L2 := LP1 ++ [q]) (fun a h9 => List.mem_append_left _ h9) hLL1
      obtain ⟨hlcj, hgj, hcj⟩ := mt_lcj hlc (mt_na t k h)
      have hrcv := mt_LL_recv hLL2 hK hP
      refine va_calli (va_runV (As := [.ref q]) (rest := []) ⟨hx, hb, hml, hown, hts⟩ (c_add l g c0 c1 c2 c3 c4 c5 al (n + mt_na t k h) (mt_cap n cap (mt_na t k h)) LL1 (LP1 ++ [q]) nf2 hLL2 hlcj (by omega) q (by simp)) (cwV 1 hts (mt_giV mw_221 mw_222 mw_223 mw_4 (mt_gi mw_224)) rfl rfl rfl (by decide +kernel) ⟨by show 10 + 1 ≤ h + 1 + 12; omega, by show 8 + (2 + 11) + 300 ≤ 28 * (h + 1) + 400; omega⟩) (mt_preV hE hz hS hP hD hrcv) rfl rfl hl.1 rfl (lv_room (Nat.le_of_ble_eq_true rfl)) dXT_meld_103 ⟨by show 0 + 2 * mt_na t k h + 1 + 0 + 1 ≤ 2 * mt_na t k (h + 1); omega, by show 0 + (7 * mt_na t k h + mt_gr n cap (mt_na t k h)) + 7 + 0 + mt_gr1 (n + mt_na t k h) (mt_cap n cap (mt_na t k h)) ≤ 7 * mt_na t k (h + 1) + mt_gr n cap (mt_na t k (h + 1)); rw [hna]; show _ ≤ _ + (mt_gr n cap (mt_na t k h) + _); omega⟩) hS (fun _ _ h9 => h9) (fun _ h9 => h9) (fun r3 LL3 t3 H locs ht3 hvm3 hpo3 hB3 hz3 hk3 hS => ?_)
      obtain ⟨rfl, hLL3⟩ := hpo3
      obtain ⟨hP, hD⟩ := hB3
      rw [ht3] at hP
      refine lv_pop hx hb dXT_meld_106 rfl ?_
      refine lv_aload hx hb dXT_meld_107 (lv_at hl 0 rfl) ?_
      refine W.widen (k := 2 * mt_na t k (h + 1)) (n := 7 * mt_na t k (h + 1) + mt_gr n cap (mt_na t k (h + 1))) (by show 0 + 2 * mt_na t k h + 1 + 0 + 1 ≤ 2 * mt_na t k (h + 1); omega) (by show 0 + (7 * mt_na t k h + mt_gr n cap (mt_na t k h)) + 7 + 0 + mt_gr1 (n + mt_na t k h) (mt_cap n cap (mt_na t k h)) ≤ 7 * mt_na t k (h + 1) + mt_gr n cap (mt_na t k (h + 1)); rw [hna]; show _ ≤ _ + (mt_gr n cap (mt_na t k h) + _); omega) ?_
      exact W.aret hx hb hr (Or.inl ⟨_, rfl⟩) (Or.inr ⟨_, rfl⟩) (fun t4 ht hW => ⟨⟨some q, (LL3, LP1 ++ [q], nf2), rfl, ⟨by rw [hna]; exact hLL3, fun a h9 => ⟨(hkp2 a (hkp a h9).1).1, (hkp2 a (hkp a h9).1).2.trans (hkp a h9).2⟩, hok2, hrep2⟩, by rw [ht]; exact hP, hD⟩, hS.F ht⟩) hS.2.2 dXT_meld_109
    · refine qa_aload hx hb dXT_meld_77 (lv_at hl 0 rfl) ?_
      refine qa_ifnonnull (tgt := 84) hx hb dXT_meld_79 (by decide) (fun xb hcx2 => ?_) (fun hcx2 => ?_)
      · have hne : ¬ (lo = none ∧ r1 = none) := fun h9 => by rw [hcx2] at h9; cases h9.2
        have hcn0 : mt_c t (k / 2 ^ (h + 1) * 2 ^ (h + 1)) (2 ^ (h + 1)) ≠ 0 := mt_fork_ne hlo1 hhi1 hne
        have hna : mt_na t k (h + 1) = mt_na t k h + 1 := by rw [mt_na_succ, if_neg hcn0]
        refine va_new (ci := 0) (fs := [.int 0, .int 0, .null, .null, .int 0, .int 0, .long 0]) (C := RXN) (T := TXN) (N := 7) hx hb hts (fun w h => List.mem_cons_of_mem _ (in_XN w h)) tyXN tyXN_ok hown (hts _ (List.mem_cons_of_mem _ mw_27)) (hts _ (List.mem_cons_of_mem _ mw_195)) (hts _ (List.mem_cons_of_mem _ mw_11)) hK hP hD hS hA rfl (fun j hj => by rcases (show j = 0 ∨ j = 1 ∨ j = 2 ∨ j = 3 ∨ j = 4 ∨ j = 5 ∨ j = 6 by omega) with rfl | rfl | rfl | rfl | rfl | rfl | rfl <;> rfl) (by show 0 + 2 * mt_na t k h + 1 ≤ 2 * mt_na t k (h + 1); omega) (by show 0 + (7 * mt_na t k h + mt_gr n cap (mt_na t k h)) + 7 ≤ 7 * mt_na t k (h + 1) + mt_gr n cap (mt_na t k (h + 1)); rw [hna]; show _ ≤ _ + (mt_gr n cap (mt_na t k h) + _); omega) dXT_meld_84 (fun q H hP hD hS => ?_)
        refine lv_dup hx hb dXT_meld_87 rfl ?_
        refine lv_iload_n hx hb dXT_meld_88 rfl (lv_at hl 4 rfl) ?_
        refine lv_iload_n hx hb dXT_meld_89 rfl (lv_at hl 5 rfl) ?_
        refine qa_aload hx hb dXT_meld_90 (lv_at hl 1 rfl) ?_
        refine qa_aload hx hb dXT_meld_92 (lv_at hl 0 rfl) ?_
        have hp1 : mt_pool (mt_LW c0 c1 c2 c3 c4 c5 LL1 LP1 nf1) LP1 nf1 := mt_LW_pool
        refine va_callv (va_runIN (As := [.int (nI (h + 1)), .int (nI k), va_rf lo, va_rf r1]) (rest := [.ref q]) ⟨hx, hb, hml, hown, hts⟩ (c_fork l g _ LP1 nf1 hp1 q (nI (h + 1)) (nI k) lo r1 (mt_rep_mem hlo1) (mt_rep_mem hhi1)) ⟨va_cnB 4 hts (mt_gi mw_284) rfl rfl rfl (hE.w (.methodLinkNest RXT 131 yXN_init_2 "MeldTree") (by decide +kernel)) (hts _ (List.mem_cons_of_mem _ mw_11)) (by decide +kernel) ⟨by show 1 + 1 ≤ h + 1 + 12; omega, by show 8 + (5 + 11) + 20 ≤ 28 * (h + 1) + 400; omega⟩, rfl, hts _ (List.mem_cons_of_mem _ mw_283)⟩ (mt_preS hE hz hS hP hD) rfl rfl hl.1 rfl (lv_room (Nat.le_of_ble_eq_true rfl)) dXT_meld_94 ⟨by show 0 + 2 * mt_na t k h + 1 + 0 ≤ 2 * mt_na t k (h + 1); omega, by show 0 + (7 * mt_na t k h + mt_gr n cap (mt_na t k h)) + 7 + 0 ≤ 7 * mt_na t k (h + 1) + mt_gr n cap (mt_na t k (h + 1)); rw [hna]; show _ ≤ _ + (mt_gr n cap (mt_na t k h) + _); omega⟩) hS (fun _ _ h9 => h9) (fun _ h9 => h9) (fun u2 t2 H locs ht2 hvm2 _ hB2 hz2 hk2 hS => ?_)
        obtain ⟨hP, hD⟩ := hB2
        rw [ht2] at hP
        rw [mt_first hk (by omega)] at hP hD
        obtain ⟨hP, hD, hq1⟩ := mt_LW_push hP hD
        obtain ⟨hkp2, hok2, hrep2⟩ := mt_push_fork (q := q) hq1 hk hh hok1 hlo1 hhi1 hne
        generalize hnf2 : va_up nf1 q (nI (h + 1), nI (k / 2 ^ (h + 1) * 2 ^ (h + 1)), lo, r1, 0, mt_sz nf1 lo + mt_sz nf1 r1, mt_to nf1 lo + mt_to nf1 r1) = nf2 at hP hD hkp2 hok2 hrep2
        refine lv_astore (i := 8) (lv' := [(8, .ref q), (7, va_rf r1), (6, va_rf lo), (0, va_rf v), (1, va_rf w), (2, .int (nI (h + 1))), (3, .int (nI k)), (4, va_rf lf), (5, .ref al)]) hx hb dXT_meld_97 hl (by decide) (by simp [List.filter, qa_cat, qa_ci, qa_cl, qa_cr, qa_cn]) (fun ls hl => ?_)
        refine lv_aload hx hb dXT_meld_99 (lv_at hl 8 rfl) ?_
        refine lv_aload hx hb dXT_meld_101 (lv_at hl 0 rfl) ?_
        have hLL2 := mt_LL_more (L2 := LP1 ++ [q]) (fun a h9 => List.mem_append_left _ h9) hLL1
        obtain ⟨hlcj, hgj, hcj⟩ := mt_lcj hlc (mt_na t k h)
        have hrcv := mt_LL_recv hLL2 hK hP
        refine va_calli (va_runV (As := [.ref q]) (rest := []) ⟨hx, hb, hml, hown, hts⟩ (c_add l g c0 c1 c2 c3 c4 c5 al (n + mt_na t k h) (mt_cap n cap (mt_na t k h)) LL1 (LP1 ++ [q]) nf2 hLL2 hlcj (by omega) q (by simp)) (cwV 1 hts (mt_giV mw_221 mw_222 mw_223 mw_4 (mt_gi mw_224)) rfl rfl rfl (by decide +kernel) ⟨by show 10 + 1 ≤ h + 1 + 12; omega, by show 8 + (2 + 11) + 300 ≤ 28 * (h + 1) + 400; omega⟩) (mt_preV hE hz hS hP hD hrcv) rfl rfl hl.1 rfl (lv_room (Nat.le_of_ble_eq_true rfl)) dXT_meld_103 ⟨by show 0 + 2 * mt_na t k h + 1 + 0 + 1 ≤ 2 * mt_na t k (h + 1); omega, by show 0 + (7 * mt_na t k h + mt_gr n cap (mt_na t k h)) + 7 + 0 + mt_gr1 (n + mt_na t k h) (mt_cap n cap (mt_na t k h)) ≤ 7 * mt_na t k (h + 1) + mt_gr n cap (mt_na t k (h + 1)); rw [hna]; show _ ≤ _ + (mt_gr n cap (mt_na t k h) + _); omega⟩) hS (fun _ _ h9 => h9) (fun _ h9 => h9) (fun r3 LL3 t3 H locs ht3 hvm3 hpo3 hB3 hz3 hk3 hS => ?_)
        obtain ⟨rfl, hLL3⟩ := hpo3
        obtain ⟨hP, hD⟩ := hB3
        rw [ht3] at hP
        refine lv_pop hx hb dXT_meld_106 rfl ?_
        refine lv_aload hx hb dXT_meld_107 (lv_at hl 0 rfl) ?_
        refine W.widen (k := 2 * mt_na t k (h + 1)) (n := 7 * mt_na t k (h + 1) + mt_gr n cap (mt_na t k (h + 1))) (by show 0 + 2 * mt_na t k h + 1 + 0 + 1 ≤ 2 * mt_na t k (h + 1); omega) (by show 0 + (7 * mt_na t k h + mt_gr n cap (mt_na t k h)) + 7 + 0 + mt_gr1 (n + mt_na t k h) (mt_cap n cap (mt_na t k h)) ≤ 7 * mt_na t k (h + 1) + mt_gr n cap (mt_na t k (h + 1)); rw [hna]; show _ ≤ _ + (mt_gr n cap (mt_na t k h) + _); omega) ?_
        exact W.aret hx hb hr (Or.inl ⟨_, rfl⟩) (Or.inr ⟨_, rfl⟩) (fun t4 ht hW => ⟨⟨some q, (LL3, LP1 ++ [q], nf2), rfl, ⟨by rw [hna]; exact hLL3, fun a h9 => ⟨(hkp2 a (hkp a h9).1).1, (hkp2 a (hkp a h9).1).2.trans (hkp a h9).2⟩, hok2, hrep2⟩, by rw [ht]; exact hP, hD⟩, hS.F ht⟩) hS.2.2 dXT_meld_109
      · have hc0 : mt_c t (k / 2 ^ (h + 1) * 2 ^ (h + 1)) (2 ^ (h + 1)) = 0 := by rw [hcx1] at hlo1; rw [hcx2] at hhi1; generalize k / 2 ^ (h + 1) * 2 ^ (h + 1) = bb at hlo1 hhi1 ⊢; rw [mt_two, mt_c_add, mt_c_none (mt_rep_none.mp hlo1), mt_c_none (mt_rep_none.mp hhi1)]
        have hna : mt_na t k (h + 1) = mt_na t k h := by rw [mt_na_succ, if_pos hc0]; rfl
        refine lv_null hx hb dXT_meld_82 ?_
        refine W.widen (k := 2 * mt_na t k (h + 1)) (n := 7 * mt_na t k (h + 1) + mt_gr n cap (mt_na t k (h + 1))) (by show 0 + 2 * mt_na t k h ≤ 2 * mt_na t k (h + 1); omega) (by show 0 + (7 * mt_na t k h + mt_gr n cap (mt_na t k h)) ≤ 7 * mt_na t k (h + 1) + mt_gr n cap (mt_na t k (h + 1)); rw [hna]; omega) ?_
        exact W.aret hx hb hr (Or.inl ⟨_, rfl⟩) (Or.inl rfl) (fun t4 ht hW => ⟨⟨none, (LL1, LP1, nf1), rfl, ⟨by rw [hna]; exact hLL1, hkp, hok1, mt_rep_none.mpr (mt_c_zero hc0)⟩, by rw [ht]; exact hP, hD⟩, hS.F ht⟩) hS.2.2 dXT_meld_83
set_option maxRecDepth 100000 in
theorem c_meld (l : Launch) (g : mt_G) (c0 c1 c2 c3 c4 c5 : Nat × va_E) (al n cap : Nat) (LL : va_W) (LP : List Nat) (nf : Nat → mt_N) (hLL : mt_LL g al LP n cap LL) (hlc : mt_lc n cap) (hn5 : n < 4980) (hok : ∀ a, a ∈ LP → mt_ok LP nf a) (k : Nat) (hk : k < 256) (lf : Option Nat) (t : mt_T) : ∀ (h : Nat), h ≤ 8 → ∀ (v w : Option Nat) (tv tw : mt_T) (hv0 : mt_rep LP nf tv h (k / 2 ^ h * 2 ^ h) v) (hw0 : mt_rep LP nf tw h (k / 2 ^ h * 2 ^ h) w) (hlo : ∀ j, k / 2 ^ h * 2 ^ h ≤ j → j < k → t j = tv j) (hhi : ∀ j, k < j → j < k / 2 ^ h * 2 ^ h + 2 ^ h → t j = tw j) (hlf : mt_rep LP nf t 0 k lf), Met l yXT_meld wsXT_meld ({ frames := h + 12, cells := 2 * mt_na t k h, slots := 7 * mt_na t k h + mt_gr n cap (mt_na t k h), locals := 28 * h + 400 }) (mt_Pc g (mt_LW c0 c1 c2 c3 c4 c5 LL LP nf) [va_rf v, va_rf w, .int (nI h), .int (nI k), va_rf lf, .ref al]) (va_Qq (fun r (q : va_W × List Nat × (Nat → mt_N)) => mt_LL g al q.2.1 (n + mt_na t k h) (mt_cap n cap (mt_na t k h)) q.1 ∧ (∀ a, a ∈ LP → a ∈ q.2.1 ∧ q.2.2 a = nf a) ∧ (∀ a, a ∈ q.2.1 → mt_ok q.2.1 q.2.2 a) ∧ mt_rep q.2.1 q.2.2 t h (k / 2 ^ h * 2 ^ h) r) (fun q t => mt_B g (mt_LW c0 c1 c2 c3 c4 c5 q.1 q.2.1 q.2.2) t) (mt_A g)) (2 * mt_na t k h) (7 * mt_na t k h + mt_gr n cap (mt_na t k h)) (mt_A g) := by
  intro h
  induction h with
  | zero => exact fun _ v w tv tw h1 h2 h3 h4 h5 => c_meld0 l g c0 c1 c2 c3 c4 c5 al n cap LL LP nf hLL hlc hn5 hok k hk lf t tv tw v w h1 h2 h3 h4 h5
  | succ h ih => exact fun h8 v w tv tw h1 h2 h3 h4 h5 => c_meldS l g c0 c1 c2 c3 c4 c5 al n cap LL LP nf hLL hlc hn5 hok k hk lf t h (by omega) (ih (by omega)) v w tv tw h1 h2 h3 h4 h5
