set_option maxHeartbeats 4000000 in
set_option maxRecDepth 100000 in
/-- the reference: select -/
theorem c_M_select (l : Launch) (g : mt_G) (am av ab : Nat) (cn : Nat) (th : Int32) (fv fb : Nat → Int32) (Z : va_W) (hcn : cn ≤ 600) (hfb : ∀ j, fb j = 0 ∨ fb j = 1) (v i : Int32) : Met l yXM_select wsXM_select ({ frames := 1, cells := 0, slots := 0, locals := 60 }) (mt_Pc g (mt_MW g am av ab (nI cn) th fv fb Z) [.ref am, .int v, .int i]) (va_Qi (fun r q => (¬ (∃ j, j < cn ∧ v = nI j ∧ 0 ≤ i ∧ i < nI (mt_c (mt_ft fv fb j) 0 256)) ∧ q = (cn, 1, fv, fb)) ∨ (q = (cn, 0, fv, fb) ∧ ∃ j n k, j < cn ∧ v = nI j ∧ i = nI n ∧ n < 256 ∧ k < 256 ∧ r = nI k ∧ mt_ft fv fb j k ≠ none ∧ mt_c (mt_ft fv fb j) 0 k = n)) (fun (q : Nat × Int32 × (Nat → Int32) × (Nat → Int32)) t => mt_B g (mt_MW g am av ab (nI q.1) q.2.1 q.2.2.1 q.2.2.2 Z) t) (mt_A g)) (0) (0) (mt_A g) := by
  refine Met.ofW (cc := cXM_select) (maxL := 5) (ret := (some .int)) (by decide) rfl ?_
  intro p e s m args below meth c s₁ B hml hv
  obtain ⟨rfl, hE, hz, hP, hD⟩ := hv
  have hx := B.exec
  have hb := B.bytes
  have hr := B.returns
  have hts := atoms_spec (ws := wsXM_select) B.pre
  have hown : s.vm.findClass RXM = some m.cls := findClass_of_methodNamed B.named
  have hlocks := B.notSynchronized
  have hK := hE.k
  have hA : ∀ q : Nat, s.heap.size ≤ q → mt_A g q := fun q h => Nat.le_trans hz h
  have hS : va_S (mt_A g) s.heap s.heap [] := va_S.rf
  have hl := lv_entry ([.ref am, .int v, .int i]) (n := 5) (Nat.le_of_ble_eq_true rfl)
  rw [lg_entry_eq]
  generalize (lg_sl ([.ref am, .int v, .int i]) ++ List.replicate (5 - (lg_sl ([.ref am, .int v, .int i])).length) Slot.unset).toArray = ls at hl ⊢
  have hl : lv_has ls 5 [(0, .ref am), (1, .int v), (2, .int i)] := hl
  have hH : s.heap = s.heap := rfl
  refine lv_aload_n hx hb dXM_select_0 rfl (lv_at hl 0 rfl) ?_
  refine lv_iconst (v := 1) hx hb dXM_select_1 (by decide +kernel) ?_
  refine va_put (D := g.1) (ci := 2) (v := .int 1) (ty := .int) (C := RXM) (T := TXM) (N := 4) hx hb hts (fun w h => List.mem_cons_of_mem _ (in_XM w h)) tyXM tyXM_ok nmXM hown hK hP hD hS 0 rfl rfl 3 (by decide) (hts _ (List.mem_cons_of_mem _ mw_389)) (fun _ h9 => h9) rfl (by decide +kernel) rfl rfl (Nat.le_of_ble_eq_true rfl) dXM_select_2 (fun H locs hP hD hS => ?_)
  have hP : va_P g.1 vwCl (mt_MW g am av ab (nI cn) 1 fv fb Z) H := hP
  have hD : va_D (mt_A g) (mt_MW g am av ab (nI cn) 1 fv fb Z) := hD
  refine lv_aload_n hx hb dXM_select_5 rfl (lv_at hl 0 rfl) ?_
  refine lv_iload_n hx hb dXM_select_6 rfl (lv_at hl 1 rfl) ?_
  refine vp_callSi (W.runV (As := [.int v]) (rest := []) ⟨hx, hb, hml, hown, hts⟩ (c_M_isOne l g am av ab cn 1 fv fb Z hcn v) (cwV 1 hts (mt_giV mw_409 mw_410 mw_471 mw_5 (mt_gi mw_411)) rfl rfl rfl (by decide +kernel) ⟨by decide, by decide⟩) (mt_preV hE hz hS hP hD (va_recv hK hP (q := (RXM, TXM, 4)) (q0 := 0) rfl rfl)) rfl rfl hl.1 rfl (lv_room (Nat.le_of_ble_eq_true rfl)) dXM_select_7 ⟨Nat.zero_le _, Nat.zero_le _⟩) (fun z1 e1 => ?_)
  rcases e1 with ⟨rfl, hver⟩ | ⟨rfl, hver⟩
  · refine lv_if_eq (tgt := 17) hx hb dXM_select_10 (by decide) (fun z => absurd z (show ¬ (1 : Int32) = 0 by decide)) (fun _ => ?_)
    refine lv_iload_n hx hb dXM_select_13 rfl (lv_at hl 2 rfl) ?_
    refine lv_if_ge (tgt := 19) hx hb dXM_select_14 (by decide) (fun c1 => ?_) (fun c1 => ?_)
    · obtain ⟨j, hj, rfl⟩ := mt_ver_nat hcn hver
      obtain ⟨n, hn31, rfl⟩ := nI_of (x := i) (Int32.not_lt.mpr c1)
      have hone : ∀ j2, j2 < cn → nI j = nI j2 → j = j2 := fun j2 h9 e9 => (nI_eq (by omega) (by omega)).mp e9
      refine lv_iload_n hx hb dXM_select_19 rfl (lv_at hl 2 rfl) ?_
      refine lv_istore_n (i := 3) (lv' := [(3, .int (nI n)), (0, .ref am), (1, .int (nI j)), (2, .int (nI n))]) hx hb dXM_select_20 rfl hl (by decide) rfl (fun ls hl => ?_)
      refine lv_iconst (v := 0) hx hb dXM_select_21 (by decide +kernel) ?_
      refine lv_istore (i := 4) (lv' := [(4, .int 0), (3, .int (nI n)), (0, .ref am), (1, .int (nI j)), (2, .int (nI n))]) hx hb dXM_select_22 hl (by decide) rfl (fun ls hl => ?_)
      refine qa_for (V := Nat) (fun v => 256 - v) (fun v => [(4, .int (nI v)), (3, .int (nI (n - mt_c (mt_ft fv fb j) 0 v))), (0, .ref am), (1, .int (nI j)), (2, .int (nI n))]) (fun v => v ≤ 256 ∧ mt_c (mt_ft fv fb j) 0 v ≤ n) ?_ 0 ls ⟨Nat.zero_le _, Nat.zero_le _⟩ hl
      intro k ls hi hl ih
      obtain ⟨hk6, hkn⟩ := hi
      have hcs : mt_c (mt_ft fv fb j) 0 (k + 1) = mt_c (mt_ft fv fb j) 0 k + mt_1 (mt_ft fv fb j) k := by show _ + mt_1 _ (0 + k) = _; rw [Nat.zero_add]
      refine lv_iload hx hb dXM_select_24 (lv_at hl 0 rfl) ?_
      refine lv_sipush (v := (nI 256)) hx hb dXM_select_26 (by decide +kernel) ?_
      by_cases hlt : k < 256
      · refine lv_icmp_ge (tgt := 72) hx hb dXM_select_29 (by decide) (fun z => absurd z (nI_ge hlt (by omega))) (fun _ => ?_)
        refine lv_aload_n hx hb dXM_select_32 rfl (lv_at hl 2 rfl) ?_
        refine va_get (D := g.1) (ci := 2) (v := .ref ab) (C := RXM) (T := TXM) (N := 4) hx hb hts (fun w h => List.mem_cons_of_mem _ (in_XM w h)) hown hK hP 0 rfl rfl 1 (by decide) (hts _ (List.mem_cons_of_mem _ mw_387)) (fun _ h9 => h9) rfl dXM_select_33 ?_
        refine lv_sipush (v := (nI 256)) hx hb dXM_select_36 (by decide +kernel) ?_
        refine lv_iload_n hx hb dXM_select_39 rfl (lv_at hl 3 rfl) ?_
        refine lv_imul hx hb dXM_select_40 ?_
        refine qa_i (y := (nI (256 * j))) (pk_mul 256 j) ?_
        refine lv_iload hx hb dXM_select_41 (lv_at hl 0 rfl) ?_
        refine lv_iadd hx hb dXM_select_43 ?_
        refine qa_i (y := (nI (256 * j + k))) (nI_add (256 * j) k) ?_
        refine va_zald (D := g.1) (cl := vwCl) hx hb hK hP 2 3 rfl rfl (vp_in_nI (n := 256 * j + k) (by omega) (by decide)) dXM_select_44 ?_
        refine qa_i (y := (fb (256 * j + k))) (by rw [nI_clamp (by omega)]) ?_
        rcases hfb (256 * j + k) with hf0 | hf1
        · refine qa_i (y := 0) hf0 ?_
          refine lv_if_ne (tgt := 51) hx hb dXM_select_45 (by decide) (fun z => absurd rfl z) (fun _ => ?_)
          refine lv_goto (tgt := 66) hx hb dXM_select_48 (by decide) ?_
          refine lv_iinc (k := 0) (v := (nI (k + 1))) (lv' := [(4, .int (nI (k + 1))), (3, .int (nI (n - mt_c (mt_ft fv fb j) 0 k))), (0, .ref am), (1, .int (nI j)), (2, .int (nI n))]) hx hb dXM_select_66 hl rfl (nI_1 k) (by decide) rfl (fun ls hl => ?_)
          refine lv_goto (tgt := 24) hx hb dXM_select_69 (by decide) ?_
          have hc0 : mt_1 (mt_ft fv fb j) k = 0 := mt_1_0 (if_pos hf0)
          rw [show mt_c (mt_ft fv fb j) 0 k = mt_c (mt_ft fv fb j) 0 (k + 1) by omega] at hl
          have hl := lv_sub (l' := [(4, .int (nI (k + 1))), (3, .int (nI (n - mt_c (mt_ft fv fb j) 0 (k + 1)))), (0, .ref am), (1, .int (nI j)), (2, .int (nI n))]) hl [0, 1, 2, 3, 4] rfl
          exact ih (k + 1) ls (by omega) ⟨by omega, by omega⟩ hl
        · refine qa_i (y := 1) hf1 ?_
          refine lv_if_ne (tgt := 51) hx hb dXM_select_45 (by decide) (fun _ => ?_) (fun z => absurd z (show ¬ (1 : Int32) = 0 by decide))
          refine lv_iload_n hx hb dXM_select_51 rfl (lv_at hl 1 rfl) ?_
          have hne : mt_ft fv fb j k ≠ none := by unfold mt_ft; rw [if_neg (by rw [hf1]; decide)]; intro z9; cases z9
          have hc1 : mt_1 (mt_ft fv fb j) k = 1 := mt_1_1 hne
          by_cases hz0 : n - mt_c (mt_ft fv fb j) 0 k = 0
          · refine lv_if_ne (tgt := 63) hx hb dXM_select_52 (by decide) (fun z => absurd (by rw [hz0]; rfl) z) (fun _ => ?_)
            refine lv_aload_n hx hb dXM_select_55 rfl (lv_at hl 2 rfl) ?_
            refine lv_iconst (v := 0) hx hb dXM_select_56 (by decide +kernel) ?_
            refine va_put (D := g.1) (ci := 2) (v := .int 0) (ty := .int) (C := RXM) (T := TXM) (N := 4) hx hb hts (fun w h => List.mem_cons_of_mem _ (in_XM w h)) tyXM tyXM_ok nmXM hown hK hP hD hS 0 rfl rfl 3 (by decide) (hts _ (List.mem_cons_of_mem _ mw_389)) (fun _ h9 => h9) rfl (by decide +kernel) rfl rfl (Nat.le_of_ble_eq_true rfl) dXM_select_57 (fun H locs hP hD hS => ?_)
            have hP : va_P g.1 vwCl (mt_MW g am av ab (nI cn) 0 fv fb Z) H := hP
            have hD : va_D (mt_A g) (mt_MW g am av ab (nI cn) 0 fv fb Z) := hD
            refine lv_iload hx hb dXM_select_60 (lv_at hl 0 rfl) ?_
            exact W.iret (v := (nI k)) hx hb hr (fun t9 ht hW => ⟨⟨(nI k), (cn, 0, fv, fb), rfl, Or.inr ⟨rfl, j, n, k, hj, rfl, rfl, by have := mt_c_le (mt_ft fv fb j) 0 k; omega, hlt, rfl, hne, by omega⟩, by rw [ht]; exact hP, hD⟩, hS.F ht⟩) hS.2.2 dXM_select_62
          · refine lv_if_ne (tgt := 63) hx hb dXM_select_52 (by decide) (fun _ => ?_) (fun z => absurd z (fun e9 => absurd ((nI_eq (b := 0) (by omega) (by omega)).mp e9) hz0))
            refine lv_iinc (k := 1) (v := (nI (n - mt_c (mt_ft fv fb j) 0 (k + 1)))) (lv' := [(3, .int (nI (n - mt_c (mt_ft fv fb j) 0 (k + 1)))), (4, .int (nI k)), (0, .ref am), (1, .int (nI j)), (2, .int (nI n))]) hx hb dXM_select_63 hl rfl (by rw [hcs, hc1]; exact sb_m1s (by omega)) (by decide) rfl (fun ls hl => ?_)
            refine lv_iinc (k := 1) (v := (nI (k + 1))) (lv' := [(4, .int (nI (k + 1))), (3, .int (nI (n - mt_c (mt_ft fv fb j) 0 (k + 1)))), (0, .ref am), (1, .int (nI j)), (2, .int (nI n))]) hx hb dXM_select_66 hl rfl (nI_1 k) (by decide) rfl (fun ls hl => ?_)
            refine lv_goto (tgt := 24) hx hb dXM_select_69 (by decide) ?_
            have hl := lv_sub (l' := [(4, .int (nI (k + 1))), (3, .int (nI (n - mt_c (mt_ft fv fb j) 0 (k + 1)))), (0, .ref am), (1, .int (nI j)), (2, .int (nI n))]) hl [0, 1, 2, 3, 4] rfl
            exact ih (k + 1) ls (by omega) ⟨by omega, by omega⟩ hl
      · refine lv_icmp_ge (tgt := 72) hx hb dXM_select_29 (by decide) (fun _ => ?_) (fun z => absurd (nI_le (a := 256) (b := k) (by omega) (by omega)) z)
        refine lv_iconst (v := 0) hx hb dXM_select_72 (by decide +kernel) ?_
        have ek : k = 256 := by omega
        subst ek
        exact W.iret (v := 0) hx hb hr (fun t9 ht hW => ⟨⟨0, (cn, 1, fv, fb), rfl, Or.inl ⟨fun ⟨j2, h8, e8, _, h9⟩ => absurd ((nI_ltI hn31 (by have := mt_c_le (mt_ft fv fb j2) 0 256; omega)).mp h9) (by rw [← hone j2 h8 e8]; omega), rfl⟩, by rw [ht]; exact hP, hD⟩, hS.F ht⟩) hS.2.2 dXM_select_73
    · refine lv_iconst (v := 0) hx hb dXM_select_17 (by decide +kernel) ?_
      exact W.iret (v := 0) hx hb hr (fun t9 ht hW => ⟨⟨0, (cn, 1, fv, fb), rfl, Or.inl ⟨fun ⟨_, _, _, h9, _⟩ => c1 h9, rfl⟩, by rw [ht]; exact hP, hD⟩, hS.F ht⟩) hS.2.2 dXM_select_18
  · refine lv_if_eq (tgt := 17) hx hb dXM_select_10 (by decide) (fun _ => ?_) (fun z => absurd rfl z)
    refine lv_iconst (v := 0) hx hb dXM_select_17 (by decide +kernel) ?_
    exact W.iret (v := 0) hx hb hr (fun t9 ht hW => ⟨⟨0, (cn, 1, fv, fb), rfl, Or.inl ⟨fun ⟨j, h8, e8, _⟩ => hver (mt_ver_of hcn h8 e8), rfl⟩, by rw [ht]; exact hP, hD⟩, hS.F ht⟩) hS.2.2 dXM_select_18
set_option maxHeartbeats 4000000 in
set_option maxRecDepth 100000 in
/-- the reference: many -/
theorem c_M_many (l : Launch) (g : mt_G) (am av ab : Nat) (cn : Nat) (th : Int32) (fv fb : Nat → Int32) (Z : va_W) (hcn : cn ≤ 600) (hfb : ∀ j, fb j = 0 ∨ fb j = 1) (v a b : Int32) : Met l yXM_many wsXM_many ({ frames := 1, cells := 0, slots := 0, locals := 60 }) (mt_Pc g (mt_MW g am av ab (nI cn) th fv fb Z) [.ref am, .int v, .int a, .int b]) (va_Qi (fun r q => (¬ mt_ver v cn ∧ q = (cn, 1, fv, fb)) ∨ (q = (cn, 0, fv, fb) ∧ ∃ j, j < cn ∧ v = nI j ∧ r = nI (mt_m (mt_ft fv fb j) (mt_cl a) (mt_cl b) 256))) (fun (q : Nat × Int32 × (Nat → Int32) × (Nat → Int32)) t => mt_B g (mt_MW g am av ab (nI q.1) q.2.1 q.2.2.1 q.2.2.2 Z) t) (mt_A g)) (0) (0) (mt_A g) := by
  refine Met.ofW (cc := cXM_many) (maxL := 6) (ret := (some .int)) (by decide) rfl ?_
  intro p e s m args below meth c s₁ B hml hv
  obtain ⟨rfl, hE, hz, hP, hD⟩ := hv
  have hx := B.exec
  have hb := B.bytes
  have hr := B.returns
  have hts := atoms_spec (ws := wsXM_many) B.pre
  have hown : s.vm.findClass RXM = some m.cls := findClass_of_methodNamed B.named
  have hlocks := B.notSynchronized
  have hK := hE.k
  have hA : ∀ q : Nat, s.heap.size ≤ q → mt_A g q := fun q h => Nat.le_trans hz h
  have hS : va_S (mt_A g) s.heap s.heap [] := va_S.rf
  have hl := lv_entry ([.ref am, .int v, .int a, .int b]) (n := 6) (Nat.le_of_ble_eq_true rfl)
  rw [lg_entry_eq]
  generalize (lg_sl ([.ref am, .int v, .int a, .int b]) ++ List.replicate (6 - (lg_sl ([.ref am, .int v, .int a, .int b])).length) Slot.unset).toArray = ls at hl ⊢
  have hl : lv_has ls 6 [(0, .ref am), (1, .int v), (2, .int a), (3, .int b)] := hl
  have hH : s.heap = s.heap := rfl
  refine lv_aload_n hx hb dXM_many_0 rfl (lv_at hl 0 rfl) ?_
  refine lv_aload_n hx hb dXM_many_1 rfl (lv_at hl 0 rfl) ?_
  refine lv_iload_n hx hb dXM_many_2 rfl (lv_at hl 1 rfl) ?_
  refine vp_callSi (W.runV (As := [.int v]) (rest := [.ref am]) ⟨hx, hb, hml, hown, hts⟩ (c_M_isOne l g am av ab cn th fv fb Z hcn v) (cwV 1 hts (mt_giV mw_409 mw_410 mw_471 mw_5 (mt_gi mw_411)) rfl rfl rfl (by decide +kernel) ⟨by decide, by decide⟩) (mt_preV hE hz hS hP hD (va_recv hK hP (q := (RXM, TXM, 4)) (q0 := 0) rfl rfl)) rfl rfl hl.1 rfl (lv_room (Nat.le_of_ble_eq_true rfl)) dXM_many_3 ⟨Nat.zero_le _, Nat.zero_le _⟩) (fun z1 e1 => ?_)
  rcases e1 with ⟨rfl, hver⟩ | ⟨rfl, hver⟩
  · refine lv_if_eq (tgt := 13) hx hb dXM_many_6 (by decide) (fun z => absurd z (show ¬ (1 : Int32) = 0 by decide)) (fun _ => ?_)
    refine lv_iconst (v := 0) hx hb dXM_many_9 (by decide +kernel) ?_
    refine lv_goto (tgt := 14) hx hb dXM_many_10 (by decide) ?_
    refine va_put (D := g.1) (ci := 2) (v := .int 0) (ty := .int) (C := RXM) (T := TXM) (N := 4) hx hb hts (fun w h => List.mem_cons_of_mem _ (in_XM w h)) tyXM tyXM_ok nmXM hown hK hP hD hS 0 rfl rfl 3 (by decide) (hts _ (List.mem_cons_of_mem _ mw_389)) (fun _ h9 => h9) rfl (by decide +kernel) rfl rfl (Nat.le_of_ble_eq_true rfl) dXM_many_14 (fun H locs hP hD hS => ?_)
    have hP : va_P g.1 vwCl (mt_MW g am av ab (nI cn) 0 fv fb Z) H := hP
    have hD : va_D (mt_A g) (mt_MW g am av ab (nI cn) 0 fv fb Z) := hD
    obtain ⟨j, hj, rfl⟩ := mt_ver_nat hcn hver
    refine lv_iconst (v := 0) hx hb dXM_many_17 (by decide +kernel) ?_
    refine lv_istore (i := 4) (lv' := [(4, .int 0), (0, .ref am), (1, .int (nI j)), (2, .int a), (3, .int b)]) hx hb dXM_many_18 hl (by decide) rfl (fun ls hl => ?_)
    refine lv_iconst (v := 0) hx hb dXM_many_20 (by decide +kernel) ?_
    refine lv_istore (i := 5) (lv' := [(5, .int 0), (4, .int 0), (0, .ref am), (1, .int (nI j)), (2, .int a), (3, .int b)]) hx hb dXM_many_21 hl (by decide) rfl (fun ls hl => ?_)
    refine qa_for (V := Nat) (fun v => 256 - v) (fun v => [(5, .int (nI v)), (4, .int (nI (mt_m (mt_ft fv fb j) (mt_cl a) (mt_cl b) v))), (0, .ref am), (1, .int (nI j)), (2, .int a), (3, .int b)]) (fun v => v ≤ 256) ?_ 0 ls (Nat.zero_le _) hl
    intro k ls hk6 hl ih
    refine lv_iload hx hb dXM_many_23 (lv_at hl 0 rfl) ?_
    refine lv_sipush (v := (nI 256)) hx hb dXM_many_25 (by decide +kernel) ?_
    by_cases hlt : k < 256
    · refine lv_icmp_ge (tgt := 75) hx hb dXM_many_28 (by decide) (fun z => absurd z (nI_ge hlt (by omega))) (fun _ => ?_)
      refine lv_aload_n hx hb dXM_many_31 rfl (lv_at hl 2 rfl) ?_
      refine va_get (D := g.1) (ci := 2) (v := .int 0) (C := RXM) (T := TXM) (N := 4) hx hb hts (fun w h => List.mem_cons_of_mem _ (in_XM w h)) hown hK hP 0 rfl rfl 3 (by decide) (hts _ (List.mem_cons_of_mem _ mw_389)) (fun _ h9 => h9) rfl dXM_many_32 ?_
      refine lv_if_ne (tgt := 75) hx hb dXM_many_35 (by decide) (fun z => absurd (show (0 : Int32) = 0 from rfl) z) (fun _ => ?_)
      refine lv_iload hx hb dXM_many_38 (lv_at hl 0 rfl) ?_
      refine lv_iload_n hx hb dXM_many_40 rfl (lv_at hl 4 rfl) ?_
      refine lv_icmp_lt (tgt := 69) hx hb dXM_many_41 (by decide) (fun c1 => ?_) (fun c1 => ?_)
      · refine lv_iinc (k := 0) (v := (nI (k + 1))) (lv' := [(5, .int (nI (k + 1))), (4, .int (nI (mt_m (mt_ft fv fb j) (mt_cl a) (mt_cl b) k))), (0, .ref am), (1, .int (nI j)), (2, .int a), (3, .int b)]) hx hb dXM_many_69 hl rfl (nI_1 k) (by decide) rfl (fun ls hl => ?_)
        refine lv_goto (tgt := 23) hx hb dXM_many_72 (by decide) ?_
        have hsk : nI (mt_m (mt_ft fv fb j) (mt_cl a) (mt_cl b) (k + 1)) = nI (mt_m (mt_ft fv fb j) (mt_cl a) (mt_cl b) k) := by show nI (mt_m _ _ _ k + _) = _; rw [if_neg (fun h9 => absurd c1 (Int32.not_lt.mpr ((mt_cl_ge hlt).mpr h9.1)))]; rfl
        rw [← hsk] at hl
        have hl := lv_sub (l' := [(5, .int (nI (k + 1))), (4, .int (nI (mt_m (mt_ft fv fb j) (mt_cl a) (mt_cl b) (k + 1)))), (0, .ref am), (1, .int (nI j)), (2, .int a), (3, .int b)]) hl [0, 1, 2, 3, 4, 5] rfl
        exact ih (k + 1) ls (by omega) hlt hl
      · refine lv_iload hx hb dXM_many_44 (lv_at hl 0 rfl) ?_
        refine lv_iload_n hx hb dXM_many_46 rfl (lv_at hl 5 rfl) ?_
        refine lv_icmp_ge (tgt := 69) hx hb dXM_many_47 (by decide) (fun c2 => ?_) (fun c2 => ?_)
        · refine lv_iinc (k := 0) (v := (nI (k + 1))) (lv' := [(5, .int (nI (k + 1))), (4, .int (nI (mt_m (mt_ft fv fb j) (mt_cl a) (mt_cl b) k))), (0, .ref am), (1, .int (nI j)), (2, .int a), (3, .int b)]) hx hb dXM_many_69 hl rfl (nI_1 k) (by decide) rfl (fun ls hl => ?_)
          refine lv_goto (tgt := 23) hx hb dXM_many_72 (by decide) ?_
          have hsk : nI (mt_m (mt_ft fv fb j) (mt_cl a) (mt_cl b) (k + 1)) = nI (mt_m (mt_ft fv fb j) (mt_cl a) (mt_cl b) k) := by show nI (mt_m _ _ _ k + _) = _; rw [if_neg (fun h9 => absurd ((mt_cl_lt hlt).mpr h9.2.1) (Int32.not_lt.mpr c2))]; rfl
          rw [← hsk] at hl
          have hl := lv_sub (l' := [(5, .int (nI (k + 1))), (4, .int (nI (mt_m (mt_ft fv fb j) (mt_cl a) (mt_cl b) (k + 1)))), (0, .ref am), (1, .int (nI j)), (2, .int a), (3, .int b)]) hl [0, 1, 2, 3, 4, 5] rfl
          exact ih (k + 1) ls (by omega) hlt hl
        · refine lv_aload_n hx hb dXM_many_50 rfl (lv_at hl 2 rfl) ?_
          refine va_get (D := g.1) (ci := 2) (v := .ref ab) (C := RXM) (T := TXM) (N := 4) hx hb hts (fun w h => List.mem_cons_of_mem _ (in_XM w h)) hown hK hP 0 rfl rfl 1 (by decide) (hts _ (List.mem_cons_of_mem _ mw_387)) (fun _ h9 => h9) rfl dXM_many_51 ?_
          refine lv_sipush (v := (nI 256)) hx hb dXM_many_54 (by decide +kernel) ?_
          refine lv_iload_n hx hb dXM_many_57 rfl (lv_at hl 3 rfl) ?_
          refine lv_imul hx hb dXM_many_58 ?_
          refine qa_i (y := (nI (256 * j))) (pk_mul 256 j) ?_
          refine lv_iload hx hb dXM_many_59 (lv_at hl 0 rfl) ?_
          refine lv_iadd hx hb dXM_many_61 ?_
          refine qa_i (y := (nI (256 * j + k))) (nI_add (256 * j) k) ?_
          refine va_zald (D := g.1) (cl := vwCl) hx hb hK hP 2 3 rfl rfl (vp_in_nI (n := 256 * j + k) (by omega) (by decide)) dXM_many_62 ?_
          refine qa_i (y := (fb (256 * j + k))) (by rw [nI_clamp (by omega)]) ?_
          rcases hfb (256 * j + k) with hf0 | hf1
          · refine qa_i (y := 0) hf0 ?_
            refine lv_if_eq (tgt := 69) hx hb dXM_many_63 (by decide) (fun _ => ?_) (fun z => absurd rfl z)
            have hno : mt_ft fv fb j k = none := if_pos hf0
            refine lv_iinc (k := 0) (v := (nI (k + 1))) (lv' := [(5, .int (nI (k + 1))), (4, .int (nI (mt_m (mt_ft fv fb j) (mt_cl a) (mt_cl b) k))), (0, .ref am), (1, .int (nI j)), (2, .int a), (3, .int b)]) hx hb dXM_many_69 hl rfl (nI_1 k) (by decide) rfl (fun ls hl => ?_)
            refine lv_goto (tgt := 23) hx hb dXM_many_72 (by decide) ?_
            have hsk : nI (mt_m (mt_ft fv fb j) (mt_cl a) (mt_cl b) (k + 1)) = nI (mt_m (mt_ft fv fb j) (mt_cl a) (mt_cl b) k) := by show nI (mt_m _ _ _ k + _) = _; rw [if_neg (fun h9 => h9.2.2 hno)]; rfl
            rw [← hsk] at hl
            have hl := lv_sub (l' := [(5, .int (nI (k + 1))), (4, .int (nI (mt_m (mt_ft fv fb j) (mt_cl a) (mt_cl b) (k + 1)))), (0, .ref am), (1, .int (nI j)), (2, .int a), (3, .int b)]) hl [0, 1, 2, 3, 4, 5] rfl
            exact ih (k + 1) ls (by omega) hlt hl
          · refine qa_i (y := 1) hf1 ?_
            refine lv_if_eq (tgt := 69) hx hb dXM_many_63 (by decide) (fun z => absurd z (show ¬ (1 : Int32) = 0 by decide)) (fun _ => ?_)
            have hso : mt_ft fv fb j k = some (fv (256 * j + k)) := if_neg (by rw [hf1]; decide)
            have hst : nI (mt_m (mt_ft fv fb j) (mt_cl a) (mt_cl b) (k + 1)) = nI (mt_m (mt_ft fv fb j) (mt_cl a) (mt_cl b) k + 1) := by show nI (mt_m _ _ _ k + _) = _; rw [if_pos ⟨(mt_cl_ge hlt).mp (Int32.not_lt.mp c1), (mt_cl_lt hlt).mp (Int32.not_le.mp c2), by rw [hso]; intro z9; cases z9⟩]
            refine lv_iinc (k := 1) (v := (nI (mt_m (mt_ft fv fb j) (mt_cl a) (mt_cl b) (k + 1)))) (lv' := [(4, .int (nI (mt_m (mt_ft fv fb j) (mt_cl a) (mt_cl b) (k + 1)))), (5, .int (nI k)), (0, .ref am), (1, .int (nI j)), (2, .int a), (3, .int b)]) hx hb dXM_many_66 hl rfl (by rw [hst]; exact nI_1 _) (by decide) rfl (fun ls hl => ?_)
            refine lv_iinc (k := 1) (v := (nI (k + 1))) (lv' := [(5, .int (nI (k + 1))), (4, .int (nI (mt_m (mt_ft fv fb j) (mt_cl a) (mt_cl b) (k + 1)))), (0, .ref am), (1, .int (nI j)), (2, .int a), (3, .int b)]) hx hb dXM_many_69 hl rfl (nI_1 k) (by decide) rfl (fun ls hl => ?_)
            refine lv_goto (tgt := 23) hx hb dXM_many_72 (by decide) ?_
            have hl := lv_sub (l' := [(5, .int (nI (k + 1))), (4, .int (nI (mt_m (mt_ft fv fb j) (mt_cl a) (mt_cl b) (k + 1)))), (0, .ref am), (1, .int (nI j)), (2, .int a), (3, .int b)]) hl [0, 1, 2, 3, 4, 5] rfl
            exact ih (k + 1) ls (by omega) hlt hl
    · refine lv_icmp_ge (tgt := 75) hx hb dXM_many_28 (by decide) (fun _ => ?_) (fun z => absurd (nI_le (a := 256) (b := k) (by omega) (by omega)) z)
      refine lv_iload hx hb dXM_many_75 (lv_at hl 1 rfl) ?_
      have ek : k = 256 := by omega
      subst ek
      exact W.iret (v := (nI (mt_m (mt_ft fv fb j) (mt_cl a) (mt_cl b) 256))) hx hb hr (fun t9 ht hW => ⟨⟨(nI (mt_m (mt_ft fv fb j) (mt_cl a) (mt_cl b) 256)), (cn, 0, fv, fb), rfl, Or.inr ⟨rfl, j, hj, rfl, rfl⟩, by rw [ht]; exact hP, hD⟩, hS.F ht⟩) hS.2.2 dXM_many_77
  · refine lv_if_eq (tgt := 13) hx hb dXM_many_6 (by decide) (fun _ => ?_) (fun z => absurd rfl z)
    refine lv_iconst (v := 1) hx hb dXM_many_13 (by decide +kernel) ?_
    refine va_put (D := g.1) (ci := 2) (v := .int 1) (ty := .int) (C := RXM) (T := TXM) (N := 4) hx hb hts (fun w h => List.mem_cons_of_mem _ (in_XM w h)) tyXM tyXM_ok nmXM hown hK hP hD hS 0 rfl rfl 3 (by decide) (hts _ (List.mem_cons_of_mem _ mw_389)) (fun _ h9 => h9) rfl (by decide +kernel) rfl rfl (Nat.le_of_ble_eq_true rfl) dXM_many_14 (fun H locs hP hD hS => ?_)
    have hP : va_P g.1 vwCl (mt_MW g am av ab (nI cn) 1 fv fb Z) H := hP
    have hD : va_D (mt_A g) (mt_MW g am av ab (nI cn) 1 fv fb Z) := hD
    refine lv_iconst (v := 0) hx hb dXM_many_17 (by decide +kernel) ?_
    refine lv_istore (i := 4) (lv' := [(4, .int 0), (0, .ref am), (1, .int v), (2, .int a), (3, .int b)]) hx hb dXM_many_18 hl (by decide) rfl (fun ls hl => ?_)
    refine lv_iconst (v := 0) hx hb dXM_many_20 (by decide +kernel) ?_
    refine lv_istore (i := 5) (lv' := [(5, .int 0), (4, .int 0), (0, .ref am), (1, .int v), (2, .int a), (3, .int b)]) hx hb dXM_many_21 hl (by decide) rfl (fun ls hl => ?_)
    refine lv_iload hx hb dXM_many_23 (lv_at hl 0 rfl) ?_
    refine lv_sipush (v := (nI 256)) hx hb dXM_many_25 (by decide +kernel) ?_
    refine lv_icmp_ge (tgt := 75) hx hb dXM_many_28 (by decide) (fun z => absurd z (show ¬ (nI 256) ≤ 0 by decide)) (fun _ => ?_)
    refine lv_aload_n hx hb dXM_many_31 rfl (lv_at hl 2 rfl) ?_
    refine va_get (D := g.1) (ci := 2) (v := .int 1) (C := RXM) (T := TXM) (N := 4) hx hb hts (fun w h => List.mem_cons_of_mem _ (in_XM w h)) hown hK hP 0 rfl rfl 3 (by decide) (hts _ (List.mem_cons_of_mem _ mw_389)) (fun _ h9 => h9) rfl dXM_many_32 ?_
    refine lv_if_ne (tgt := 75) hx hb dXM_many_35 (by decide) (fun _ => ?_) (fun z => absurd z (show ¬ (1 : Int32) = 0 by decide))
    refine lv_iload hx hb dXM_many_75 (lv_at hl 1 rfl) ?_
    exact W.iret (v := 0) hx hb hr (fun t9 ht hW => ⟨⟨0, (cn, 1, fv, fb), rfl, Or.inl ⟨hver, rfl⟩, by rw [ht]; exact hP, hD⟩, hS.F ht⟩) hS.2.2 dXM_many_77
set_option maxHeartbeats 4000000 in
set_option maxRecDepth 100000 in
/-- the reference: sum -/
theorem c_M_sum (l : Launch) (g : mt_G) (am av ab : Nat) (cn : Nat) (th : Int32) (fv fb : Nat → Int32) (Z : va_W) (hcn : cn ≤ 600) (hfb : ∀ j, fb j = 0 ∨ fb j = 1) (v a b : Int32) : Met l yXM_sum wsXM_sum ({ frames := 1, cells := 0, slots := 0, locals := 60 }) (mt_Pc g (mt_MW g am av ab (nI cn) th fv fb Z) [.ref am, .int v, .int a, .int b]) (va_Ql (fun r q => (¬ mt_ver v cn ∧ q = (cn, 1, fv, fb)) ∨ (q = (cn, 0, fv, fb) ∧ ∃ j, j < cn ∧ v = nI j ∧ r = mt_ms (mt_ft fv fb j) (mt_cl a) (mt_cl b) 256)) (fun (q : Nat × Int32 × (Nat → Int32) × (Nat → Int32)) t => mt_B g (mt_MW g am av ab (nI q.1) q.2.1 q.2.2.1 q.2.2.2 Z) t) (mt_A g)) (0) (0) (mt_A g) := by
  refine Met.ofW (cc := cXM_sum) (maxL := 7) (ret := (some .long)) (by decide) rfl ?_
  intro p e s m args below meth c s₁ B hml hv
  obtain ⟨rfl, hE, hz, hP, hD⟩ := hv
  have hx := B.exec
  have hb := B.bytes
  have hr := B.returns
  have hts := atoms_spec (ws := wsXM_sum) B.pre
  have hown : s.vm.findClass RXM = some m.cls := findClass_of_methodNamed B.named
  have hlocks := B.notSynchronized
  have hK := hE.k
  have hA : ∀ q : Nat, s.heap.size ≤ q → mt_A g q := fun q h => Nat.le_trans hz h
  have hS : va_S (mt_A g) s.heap s.heap [] := va_S.rf
  have hl := lv_entry ([.ref am, .int v, .int a, .int b]) (n := 7) (Nat.le_of_ble_eq_true rfl)
  rw [lg_entry_eq]
  generalize (lg_sl ([.ref am, .int v, .int a, .int b]) ++ List.replicate (7 - (lg_sl ([.ref am, .int v, .int a, .int b])).length) Slot.unset).toArray = ls at hl ⊢
  have hl : lv_has ls 7 [(0, .ref am), (1, .int v), (2, .int a), (3, .int b)] := hl
  have hH : s.heap = s.heap := rfl
  refine lv_aload_n hx hb dXM_sum_0 rfl (lv_at hl 0 rfl) ?_
  refine lv_aload_n hx hb dXM_sum_1 rfl (lv_at hl 0 rfl) ?_
  refine lv_iload_n hx hb dXM_sum_2 rfl (lv_at hl 1 rfl) ?_
  refine vp_callSi (W.runV (As := [.int v]) (rest := [.ref am]) ⟨hx, hb, hml, hown, hts⟩ (c_M_isOne l g am av ab cn th fv fb Z hcn v) (cwV 1 hts (mt_giV mw_409 mw_410 mw_471 mw_5 (mt_gi mw_411)) rfl rfl rfl (by decide +kernel) ⟨by decide, by decide⟩) (mt_preV hE hz hS hP hD (va_recv hK hP (q := (RXM, TXM, 4)) (q0 := 0) rfl rfl)) rfl rfl hl.1 rfl (lv_room (Nat.le_of_ble_eq_true rfl)) dXM_sum_3 ⟨Nat.zero_le _, Nat.zero_le _⟩) (fun z1 e1 => ?_)
  rcases e1 with ⟨rfl, hver⟩ | ⟨rfl, hver⟩
  · refine lv_if_eq (tgt := 13) hx hb dXM_sum_6 (by decide) (fun z => absurd z (show ¬ (1 : Int32) = 0 by decide)) (fun _ => ?_)
    refine lv_iconst (v := 0) hx hb dXM_sum_9 (by decide +kernel) ?_
    refine lv_goto (tgt := 14) hx hb dXM_sum_10 (by decide) ?_
    refine va_put (D := g.1) (ci := 2) (v := .int 0) (ty := .int) (C := RXM) (T := TXM) (N := 4) hx hb hts (fun w h => List.mem_cons_of_mem _ (in_XM w h)) tyXM tyXM_ok nmXM hown hK hP hD hS 0 rfl rfl 3 (by decide) (hts _ (List.mem_cons_of_mem _ mw_389)) (fun _ h9 => h9) rfl (by decide +kernel) rfl rfl (Nat.le_of_ble_eq_true rfl) dXM_sum_14 (fun H locs hP hD hS => ?_)
    have hP : va_P g.1 vwCl (mt_MW g am av ab (nI cn) 0 fv fb Z) H := hP
    have hD : va_D (mt_A g) (mt_MW g am av ab (nI cn) 0 fv fb Z) := hD
    obtain ⟨j, hj, rfl⟩ := mt_ver_nat hcn hver
    refine lv_lconst (v := 0) hx hb dXM_sum_17 (by decide +kernel) ?_
    refine lv_lstore (i := 4) (lv' := [(4, .long 0), (0, .ref am), (1, .int (nI j)), (2, .int a), (3, .int b)]) hx hb dXM_sum_18 hl (by decide) rfl (fun ls hl => ?_)
    refine lv_iconst (v := 0) hx hb dXM_sum_20 (by decide +kernel) ?_
    refine lv_istore (i := 6) (lv' := [(6, .int 0), (4, .long 0), (0, .ref am), (1, .int (nI j)), (2, .int a), (3, .int b)]) hx hb dXM_sum_21 hl (by decide) rfl (fun ls hl => ?_)
    refine qa_for (V := Nat) (fun v => 256 - v) (fun v => [(6, .int (nI v)), (4, .long (mt_ms (mt_ft fv fb j) (mt_cl a) (mt_cl b) v)), (0, .ref am), (1, .int (nI j)), (2, .int a), (3, .int b)]) (fun v => v ≤ 256) ?_ 0 ls (Nat.zero_le _) hl
    intro k ls hk6 hl ih
    refine lv_iload hx hb dXM_sum_23 (lv_at hl 0 rfl) ?_
    refine lv_sipush (v := (nI 256)) hx hb dXM_sum_25 (by decide +kernel) ?_
    by_cases hlt : k < 256
    · refine lv_icmp_ge (tgt := 91) hx hb dXM_sum_28 (by decide) (fun z => absurd z (nI_ge hlt (by omega))) (fun _ => ?_)
      refine lv_aload_n hx hb dXM_sum_31 rfl (lv_at hl 2 rfl) ?_
      refine va_get (D := g.1) (ci := 2) (v := .int 0) (C := RXM) (T := TXM) (N := 4) hx hb hts (fun w h => List.mem_cons_of_mem _ (in_XM w h)) hown hK hP 0 rfl rfl 3 (by decide) (hts _ (List.mem_cons_of_mem _ mw_389)) (fun _ h9 => h9) rfl dXM_sum_32 ?_
      refine lv_if_ne (tgt := 91) hx hb dXM_sum_35 (by decide) (fun z => absurd (show (0 : Int32) = 0 from rfl) z) (fun _ => ?_)
      refine lv_iload hx hb dXM_sum_38 (lv_at hl 0 rfl) ?_
      refine lv_iload_n hx hb dXM_sum_40 rfl (lv_at hl 4 rfl) ?_
      refine lv_icmp_lt (tgt := 85) hx hb dXM_sum_41 (by decide) (fun c1 => ?_) (fun c1 => ?_)
      · refine lv_iinc (k := 0) (v := (nI (k + 1))) (lv' := [(6, .int (nI (k + 1))), (4, .long (mt_ms (mt_ft fv fb j) (mt_cl a) (mt_cl b) k)), (0, .ref am), (1, .int (nI j)), (2, .int a), (3, .int b)]) hx hb dXM_sum_85 hl rfl (nI_1 k) (by decide) rfl (fun ls hl => ?_)
        refine lv_goto (tgt := 23) hx hb dXM_sum_88 (by decide) ?_
        have hsk : mt_ms (mt_ft fv fb j) (mt_cl a) (mt_cl b) (k + 1) = mt_ms (mt_ft fv fb j) (mt_cl a) (mt_cl b) k := by show mt_ms _ _ _ k + _ = _; rw [if_neg (fun h9 => absurd c1 (Int32.not_lt.mpr ((mt_cl_ge hlt).mpr h9.1)))]; exact Int64.add_zero _
        rw [← hsk] at hl
        have hl := lv_sub (l' := [(6, .int (nI (k + 1))), (4, .long (mt_ms (mt_ft fv fb j) (mt_cl a) (mt_cl b) (k + 1))), (0, .ref am), (1, .int (nI j)), (2, .int a), (3, .int b)]) hl [0, 1, 2, 3, 4, 5] rfl
        exact ih (k + 1) ls (by omega) hlt hl
      · refine lv_iload hx hb dXM_sum_44 (lv_at hl 0 rfl) ?_
        refine lv_iload_n hx hb dXM_sum_46 rfl (lv_at hl 5 rfl) ?_
        refine lv_icmp_ge (tgt := 85) hx hb dXM_sum_47 (by decide) (fun c2 => ?_) (fun c2 => ?_)
        · refine lv_iinc (k := 0) (v := (nI (k + 1))) (lv' := [(6, .int (nI (k + 1))), (4, .long (mt_ms (mt_ft fv fb j) (mt_cl a) (mt_cl b) k)), (0, .ref am), (1, .int (nI j)), (2, .int a), (3, .int b)]) hx hb dXM_sum_85 hl rfl (nI_1 k) (by decide) rfl (fun ls hl => ?_)
          refine lv_goto (tgt := 23) hx hb dXM_sum_88 (by decide) ?_
          have hsk : mt_ms (mt_ft fv fb j) (mt_cl a) (mt_cl b) (k + 1) = mt_ms (mt_ft fv fb j) (mt_cl a) (mt_cl b) k := by show mt_ms _ _ _ k + _ = _; rw [if_neg (fun h9 => absurd ((mt_cl_lt hlt).mpr h9.2) (Int32.not_lt.mpr c2))]; exact Int64.add_zero _
          rw [← hsk] at hl
          have hl := lv_sub (l' := [(6, .int (nI (k + 1))), (4, .long (mt_ms (mt_ft fv fb j) (mt_cl a) (mt_cl b) (k + 1))), (0, .ref am), (1, .int (nI j)), (2, .int a), (3, .int b)]) hl [0, 1, 2, 3, 4, 5] rfl
          exact ih (k + 1) ls (by omega) hlt hl
        · refine lv_aload_n hx hb dXM_sum_50 rfl (lv_at hl 2 rfl) ?_
          refine va_get (D := g.1) (ci := 2) (v := .ref ab) (C := RXM) (T := TXM) (N := 4) hx hb hts (fun w h => List.mem_cons_of_mem _ (in_XM w h)) hown hK hP 0 rfl rfl 1 (by decide) (hts _ (List.mem_cons_of_mem _ mw_387)) (fun _ h9 => h9) rfl dXM_sum_51 ?_
          refine lv_sipush (v := (nI 256)) hx hb dXM_sum_54 (by decide +kernel) ?_
          refine lv_iload_n hx hb dXM_sum_57 rfl (lv_at hl 3 rfl) ?_
          refine lv_imul hx hb dXM_sum_58 ?_
          refine qa_i (y := (nI (256 * j))) (pk_mul 256 j) ?_
          refine lv_iload hx hb dXM_sum_59 (lv_at hl 0 rfl) ?_
          refine lv_iadd hx hb dXM_sum_61 ?_
          refine qa_i (y := (nI (256 * j + k))) (nI_add (256 * j) k) ?_
          refine va_zald (D := g.1) (cl := vwCl) hx hb hK hP 2 3 rfl rfl (vp_in_nI (n := 256 * j + k) (by omega) (by decide)) dXM_sum_62 ?_
          refine qa_i (y := (fb (256 * j + k))) (by rw [nI_clamp (by omega)]) ?_
          rcases hfb (256 * j + k) with hf0 | hf1
          · refine qa_i (y := 0) hf0 ?_
            refine lv_if_eq (tgt := 85) hx hb dXM_sum_63 (by decide) (fun _ => ?_) (fun z => absurd rfl z)
            have hno : mt_ft fv fb j k = none := if_pos hf0
            refine lv_iinc (k := 0) (v := (nI (k + 1))) (lv' := [(6, .int (nI (k + 1))), (4, .long (mt_ms (mt_ft fv fb j) (mt_cl a) (mt_cl b) k)), (0, .ref am), (1, .int (nI j)), (2, .int a), (3, .int b)]) hx hb dXM_sum_85 hl rfl (nI_1 k) (by decide) rfl (fun ls hl => ?_)
            refine lv_goto (tgt := 23) hx hb dXM_sum_88 (by decide) ?_
            have hsk : mt_ms (mt_ft fv fb j) (mt_cl a) (mt_cl b) (k + 1) = mt_ms (mt_ft fv fb j) (mt_cl a) (mt_cl b) k := by show mt_ms _ _ _ k + _ = _; unfold mt_v; rw [hno]; split <;> exact Int64.add_zero _
            rw [← hsk] at hl
            have hl := lv_sub (l' := [(6, .int (nI (k + 1))), (4, .long (mt_ms (mt_ft fv fb j) (mt_cl a) (mt_cl b) (k + 1))), (0, .ref am), (1, .int (nI j)), (2, .int a), (3, .int b)]) hl [0, 1, 2, 3, 4, 5] rfl
            exact ih (k + 1) ls (by omega) hlt hl
          · refine qa_i (y := 1) hf1 ?_
            refine lv_if_eq (tgt := 85) hx hb dXM_sum_63 (by decide) (fun z => absurd z (show ¬ (1 : Int32) = 0 by decide)) (fun _ => ?_)
            have hso : mt_ft fv fb j k = some (fv (256 * j + k)) := if_neg (by rw [hf1]; decide)
            have hst : mt_ms (mt_ft fv fb j) (mt_cl a) (mt_cl b) (k + 1) = mt_ms (mt_ft fv fb j) (mt_cl a) (mt_cl b) k + (fv (256 * j + k)).toInt64 := by show mt_ms _ _ _ k + _ = _; rw [if_pos ⟨(mt_cl_ge hlt).mp (Int32.not_lt.mp c1), (mt_cl_lt hlt).mp (Int32.not_le.mp c2)⟩]; unfold mt_v; rw [hso]
            refine lv_lload hx hb dXM_sum_66 (lv_at hl 1 rfl) ?_
            refine lv_aload_n hx hb dXM_sum_68 rfl (lv_at hl 2 rfl) ?_
            refine va_get (D := g.1) (ci := 2) (v := .ref av) (C := RXM) (T := TXM) (N := 4) hx hb hts (fun w h => List.mem_cons_of_mem _ (in_XM w h)) hown hK hP 0 rfl rfl 0 (by decide) (hts _ (List.mem_cons_of_mem _ mw_386)) (fun _ h9 => h9) rfl dXM_sum_69 ?_
            refine lv_sipush (v := (nI 256)) hx hb dXM_sum_72 (by decide +kernel) ?_
            refine lv_iload_n hx hb dXM_sum_75 rfl (lv_at hl 3 rfl) ?_
            refine lv_imul hx hb dXM_sum_76 ?_
            refine qa_i (y := (nI (256 * j))) (pk_mul 256 j) ?_
            refine lv_iload hx hb dXM_sum_77 (lv_at hl 0 rfl) ?_
            refine lv_iadd hx hb dXM_sum_79 ?_
            refine qa_i (y := (nI (256 * j + k))) (nI_add (256 * j) k) ?_
            refine va_iald (D := g.1) (cl := vwCl) hx hb hK hP 1 2 rfl rfl (vp_in_nI (n := 256 * j + k) (by omega) (by decide)) dXM_sum_80 ?_
            refine qa_i (y := (fv (256 * j + k))) (by rw [nI_clamp (by omega)]) ?_
            refine lv_i2l (v := (fv (256 * j + k)).toInt64) hx hb dXM_sum_81 rfl ?_
            refine lv_ladd hx hb dXM_sum_82 ?_
            refine qa_l (y := (mt_ms (mt_ft fv fb j) (mt_cl a) (mt_cl b) (k + 1))) hst.symm ?_
            refine lv_lstore (i := 4) (lv' := [(4, .long (mt_ms (mt_ft fv fb j) (mt_cl a) (mt_cl b) (k + 1))), (6, .int (nI k)), (0, .ref am), (1, .int (nI j)), (2, .int a), (3, .int b)]) hx hb dXM_sum_83 hl (by decide) rfl (fun ls hl => ?_)
            refine lv_iinc (k := 1) (v := (nI (k + 1))) (lv' := [(6, .int (nI (k + 1))), (4, .long (mt_ms (mt_ft fv fb j) (mt_cl a) (mt_cl b) (k + 1))), (0, .ref am), (1, .int (nI j)), (2, .int a), (3, .int b)]) hx hb dXM_sum_85 hl rfl (nI_1 k) (by decide) rfl (fun ls hl => ?_)
            refine lv_goto (tgt := 23) hx hb dXM_sum_88 (by decide) ?_
            have hl := lv_sub (l' := [(6, .int (nI (k + 1))), (4, .long (mt_ms (mt_ft fv fb j) (mt_cl a) (mt_cl b) (k + 1))), (0, .ref am), (1, .int (nI j)), (2, .int a), (3, .int b)]) hl [0, 1, 2, 3, 4, 5] rfl
            exact ih (k + 1) ls (by omega) hlt hl
    · refine lv_icmp_ge (tgt := 91) hx hb dXM_sum_28 (by decide) (fun _ => ?_) (fun z => absurd (nI_le (a := 256) (b := k) (by omega) (by omega)) z)
      refine lv_lload hx hb dXM_sum_91 (lv_at hl 1 rfl) ?_
      have ek : k = 256 := by omega
      subst ek
      exact W.lret (v := (mt_ms (mt_ft fv fb j) (mt_cl a) (mt_cl b) 256)) hx hb hr (fun t9 ht hW => ⟨⟨(mt_ms (mt_ft fv fb j) (mt_cl a) (mt_cl b) 256), (cn, 0, fv, fb), rfl, Or.inr ⟨rfl, j, hj, rfl, rfl⟩, by rw [ht]; exact hP, hD⟩, hS.F ht⟩) hS.2.2 dXM_sum_93
  · refine lv_if_eq (tgt := 13) hx hb dXM_sum_6 (by decide) (fun _ => ?_) (fun z => absurd rfl z)
    refine lv_iconst (v := 1) hx hb dXM_sum_13 (by decide +kernel) ?_
    refine va_put (D := g.1) (ci := 2) (v := .int 1) (ty := .int) (C := RXM) (T := TXM) (N := 4) hx hb hts (fun w h => List.mem_cons_of_mem _ (in_XM w h)) tyXM tyXM_ok nmXM hown hK hP hD hS 0 rfl rfl 3 (by decide) (hts _ (List.mem_cons_of_mem _ mw_389)) (fun _ h9 => h9) rfl (by decide +kernel) rfl rfl (Nat.le_of_ble_eq_true rfl) dXM_sum_14 (fun H locs hP hD hS => ?_)
    have hP : va_P g.1 vwCl (mt_MW g am av ab (nI cn) 1 fv fb Z) H := hP
    have hD : va_D (mt_A g) (mt_MW g am av ab (nI cn) 1 fv fb Z) := hD
    refine lv_lconst (v := 0) hx hb dXM_sum_17 (by decide +kernel) ?_
    refine lv_lstore (i := 4) (lv' := [(4, .long 0), (0, .ref am), (1, .int v), (2, .int a), (3, .int b)]) hx hb dXM_sum_18 hl (by decide) rfl (fun ls hl => ?_)
    refine lv_iconst (v := 0) hx hb dXM_sum_20 (by decide +kernel) ?_
    refine lv_istore (i := 6) (lv' := [(6, .int 0), (4, .long 0), (0, .ref am), (1, .int v), (2, .int a), (3, .int b)]) hx hb dXM_sum_21 hl (by decide) rfl (fun ls hl => ?_)
    refine lv_iload hx hb dXM_sum_23 (lv_at hl 0 rfl) ?_
    refine lv_sipush (v := (nI 256)) hx hb dXM_sum_25 (by decide +kernel) ?_
    refine lv_icmp_ge (tgt := 91) hx hb dXM_sum_28 (by decide) (fun z => absurd z (show ¬ (nI 256) ≤ 0 by decide)) (fun _ => ?_)
    refine lv_aload_n hx hb dXM_sum_31 rfl (lv_at hl 2 rfl) ?_
    refine va_get (D := g.1) (ci := 2) (v := .int 1) (C := RXM) (T := TXM) (N := 4) hx hb hts (fun w h => List.mem_cons_of_mem _ (in_XM w h)) hown hK hP 0 rfl rfl 3 (by decide) (hts _ (List.mem_cons_of_mem _ mw_389)) (fun _ h9 => h9) rfl dXM_sum_32 ?_
    refine lv_if_ne (tgt := 91) hx hb dXM_sum_35 (by decide) (fun _ => ?_) (fun z => absurd z (show ¬ (1 : Int32) = 0 by decide))
    refine lv_lload hx hb dXM_sum_91 (lv_at hl 1 rfl) ?_
    exact W.lret (v := 0) hx hb hr (fun t9 ht hW => ⟨⟨0, (cn, 1, fv, fb), rfl, Or.inl ⟨hver, rfl⟩, by rw [ht]; exact hP, hD⟩, hS.F ht⟩) hS.2.2 dXM_sum_93
set_option maxHeartbeats 4000000 in
set_option maxRecDepth 100000 in
/-- the reference: digest -/
theorem c_M_digest (l : Launch) (g : mt_G) (am av ab : Nat) (cn : Nat) (th : Int32) (fv fb : Nat → Int32) (Z : va_W) (hcn : cn ≤ 600) (hfb : ∀ j, fb j = 0 ∨ fb j = 1) (v : Int32) : Met l yXM_digest wsXM_digest ({ frames := 1, cells := 0, slots := 0, locals := 60 }) (mt_Pc g (mt_MW g am av ab (nI cn) th fv fb Z) [.ref am, .int v]) (va_Ql (fun r q => (¬ mt_ver v cn ∧ q = (cn, 1, fv, fb)) ∨ (q = (cn, 0, fv, fb) ∧ ∃ j, j < cn ∧ v = nI j ∧ r = mt_g (mt_ft fv fb j) 0 7 256)) (fun (q : Nat × Int32 × (Nat → Int32) × (Nat → Int32)) t => mt_B g (mt_MW g am av ab (nI q.1) q.2.1 q.2.2.1 q.2.2.2 Z) t) (mt_A g)) (0) (0) (mt_A g) := by
  refine Met.ofW (cc := cXM_digest) (maxL := 5) (ret := (some .long)) (by decide) rfl ?_
  intro p e s m args below meth c s₁ B hml hv
  obtain ⟨rfl, hE, hz, hP, hD⟩ := hv
  have hx := B.exec
  have hb := B.bytes
  have hr := B.returns
  have hts := atoms_spec (ws := wsXM_digest) B.pre
  have hown : s.vm.findClass RXM = some m.cls := findClass_of_methodNamed B.named
  have hlocks := B.notSynchronized
  have hK := hE.k
  have hA : ∀ q : Nat, s.heap.size ≤ q → mt_A g q := fun q h => Nat.le_trans hz h
  have hS : va_S (mt_A g) s.heap s.heap [] := va_S.rf
  have hl := lv_entry ([.ref am, .int v]) (n := 5) (Nat.le_of_ble_eq_true rfl)
  rw [lg_entry_eq]
  generalize (lg_sl ([.ref am, .int v]) ++ List.replicate (5 - (lg_sl ([.ref am, .int v])).length) Slot.unset).toArray = ls at hl ⊢
  have hl : lv_has ls 5 [(0, .ref am), (1, .int v)] := hl
  have hH : s.heap = s.heap := rfl
  refine lv_aload_n hx hb dXM_digest_0 rfl (lv_at hl 0 rfl) ?_
  refine lv_aload_n hx hb dXM_digest_1 rfl (lv_at hl 0 rfl) ?_
  refine lv_iload_n hx hb dXM_digest_2 rfl (lv_at hl 1 rfl) ?_
  refine vp_callSi (W.runV (As := [.int v]) (rest := [.ref am]) ⟨hx, hb, hml, hown, hts⟩ (c_M_isOne l g am av ab cn th fv fb Z hcn v) (cwV 1 hts (mt_giV mw_409 mw_410 mw_471 mw_5 (mt_gi mw_411)) rfl rfl rfl (by decide +kernel) ⟨by decide, by decide⟩) (mt_preV hE hz hS hP hD (va_recv hK hP (q := (RXM, TXM, 4)) (q0 := 0) rfl rfl)) rfl rfl hl.1 rfl (lv_room (Nat.le_of_ble_eq_true rfl)) dXM_digest_3 ⟨Nat.zero_le _, Nat.zero_le _⟩) (fun z1 e1 => ?_)
  rcases e1 with ⟨rfl, hver⟩ | ⟨rfl, hver⟩
  · refine lv_if_eq (tgt := 13) hx hb dXM_digest_6 (by decide) (fun z => absurd z (show ¬ (1 : Int32) = 0 by decide)) (fun _ => ?_)
    refine lv_iconst (v := 0) hx hb dXM_digest_9 (by decide +kernel) ?_
    refine lv_goto (tgt := 14) hx hb dXM_digest_10 (by decide) ?_
    refine va_put (D := g.1) (ci := 2) (v := .int 0) (ty := .int) (C := RXM) (T := TXM) (N := 4) hx hb hts (fun w h => List.mem_cons_of_mem _ (in_XM w h)) tyXM tyXM_ok nmXM hown hK hP hD hS 0 rfl rfl 3 (by decide) (hts _ (List.mem_cons_of_mem _ mw_389)) (fun _ h9 => h9) rfl (by decide +kernel) rfl rfl (Nat.le_of_ble_eq_true rfl) dXM_digest_14 (fun H locs hP hD hS => ?_)
    have hP : va_P g.1 vwCl (mt_MW g am av ab (nI cn) 0 fv fb Z) H := hP
    have hD : va_D (mt_A g) (mt_MW g am av ab (nI cn) 0 fv fb Z) := hD
    obtain ⟨j, hj, rfl⟩ := mt_ver_nat hcn hver
    refine lv_ldc2 (v := 7) hx hb hown (hts _ (List.mem_cons_of_mem _ mw_450)) dXM_digest_17 ?_
    refine lv_lstore_n (i := 2) (lv' := [(2, .long 7), (0, .ref am), (1, .int (nI j))]) hx hb dXM_digest_20 rfl hl (by decide) rfl (fun ls hl => ?_)
    refine lv_iconst (v := 0) hx hb dXM_digest_21 (by decide +kernel) ?_
    refine lv_istore (i := 4) (lv' := [(4, .int 0), (2, .long 7), (0, .ref am), (1, .int (nI j))]) hx hb dXM_digest_22 hl (by decide) rfl (fun ls hl => ?_)
    refine qa_for (V := Nat) (fun v => 256 - v) (fun v => [(4, .int (nI v)), (2, .long (mt_g (mt_ft fv fb j) 0 7 v)), (0, .ref am), (1, .int (nI j))]) (fun v => v ≤ 256) ?_ 0 ls (Nat.zero_le _) hl
    intro k ls hk6 hl ih
    refine lv_iload hx hb dXM_digest_24 (lv_at hl 0 rfl) ?_
    refine lv_sipush (v := (nI 256)) hx hb dXM_digest_26 (by decide +kernel) ?_
    by_cases hlt : k < 256
    · refine lv_icmp_ge (tgt := 90) hx hb dXM_digest_29 (by decide) (fun z => absurd z (nI_ge hlt (by omega))) (fun _ => ?_)
      refine lv_aload_n hx hb dXM_digest_32 rfl (lv_at hl 2 rfl) ?_
      refine va_get (D := g.1) (ci := 2) (v := .int 0) (C := RXM) (T := TXM) (N := 4) hx hb hts (fun w h => List.mem_cons_of_mem _ (in_XM w h)) hown hK hP 0 rfl rfl 3 (by decide) (hts _ (List.mem_cons_of_mem _ mw_389)) (fun _ h9 => h9) rfl dXM_digest_33 ?_
      refine lv_if_ne (tgt := 90) hx hb dXM_digest_36 (by decide) (fun z => absurd (show (0 : Int32) = 0 from rfl) z) (fun _ => ?_)
      refine lv_aload_n hx hb dXM_digest_39 rfl (lv_at hl 2 rfl) ?_
      refine va_get (D := g.1) (ci := 2) (v := .ref ab) (C := RXM) (T := TXM) (N := 4) hx hb hts (fun w h => List.mem_cons_of_mem _ (in_XM w h)) hown hK hP 0 rfl rfl 1 (by decide) (hts _ (List.mem_cons_of_mem _ mw_387)) (fun _ h9 => h9) rfl dXM_digest_40 ?_
      refine lv_sipush (v := (nI 256)) hx hb dXM_digest_43 (by decide +kernel) ?_
      refine lv_iload_n hx hb dXM_digest_46 rfl (lv_at hl 3 rfl) ?_
      refine lv_imul hx hb dXM_digest_47 ?_
      refine qa_i (y := (nI (256 * j))) (pk_mul 256 j) ?_
      refine lv_iload hx hb dXM_digest_48 (lv_at hl 0 rfl) ?_
      refine lv_iadd hx hb dXM_digest_50 ?_
      refine qa_i (y := (nI (256 * j + k))) (nI_add (256 * j) k) ?_
      refine va_zald (D := g.1) (cl := vwCl) hx hb hK hP 2 3 rfl rfl (vp_in_nI (n := 256 * j + k) (by omega) (by decide)) dXM_digest_51 ?_
      refine qa_i (y := (fb (256 * j + k))) (by rw [nI_clamp (by omega)]) ?_
      rcases hfb (256 * j + k) with hf0 | hf1
      · refine qa_i (y := 0) hf0 ?_
        refine lv_if_eq (tgt := 84) hx hb dXM_digest_52 (by decide) (fun _ => ?_) (fun z => absurd rfl z)
        have hno : mt_ft fv fb j k = none := if_pos hf0
        refine lv_iinc (k := 0) (v := (nI (k + 1))) (lv' := [(4, .int (nI (k + 1))), (2, .long (mt_g (mt_ft fv fb j) 0 7 k)), (0, .ref am), (1, .int (nI j))]) hx hb dXM_digest_84 hl rfl (nI_1 k) (by decide) rfl (fun ls hl => ?_)
        refine lv_goto (tgt := 24) hx hb dXM_digest_87 (by decide) ?_
        have hsk : mt_g (mt_ft fv fb j) 0 7 (k + 1) = mt_g (mt_ft fv fb j) 0 7 k := by show mt_gs _ (0 + k) (mt_ft fv fb j (0 + k)) = _; rw [Nat.zero_add, hno]; rfl
        rw [← hsk] at hl
        have hl := lv_sub (l' := [(4, .int (nI (k + 1))), (2, .long (mt_g (mt_ft fv fb j) 0 7 (k + 1))), (0, .ref am), (1, .int (nI j))]) hl [0, 1, 2, 3] rfl
        exact ih (k + 1) ls (by omega) hlt hl
      · refine qa_i (y := 1) hf1 ?_
        refine lv_if_eq (tgt := 84) hx hb dXM_digest_52 (by decide) (fun z => absurd z (show ¬ (1 : Int32) = 0 by decide)) (fun _ => ?_)
        have hso : mt_ft fv fb j k = some (fv (256 * j + k)) := if_neg (by rw [hf1]; decide)
        have hst : mt_g (mt_ft fv fb j) 0 7 (k + 1) = (31 : Int64) * ((31 : Int64) * (mt_g (mt_ft fv fb j) 0 7 k) + (nI k).toInt64) + (fv (256 * j + k)).toInt64 := by show mt_gs _ (0 + k) (mt_ft fv fb j (0 + k)) = _; rw [Nat.zero_add, hso]; show (_ * 31 + _) * 31 + _ = _; rw [Int64.mul_comm _ 31, Int64.mul_comm _ 31]
        refine lv_ldc2 (v := 31) hx hb hown (hts _ (List.mem_cons_of_mem _ mw_451)) dXM_digest_55 ?_
        refine lv_ldc2 (v := 31) hx hb hown (hts _ (List.mem_cons_of_mem _ mw_451)) dXM_digest_58 ?_
        refine lv_lload_n hx hb dXM_digest_61 rfl (lv_at hl 1 rfl) ?_
        refine lv_lmul hx hb dXM_digest_62 ?_
        refine lv_iload hx hb dXM_digest_63 (lv_at hl 0 rfl) ?_
        refine lv_i2l (v := (nI k).toInt64) hx hb dXM_digest_65 rfl ?_
        refine lv_ladd hx hb dXM_digest_66 ?_
        refine lv_lmul hx hb dXM_digest_67 ?_
        refine lv_aload_n hx hb dXM_digest_68 rfl (lv_at hl 2 rfl) ?_
        refine va_get (D := g.1) (ci := 2) (v := .ref av) (C := RXM) (T := TXM) (N := 4) hx hb hts (fun w h => List.mem_cons_of_mem _ (in_XM w h)) hown hK hP 0 rfl rfl 0 (by decide) (hts _ (List.mem_cons_of_mem _ mw_386)) (fun _ h9 => h9) rfl dXM_digest_69 ?_
        refine lv_sipush (v := (nI 256)) hx hb dXM_digest_72 (by decide +kernel) ?_
        refine lv_iload_n hx hb dXM_digest_75 rfl (lv_at hl 3 rfl) ?_
        refine lv_imul hx hb dXM_digest_76 ?_
        refine qa_i (y := (nI (256 * j))) (pk_mul 256 j) ?_
        refine lv_iload hx hb dXM_digest_77 (lv_at hl 0 rfl) ?_
        refine lv_iadd hx hb dXM_digest_79 ?_
        refine qa_i (y := (nI (256 * j + k))) (nI_add (256 * j) k) ?_
        refine va_iald (D := g.1) (cl := vwCl) hx hb hK hP 1 2 rfl rfl (vp_in_nI (n := 256 * j + k) (by omega) (by decide)) dXM_digest_80 ?_
        refine qa_i (y := (fv (256 * j + k))) (by rw [nI_clamp (by omega)]) ?_
        refine lv_i2l (v := (fv (256 * j + k)).toInt64) hx hb dXM_digest_81 rfl ?_
        refine lv_ladd hx hb dXM_digest_82 ?_
        refine qa_l (y := (mt_g (mt_ft fv fb j) 0 7 (k + 1))) hst.symm ?_
        refine lv_lstore_n (i := 2) (lv' := [(2, .long (mt_g (mt_ft fv fb j) 0 7 (k + 1))), (4, .int (nI k)), (0, .ref am), (1, .int (nI j))]) hx hb dXM_digest_83 rfl hl (by decide) rfl (fun ls hl => ?_)
        refine lv_iinc (k := 1) (v := (nI (k + 1))) (lv' := [(4, .int (nI (k + 1))), (2, .long (mt_g (mt_ft fv fb j) 0 7 (k + 1))), (0, .ref am), (1, .int (nI j))]) hx hb dXM_digest_84 hl rfl (nI_1 k) (by decide) rfl (fun ls hl => ?_)
        refine lv_goto (tgt := 24) hx hb dXM_digest_87 (by decide) ?_
        have hl := lv_sub (l' := [(4, .int (nI (k + 1))), (2, .long (mt_g (mt_ft fv fb j) 0 7 (k + 1))), (0, .ref am), (1, .int (nI j))]) hl [0, 1, 2, 3] rfl
        exact ih (k + 1) ls (by omega) hlt hl
    · refine lv_icmp_ge (tgt := 90) hx hb dXM_digest_29 (by decide) (fun _ => ?_) (fun z => absurd (nI_le (a := 256) (b := k) (by omega) (by omega)) z)
      refine lv_aload_n hx hb dXM_digest_90 rfl (lv_at hl 2 rfl) ?_
      have ek : k = 256 := by omega
      subst ek
      refine va_get (D := g.1) (ci := 2) (v := .int 0) (C := RXM) (T := TXM) (N := 4) hx hb hts (fun w h => List.mem_cons_of_mem _ (in_XM w h)) hown hK hP 0 rfl rfl 3 (by decide) (hts _ (List.mem_cons_of_mem _ mw_389)) (fun _ h9 => h9) rfl dXM_digest_91 ?_
      refine lv_if_le (tgt := 101) hx hb dXM_digest_94 (by decide) (fun _ => ?_) (fun z => absurd (show (0 : Int32) ≤ 0 by decide) z)
      refine lv_lload_n hx hb dXM_digest_101 rfl (lv_at hl 1 rfl) ?_
      exact W.lret (v := (mt_g (mt_ft fv fb j) 0 7 256)) hx hb hr (fun t9 ht hW => ⟨⟨(mt_g (mt_ft fv fb j) 0 7 256), (cn, 0, fv, fb), rfl, Or.inr ⟨rfl, j, hj, rfl, rfl⟩, by rw [ht]; exact hP, hD⟩, hS.F ht⟩) hS.2.2 dXM_digest_102
  · refine lv_if_eq (tgt := 13) hx hb dXM_digest_6 (by decide) (fun _ => ?_) (fun z => absurd rfl z)
    refine lv_iconst (v := 1) hx hb dXM_digest_13 (by decide +kernel) ?_
    refine va_put (D := g.1) (ci := 2) (v := .int 1) (ty := .int) (C := RXM) (T := TXM) (N := 4) hx hb hts (fun w h => List.mem_cons_of_mem _ (in_XM w h)) tyXM tyXM_ok nmXM hown hK hP hD hS 0 rfl rfl 3 (by decide) (hts _ (List.mem_cons_of_mem _ mw_389)) (fun _ h9 => h9) rfl (by decide +kernel) rfl rfl (Nat.le_of_ble_eq_true rfl) dXM_digest_14 (fun H locs hP hD hS => ?_)
    have hP : va_P g.1 vwCl (mt_MW g am av ab (nI cn) 1 fv fb Z) H := hP
    have hD : va_D (mt_A g) (mt_MW g am av ab (nI cn) 1 fv fb Z) := hD
    refine lv_ldc2 (v := 7) hx hb hown (hts _ (List.mem_cons_of_mem _ mw_450)) dXM_digest_17 ?_
    refine lv_lstore_n (i := 2) (lv' := [(2, .long 7), (0, .ref am), (1, .int v)]) hx hb dXM_digest_20 rfl hl (by decide) rfl (fun ls hl => ?_)
    refine lv_iconst (v := 0) hx hb dXM_digest_21 (by decide +kernel) ?_
    refine lv_istore (i := 4) (lv' := [(4, .int 0), (2, .long 7), (0, .ref am), (1, .int v)]) hx hb dXM_digest_22 hl (by decide) rfl (fun ls hl => ?_)
    refine lv_iload hx hb dXM_digest_24 (lv_at hl 0 rfl) ?_
    refine lv_sipush (v := (nI 256)) hx hb dXM_digest_26 (by decide +kernel) ?_
    refine lv_icmp_ge (tgt := 90) hx hb dXM_digest_29 (by decide) (fun z => absurd z (show ¬ (nI 256) ≤ 0 by decide)) (fun _ => ?_)
    refine lv_aload_n hx hb dXM_digest_32 rfl (lv_at hl 2 rfl) ?_
    refine va_get (D := g.1) (ci := 2) (v := .int 1) (C := RXM) (T := TXM) (N := 4) hx hb hts (fun w h => List.mem_cons_of_mem _ (in_XM w h)) hown hK hP 0 rfl rfl 3 (by decide) (hts _ (List.mem_cons_of_mem _ mw_389)) (fun _ h9 => h9) rfl dXM_digest_33 ?_
    refine lv_if_ne (tgt := 90) hx hb dXM_digest_36 (by decide) (fun _ => ?_) (fun z => absurd z (show ¬ (1 : Int32) = 0 by decide))
    refine lv_aload_n hx hb dXM_digest_90 rfl (lv_at hl 2 rfl) ?_
    refine va_get (D := g.1) (ci := 2) (v := .int 1) (C := RXM) (T := TXM) (N := 4) hx hb hts (fun w h => List.mem_cons_of_mem _ (in_XM w h)) hown hK hP 0 rfl rfl 3 (by decide) (hts _ (List.mem_cons_of_mem _ mw_389)) (fun _ h9 => h9) rfl dXM_digest_91 ?_
    refine lv_if_le (tgt := 101) hx hb dXM_digest_94 (by decide) (fun z => absurd z (show ¬ (1 : Int32) ≤ 0 by decide)) (fun _ => ?_)
    refine lv_lconst (v := 0) hx hb dXM_digest_97 (by decide +kernel) ?_
    refine lv_goto (tgt := 102) hx hb dXM_digest_98 (by decide) ?_
    exact W.lret (v := 0) hx hb hr (fun t9 ht hW => ⟨⟨0, (cn, 1, fv, fb), rfl, Or.inl ⟨hver, rfl⟩, by rw [ht]; exact hP, hD⟩, hS.F ht⟩) hS.2.2 dXM_digest_102
set_option maxHeartbeats 4000000 in
set_option maxRecDepth 100000 in
/-- the reference: differ -/
theorem c_M_differ (l : Launch) (g : mt_G) (am av ab : Nat) (cn : Nat) (th : Int32) (fv fb : Nat → Int32) (Z : va_W) (hcn : cn ≤ 600) (hfb : ∀ j, fb j = 0 ∨ fb j = 1) (v w : Int32) : Met l yXM_differ wsXM_differ ({ frames := 1, cells := 0, slots := 0, locals := 60 }) (mt_Pc g (mt_MW g am av ab (nI cn) th fv fb Z) [.ref am, .int v, .int w]) (va_Qi (fun r q => (¬ (mt_ver v cn ∧ mt_ver w cn) ∧ q = (cn, 1, fv, fb)) ∨ (q = (cn, 0, fv, fb) ∧ ∃ j i, j < cn ∧ i < cn ∧ v = nI j ∧ w = nI i ∧ r = nI (mt_d (mt_ft fv fb j) (mt_ft fv fb i) 0 256))) (fun (q : Nat × Int32 × (Nat → Int32) × (Nat → Int32)) t => mt_B g (mt_MW g am av ab (nI q.1) q.2.1 q.2.2.1 q.2.2.2 Z) t) (mt_A g)) (0) (0) (mt_A g) := by
  refine Met.ofW (cc := cXM_differ) (maxL := 7) (ret := (some .int)) (by decide) rfl ?_
  intro p e s m args below meth c s₁ B hml hv
  obtain ⟨rfl, hE, hz, hP, hD⟩ := hv
  have hx := B.exec
  have hb := B.bytes
  have hr := B.returns
  have hts := atoms_spec (ws := wsXM_differ) B.pre
  have hown : s.vm.findClass RXM = some m.cls := findClass_of_methodNamed B.named
  have hlocks := B.notSynchronized
  have hK := hE.k
  have hA : ∀ q : Nat, s.heap.size ≤ q → mt_A g q := fun q h => Nat.le_trans hz h
  have hS : va_S (mt_A g) s.heap s.heap [] := va_S.rf
  have hl := lv_entry ([.ref am, .int v, .int w]) (n := 7) (Nat.le_of_ble_eq_true rfl)
  rw [lg_entry_eq]
  generalize (lg_sl ([.ref am, .int v, .int w]) ++ List.replicate (7 - (lg_sl ([.ref am, .int v, .int w])).length) Slot.unset).toArray = ls at hl ⊢
  have hl : lv_has ls 7 [(0, .ref am), (1, .int v), (2, .int w)] := hl
  have hH : s.heap = s.heap := rfl
  refine lv_aload_n hx hb dXM_differ_0 rfl (lv_at hl 0 rfl) ?_
  refine lv_aload_n hx hb dXM_differ_1 rfl (lv_at hl 0 rfl) ?_
  refine lv_iload_n hx hb dXM_differ_2 rfl (lv_at hl 1 rfl) ?_
  refine vp_callSi (W.runV (As := [.int v]) (rest := [.ref am]) ⟨hx, hb, hml, hown, hts⟩ (c_M_isOne l g am av ab cn th fv fb Z hcn v) (cwV 1 hts (mt_giV mw_409 mw_410 mw_471 mw_5 (mt_gi mw_411)) rfl rfl rfl (by decide +kernel) ⟨by decide, by decide⟩) (mt_preV hE hz hS hP hD (va_recv hK hP (q := (RXM, TXM, 4)) (q0 := 0) rfl rfl)) rfl rfl hl.1 rfl (lv_room (Nat.le_of_ble_eq_true rfl)) dXM_differ_3 ⟨Nat.zero_le _, Nat.zero_le _⟩) (fun z1 e1 => ?_)
  rcases e1 with ⟨rfl, hver⟩ | ⟨rfl, hver⟩
  · refine lv_if_eq (tgt := 21) hx hb dXM_differ_6 (by decide) (fun z => absurd z (show ¬ (1 : Int32) = 0 by decide)) (fun _ => ?_)
    refine lv_aload_n hx hb dXM_differ_9 rfl (lv_at hl 0 rfl) ?_
    refine lv_iload_n hx hb dXM_differ_10 rfl (lv_at hl 2 rfl) ?_
    refine vp_callSi (W.runV (As := [.int w]) (rest := [.ref am]) ⟨hx, hb, hml, hown, hts⟩ (c_M_isOne l g am av ab cn th fv fb Z hcn w) (cwV 1 hts (mt_giV mw_409 mw_410 mw_471 mw_5 (mt_gi mw_411)) rfl rfl rfl (by decide +kernel) ⟨by decide, by decide⟩) (mt_preV hE hz hS hP hD (va_recv hK hP (q := (RXM, TXM, 4)) (q0 := 0) rfl rfl)) rfl rfl hl.1 rfl (lv_room (Nat.le_of_ble_eq_true rfl)) dXM_differ_11 ⟨Nat.zero_le _, Nat.zero_le _⟩) (fun z2 e2 => ?_)
    rcases e2 with ⟨rfl, hver2⟩ | ⟨rfl, hver2⟩
    · refine lv_if_eq (tgt := 21) hx hb dXM_differ_14 (by decide) (fun z => absurd z (show ¬ (1 : Int32) = 0 by decide)) (fun _ => ?_)
      refine lv_iconst (v := 0) hx hb dXM_differ_17 (by decide +kernel) ?_
      refine lv_goto (tgt := 22) hx hb dXM_differ_18 (by decide) ?_
      refine va_put (D := g.1) (ci := 2) (v := .int 0) (ty := .int) (C := RXM) (T := TXM) (N := 4) hx hb hts (fun w h => List.mem_cons_of_mem _ (in_XM w h)) tyXM tyXM_ok nmXM hown hK hP hD hS 0 rfl rfl 3 (by decide) (hts _ (List.mem_cons_of_mem _ mw_389)) (fun _ h9 => h9) rfl (by decide +kernel) rfl rfl (Nat.le_of_ble_eq_true rfl) dXM_differ_22 (fun H locs hP hD hS => ?_)
      have hP : va_P g.1 vwCl (mt_MW g am av ab (nI cn) 0 fv fb Z) H := hP
      have hD : va_D (mt_A g) (mt_MW g am av ab (nI cn) 0 fv fb Z) := hD
      obtain ⟨j, hj, rfl⟩ := mt_ver_nat hcn hver
      obtain ⟨i, hi, rfl⟩ := mt_ver_nat hcn hver2
      refine lv_iconst (v := 0) hx hb dXM_differ_25 (by decide +kernel) ?_
      refine lv_istore_n (i := 3) (lv' := [(3, .int 0), (0, .ref am), (1, .int (nI j)), (2, .int (nI i))]) hx hb dXM_differ_26 rfl hl (by decide) rfl (fun ls hl => ?_)
      refine lv_iconst (v := 0) hx hb dXM_differ_27 (by decide +kernel) ?_
      refine lv_istore (i := 4) (lv' := [(4, .int 0), (3, .int 0), (0, .ref am), (1, .int (nI j)), (2, .int (nI i))]) hx hb dXM_differ_28 hl (by decide) rfl (fun ls hl => ?_)
      refine qa_for (V := Nat) (fun v => 256 - v) (fun v => [(4, .int (nI v)), (3, .int (nI (mt_d (mt_ft fv fb j) (mt_ft fv fb i) 0 v))), (0, .ref am), (1, .int (nI j)), (2, .int (nI i))]) (fun v => v ≤ 256) ?_ 0 ls (Nat.zero_le _) hl
      intro k ls hk6 hl ih
      refine lv_iload hx hb dXM_differ_30 (lv_at hl 0 rfl) ?_
      refine lv_sipush (v := (nI 256)) hx hb dXM_differ_32 (by decide +kernel) ?_
      by_cases hlt : k < 256
      · refine lv_icmp_ge (tgt := 118) hx hb dXM_differ_35 (by decide) (fun z => absurd z (nI_ge hlt (by omega))) (fun _ => ?_)
        refine lv_aload_n hx hb dXM_differ_38 rfl (lv_at hl 2 rfl) ?_
        refine va_get (D := g.1) (ci := 2) (v := .int 0) (C := RXM) (T := TXM) (N := 4) hx hb hts (fun w h => List.mem_cons_of_mem _ (in_XM w h)) hown hK hP 0 rfl rfl 3 (by decide) (hts _ (List.mem_cons_of_mem _ mw_389)) (fun _ h9 => h9) rfl dXM_differ_39 ?_
        refine lv_if_ne (tgt := 118) hx hb dXM_differ_42 (by decide) (fun z => absurd (show (0 : Int32) = 0 from rfl) z) (fun _ => ?_)
        have hds : mt_d (mt_ft fv fb j) (mt_ft fv fb i) 0 (k + 1) = mt_d (mt_ft fv fb j) (mt_ft fv fb i) 0 k + (if mt_ft fv fb j k = mt_ft fv fb i k then 0 else 1) := by show _ + (if mt_ft fv fb j (0 + k) = mt_ft fv fb i (0 + k) then 0 else 1) = _; rw [Nat.zero_add]
        refine lv_sipush (v := (nI 256)) hx hb dXM_differ_45 (by decide +kernel) ?_
        refine lv_iload_n hx hb dXM_differ_48 rfl (lv_at hl 3 rfl) ?_
        refine lv_imul hx hb dXM_differ_49 ?_
        refine qa_i (y := (nI (256 * j))) (pk_mul 256 j) ?_
        refine lv_iload hx hb dXM_differ_50 (lv_at hl 0 rfl) ?_
        refine lv_iadd hx hb dXM_differ_52 ?_
        refine qa_i (y := (nI (256 * j + k))) (nI_add (256 * j) k) ?_
        refine lv_istore (i := 5) (lv' := [(5, .int (nI (256 * j + k))), (4, .int (nI k)), (3, .int (nI (mt_d (mt_ft fv fb j) (mt_ft fv fb i) 0 k))), (0, .ref am), (1, .int (nI j)), (2, .int (nI i))]) hx hb dXM_differ_53 hl (by decide) rfl (fun ls hl => ?_)
        refine lv_sipush (v := (nI 256)) hx hb dXM_differ_55 (by decide +kernel) ?_
        refine lv_iload_n hx hb dXM_differ_58 rfl (lv_at hl 5 rfl) ?_
        refine lv_imul hx hb dXM_differ_59 ?_
        refine qa_i (y := (nI (256 * i))) (pk_mul 256 i) ?_
        refine lv_iload hx hb dXM_differ_60 (lv_at hl 1 rfl) ?_
        refine lv_iadd hx hb dXM_differ_62 ?_
        refine qa_i (y := (nI (256 * i + k))) (nI_add (256 * i) k) ?_
        refine lv_istore (i := 6) (lv' := [(6, .int (nI (256 * i + k))), (5, .int (nI (256 * j + k))), (4, .int (nI k)), (3, .int (nI (mt_d (mt_ft fv fb j) (mt_ft fv fb i) 0 k))), (0, .ref am), (1, .int (nI j)), (2, .int (nI i))]) hx hb dXM_differ_63 hl (by decide) rfl (fun ls hl => ?_)
        refine lv_aload_n hx hb dXM_differ_65 rfl (lv_at hl 4 rfl) ?_
        refine va_get (D := g.1) (ci := 2) (v := .ref ab) (C := RXM) (T := TXM) (N := 4) hx hb hts (fun w h => List.mem_cons_of_mem _ (in_XM w h)) hown hK hP 0 rfl rfl 1 (by decide) (hts _ (List.mem_cons_of_mem _ mw_387)) (fun _ h9 => h9) rfl dXM_differ_66 ?_
        refine lv_iload hx hb dXM_differ_69 (lv_at hl 1 rfl) ?_
        refine va_zald (D := g.1) (cl := vwCl) hx hb hK hP 2 3 rfl rfl (vp_in_nI (n := 256 * j + k) (by omega) (by decide)) dXM_differ_71 ?_
        refine qa_i (y := (fb (256 * j + k))) (by rw [nI_clamp (by omega)]) ?_
        refine lv_aload_n hx hb dXM_differ_72 rfl (lv_at hl 4 rfl) ?_
        refine va_get (D := g.1) (ci := 2) (v := .ref ab) (C := RXM) (T := TXM) (N := 4) hx hb hts (fun w h => List.mem_cons_of_mem _ (in_XM w h)) hown hK hP 0 rfl rfl 1 (by decide) (hts _ (List.mem_cons_of_mem _ mw_387)) (fun _ h9 => h9) rfl dXM_differ_73 ?_
        refine lv_iload hx hb dXM_differ_76 (lv_at hl 0 rfl) ?_
        refine va_zald (D := g.1) (cl := vwCl) hx hb hK hP 2 3 rfl rfl (vp_in_nI (n := 256 * i + k) (by omega) (by decide)) dXM_differ_78 ?_
        refine qa_i (y := (fb (256 * i + k))) (by rw [nI_clamp (by omega)]) ?_
        rcases hfb (256 * j + k) with hj0 | hj1
        · rcases hfb (256 * i + k) with hi0 | hi1
          · rw [hj0, hi0]
            refine lv_icmp_ne (tgt := 109) hx hb dXM_differ_79 (by decide) (fun z => absurd rfl z) (fun _ => ?_)
            refine lv_aload_n hx hb dXM_differ_82 rfl (lv_at hl 4 rfl) ?_
            refine va_get (D := g.1) (ci := 2) (v := .ref ab) (C := RXM) (T := TXM) (N := 4) hx hb hts (fun w h => List.mem_cons_of_mem _ (in_XM w h)) hown hK hP 0 rfl rfl 1 (by decide) (hts _ (List.mem_cons_of_mem _ mw_387)) (fun _ h9 => h9) rfl dXM_differ_83 ?_
            refine lv_iload hx hb dXM_differ_86 (lv_at hl 1 rfl) ?_
            refine va_zald (D := g.1) (cl := vwCl) hx hb hK hP 2 3 rfl rfl (vp_in_nI (n := 256 * j + k) (by omega) (by decide)) dXM_differ_88 ?_
            refine qa_i (y := (fb (256 * j + k))) (by rw [nI_clamp (by omega)]) ?_
            refine qa_i (y := 0) hj0 ?_
            refine lv_if_eq (tgt := 112) hx hb dXM_differ_89 (by decide) (fun _ => ?_) (fun z => absurd rfl z)
            refine lv_iinc (k := 2) (v := (nI (k + 1))) (lv' := [(4, .int (nI (k + 1))), (6, .int (nI (256 * i + k))), (5, .int (nI (256 * j + k))), (3, .int (nI (mt_d (mt_ft fv fb j) (mt_ft fv fb i) 0 k))), (0, .ref am), (1, .int (nI j)), (2, .int (nI i))]) hx hb dXM_differ_112 hl rfl (nI_1 k) (by decide) rfl (fun ls hl => ?_)
            refine lv_goto (tgt := 30) hx hb dXM_differ_115 (by decide) ?_
            have hsk : mt_d (mt_ft fv fb j) (mt_ft fv fb i) 0 (k + 1) = mt_d (mt_ft fv fb j) (mt_ft fv fb i) 0 k := by rw [hds, if_pos (by rw [(show mt_ft fv fb j k = none from if_pos hj0), (show mt_ft fv fb i k = none from if_pos hi0)])]; rfl
            rw [← hsk] at hl
            have hl := lv_sub (l' := [(4, .int (nI (k + 1))), (3, .int (nI (mt_d (mt_ft fv fb j) (mt_ft fv fb i) 0 (k + 1)))), (0, .ref am), (1, .int (nI j)), (2, .int (nI i))]) hl [0, 3, 4, 5, 6] rfl
            exact ih (k + 1) ls (by omega) hlt hl
          · rw [hj0, hi1]
            refine lv_icmp_ne (tgt := 109) hx hb dXM_differ_79 (by decide) (fun _ => ?_) (fun z => absurd z (show ¬ (0 : Int32) = 1 by decide))
            refine lv_iinc (k := 3) (v := (nI (mt_d (mt_ft fv fb j) (mt_ft fv fb i) 0 (k + 1)))) (lv' := [(3, .int (nI (mt_d (mt_ft fv fb j) (mt_ft fv fb i) 0 (k + 1)))), (6, .int (nI (256 * i + k))), (5, .int (nI (256 * j + k))), (4, .int (nI k)), (0, .ref am), (1, .int (nI j)), (2, .int (nI i))]) hx hb dXM_differ_109 hl rfl (by rw [hds, if_neg (by rw [(show mt_ft fv fb j k = none from if_pos hj0), (show mt_ft fv fb i k = some (fv (256 * i + k)) from if_neg (by rw [hi1]; decide))]; intro z9; cases z9)]; exact nI_1 _) (by decide) rfl (fun ls hl => ?_)
            refine lv_iinc (k := 3) (v := (nI (k + 1))) (lv' := [(4, .int (nI (k + 1))), (3, .int (nI (mt_d (mt_ft fv fb j) (mt_ft fv fb i) 0 (k + 1)))), (6, .int (nI (256 * i + k))), (5, .int (nI (256 * j + k))), (0, .ref am), (1, .int (nI j)), (2, .int (nI i))]) hx hb dXM_differ_112 hl rfl (nI_1 k) (by decide) rfl (fun ls hl => ?_)
            refine lv_goto (tgt := 30) hx hb dXM_differ_115 (by decide) ?_
            have hl := lv_sub (l' := [(4, .int (nI (k + 1))), (3, .int (nI (mt_d (mt_ft fv fb j) (mt_ft fv fb i) 0 (k + 1)))), (0, .ref am), (1, .int (nI j)), (2, .int (nI i))]) hl [0, 1, 4, 5, 6] rfl
            exact ih (k + 1) ls (by omega) hlt hl
        · rcases hfb (256 * i + k) with hi0 | hi1
          · rw [hj1, hi0]
            refine lv_icmp_ne (tgt := 109) hx hb dXM_differ_79 (by decide) (fun _ => ?_) (fun z => absurd z (show ¬ (1 : Int32) = 0 by decide))
            refine lv_iinc (k := 3) (v := (nI (mt_d (mt_ft fv fb j) (mt_ft fv fb i) 0 (k + 1)))) (lv' := [(3, .int (nI (mt_d (mt_ft fv fb j) (mt_ft fv fb i) 0 (k + 1)))), (6, .int (nI (256 * i + k))), (5, .int (nI (256 * j + k))), (4, .int (nI k)), (0, .ref am), (1, .int (nI j)), (2, .int (nI i))]) hx hb dXM_differ_109 hl rfl (by rw [hds, if_neg (by rw [(show mt_ft fv fb j k = some (fv (256 * j + k)) from if_neg (by rw [hj1]; decide)), (show mt_ft fv fb i k = none from if_pos hi0)]; intro z9; cases z9)]; exact nI_1 _) (by decide) rfl (fun ls hl => ?_)
            refine lv_iinc (k := 3) (v := (nI (k + 1))) (lv' := [(4, .int (nI (k + 1))), (3, .int (nI (mt_d (mt_ft fv fb j) (mt_ft fv fb i) 0 (k + 1)))), (6, .int (nI (256 * i + k))), (5, .int (nI (256 * j + k))), (0, .ref am), (1, .int (nI j)), (2, .int (nI i))]) hx hb dXM_differ_112 hl rfl (nI_1 k) (by decide) rfl (fun ls hl => ?_)
            refine lv_goto (tgt := 30) hx hb dXM_differ_115 (by decide) ?_
            have hl := lv_sub (l' := [(4, .int (nI (k + 1))), (3, .int (nI (mt_d (mt_ft fv fb j) (mt_ft fv fb i) 0 (k + 1)))), (0, .ref am), (1, .int (nI j)), (2, .int (nI i))]) hl [0, 1, 4, 5, 6] rfl
            exact ih (k + 1) ls (by omega) hlt hl
          · rw [hj1, hi1]
            refine lv_icmp_ne (tgt := 109) hx hb dXM_differ_79 (by decide) (fun z => absurd rfl z) (fun _ => ?_)
            refine lv_aload_n hx hb dXM_differ_82 rfl (lv_at hl 4 rfl) ?_
            refine va_get (D := g.1) (ci := 2) (v := .ref ab) (C := RXM) (T := TXM) (N := 4) hx hb hts (fun w h => List.mem_cons_of_mem _ (in_XM w h)) hown hK hP 0 rfl rfl 1 (by decide) (hts _ (List.mem_cons_of_mem _ mw_387)) (fun _ h9 => h9) rfl dXM_differ_83 ?_
            refine lv_iload hx hb dXM_differ_86 (lv_at hl 1 rfl) ?_
            refine va_zald (D := g.1) (cl := vwCl) hx hb hK hP 2 3 rfl rfl (vp_in_nI (n := 256 * j + k) (by omega) (by decide)) dXM_differ_88 ?_
            refine qa_i (y := (fb (256 * j + k))) (by rw [nI_clamp (by omega)]) ?_
            refine qa_i (y := 1) hj1 ?_
            refine lv_if_eq (tgt := 112) hx hb dXM_differ_89 (by decide) (fun z => absurd z (show ¬ (1 : Int32) = 0 by decide)) (fun _ => ?_)
            refine lv_aload_n hx hb dXM_differ_92 rfl (lv_at hl 4 rfl) ?_
            refine va_get (D := g.1) (ci := 2) (v := .ref av) (C := RXM) (T := TXM) (N := 4) hx hb hts (fun w h => List.mem_cons_of_mem _ (in_XM w h)) hown hK hP 0 rfl rfl 0 (by decide) (hts _ (List.mem_cons_of_mem _ mw_386)) (fun _ h9 => h9) rfl dXM_differ_93 ?_
            refine lv_iload hx hb dXM_differ_96 (lv_at hl 1 rfl) ?_
            refine va_iald (D := g.1) (cl := vwCl) hx hb hK hP 1 2 rfl rfl (vp_in_nI (n := 256 * j + k) (by omega) (by decide)) dXM_differ_98 ?_
            refine qa_i (y := (fv (256 * j + k))) (by rw [nI_clamp (by omega)]) ?_
            refine lv_aload_n hx hb dXM_differ_99 rfl (lv_at hl 4 rfl) ?_
            refine va_get (D := g.1) (ci := 2) (v := .ref av) (C := RXM) (T := TXM) (N := 4) hx hb hts (fun w h => List.mem_cons_of_mem _ (in_XM w h)) hown hK hP 0 rfl rfl 0 (by decide) (hts _ (List.mem_cons_of_mem _ mw_386)) (fun _ h9 => h9) rfl dXM_differ_100 ?_
            refine lv_iload hx hb dXM_differ_103 (lv_at hl 0 rfl) ?_
            refine va_iald (D := g.1) (cl := vwCl) hx hb hK hP 1 2 rfl rfl (vp_in_nI (n := 256 * i + k) (by omega) (by decide)) dXM_differ_105 ?_
            refine qa_i (y := (fv (256 * i + k))) (by rw [nI_clamp (by omega)]) ?_
            refine lv_icmp_eq (tgt := 112) hx hb dXM_differ_106 (by decide) (fun c1 => ?_) (fun c1 => ?_)
            · refine lv_iinc (k := 2) (v := (nI (k + 1))) (lv' := [(4, .int (nI (k + 1))), (6, .int (nI (256 * i + k))), (5, .int (nI (256 * j + k))), (3, .int (nI (mt_d (mt_ft fv fb j) (mt_ft fv fb i) 0 k))), (0, .ref am), (1, .int (nI j)), (2, .int (nI i))]) hx hb dXM_differ_112 hl rfl (nI_1 k) (by decide) rfl (fun ls hl => ?_)
              refine lv_goto (tgt := 30) hx hb dXM_differ_115 (by decide) ?_
              have hsk : mt_d (mt_ft fv fb j) (mt_ft fv fb i) 0 (k + 1) = mt_d (mt_ft fv fb j) (mt_ft fv fb i) 0 k := by rw [hds, if_pos (by rw [(show mt_ft fv fb j k = some (fv (256 * j + k)) from if_neg (by rw [hj1]; decide)), (show mt_ft fv fb i k = some (fv (256 * i + k)) from if_neg (by rw [hi1]; decide)), c1])]; rfl
              rw [← hsk] at hl
              have hl := lv_sub (l' := [(4, .int (nI (k + 1))), (3, .int (nI (mt_d (mt_ft fv fb j) (mt_ft fv fb i) 0 (k + 1)))), (0, .ref am), (1, .int (nI j)), (2, .int (nI i))]) hl [0, 3, 4, 5, 6] rfl
              exact ih (k + 1) ls (by omega) hlt hl
            · refine lv_iinc (k := 3) (v := (nI (mt_d (mt_ft fv fb j) (mt_ft fv fb i) 0 (k + 1)))) (lv' := [(3, .int (nI (mt_d (mt_ft fv fb j) (mt_ft fv fb i) 0 (k + 1)))), (6, .int (nI (256 * i + k))), (5, .int (nI (256 * j + k))), (4, .int (nI k)), (0, .ref am), (1, .int (nI j)), (2, .int (nI i))]) hx hb dXM_differ_109 hl rfl (by rw [hds, if_neg (by rw [(show mt_ft fv fb j k = some (fv (256 * j + k)) from if_neg (by rw [hj1]; decide)), (show mt_ft fv fb i k = some (fv (256 * i + k)) from if_neg (by rw [hi1]; decide))]; intro z9; exact c1 (Option.some.inj z9))]; exact nI_1 _) (by decide) rfl (fun ls hl => ?_)
              refine lv_iinc (k := 3) (v := (nI (k + 1))) (lv' := [(4, .int (nI (k + 1))), (3, .int (nI (mt_d (mt_ft fv fb j) (mt_ft fv fb i) 0 (k + 1)))), (6, .int (nI (256 * i + k))), (5, .int (nI (256 * j + k))), (0, .ref am), (1, .int (nI j)), (2, .int (nI i))]) hx hb dXM_differ_112 hl rfl (nI_1 k) (by decide) rfl (fun ls hl => ?_)
              refine lv_goto (tgt := 30) hx hb dXM_differ_115 (by decide) ?_
              have hl := lv_sub (l' := [(4, .int (nI (k + 1))), (3, .int (nI (mt_d (mt_ft fv fb j) (mt_ft fv fb i) 0 (k + 1)))), (0, .ref am), (1, .int (nI j)), (2, .int (nI i))]) hl [0, 1, 4, 5, 6] rfl
              exact ih (k + 1) ls (by omega) hlt hl
      · refine lv_icmp_ge (tgt := 118) hx hb dXM_differ_35 (by decide) (fun _ => ?_) (fun z => absurd (nI_le (a := 256) (b := k) (by omega) (by omega)) z)
        refine lv_iload_n hx hb dXM_differ_118 rfl (lv_at hl 1 rfl) ?_
        have ek : k = 256 := by omega
        subst ek
        exact W.iret (v := (nI (mt_d (mt_ft fv fb j) (mt_ft fv fb i) 0 256))) hx hb hr (fun t9 ht hW => ⟨⟨(nI (mt_d (mt_ft fv fb j) (mt_ft fv fb i) 0 256)), (cn, 0, fv, fb), rfl, Or.inr ⟨rfl, j, i, hj, hi, rfl, rfl, rfl⟩, by rw [ht]; exact hP, hD⟩, hS.F ht⟩) hS.2.2 dXM_differ_119
    · refine lv_if_eq (tgt := 21) hx hb dXM_differ_14 (by decide) (fun _ => ?_) (fun z => absurd rfl z)
      refine lv_iconst (v := 1) hx hb dXM_differ_21 (by decide +kernel) ?_
      refine va_put (D := g.1) (ci := 2) (v := .int 1) (ty := .int) (C := RXM) (T := TXM) (N := 4) hx hb hts (fun w h => List.mem_cons_of_mem _ (in_XM w h)) tyXM tyXM_ok nmXM hown hK hP hD hS 0 rfl rfl 3 (by decide) (hts _ (List.mem_cons_of_mem _ mw_389)) (fun _ h9 => h9) rfl (by decide +kernel) rfl rfl (Nat.le_of_ble_eq_true rfl) dXM_differ_22 (fun H locs hP hD hS => ?_)
      have hP : va_P g.1 vwCl (mt_MW g am av ab (nI cn) 1 fv fb Z) H := hP
      have hD : va_D (mt_A g) (mt_MW g am av ab (nI cn) 1 fv fb Z) := hD
      refine lv_iconst (v := 0) hx hb dXM_differ_25 (by decide +kernel) ?_
      refine lv_istore_n (i := 3) (lv' := [(3, .int 0), (0, .ref am), (1, .int v), (2, .int w)]) hx hb dXM_differ_26 rfl hl (by decide) rfl (fun ls hl => ?_)
      refine lv_iconst (v := 0) hx hb dXM_differ_27 (by decide +kernel) ?_
      refine lv_istore (i := 4) (lv' := [(4, .int 0), (3, .int 0), (0, .ref am), (1, .int v), (2, .int w)]) hx hb dXM_differ_28 hl (by decide) rfl (fun ls hl => ?_)
      refine lv_iload hx hb dXM_differ_30 (lv_at hl 0 rfl) ?_
      refine lv_sipush (v := (nI 256)) hx hb dXM_differ_32 (by decide +kernel) ?_
      refine lv_icmp_ge (tgt := 118) hx hb dXM_differ_35 (by decide) (fun z => absurd z (show ¬ (nI 256) ≤ 0 by decide)) (fun _ => ?_)
      refine lv_aload_n hx hb dXM_differ_38 rfl (lv_at hl 2 rfl) ?_
      refine va_get (D := g.1) (ci := 2) (v := .int 1) (C := RXM) (T := TXM) (N := 4) hx hb hts (fun w h => List.mem_cons_of_mem _ (in_XM w h)) hown hK hP 0 rfl rfl 3 (by decide) (hts _ (List.mem_cons_of_mem _ mw_389)) (fun _ h9 => h9) rfl dXM_differ_39 ?_
      refine lv_if_ne (tgt := 118) hx hb dXM_differ_42 (by decide) (fun _ => ?_) (fun z => absurd z (show ¬ (1 : Int32) = 0 by decide))
      refine lv_iload_n hx hb dXM_differ_118 rfl (lv_at hl 1 rfl) ?_
      exact W.iret (v := 0) hx hb hr (fun t9 ht hW => ⟨⟨0, (cn, 1, fv, fb), rfl, Or.inl ⟨fun h9 => hver2 h9.2, rfl⟩, by rw [ht]; exact hP, hD⟩, hS.F ht⟩) hS.2.2 dXM_differ_119
  · refine lv_if_eq (tgt := 21) hx hb dXM_differ_6 (by decide) (fun _ => ?_) (fun z => absurd rfl z)
    refine lv_iconst (v := 1) hx hb dXM_differ_21 (by decide +kernel) ?_
    refine va_put (D := g.1) (ci := 2) (v := .int 1) (ty := .int) (C := RXM) (T := TXM) (N := 4) hx hb hts (fun w h => List.mem_cons_of_mem _ (in_XM w h)) tyXM tyXM_ok nmXM hown hK hP hD hS 0 rfl rfl 3 (by decide) (hts _ (List.mem_cons_of_mem _ mw_389)) (fun _ h9 => h9) rfl (by decide +kernel) rfl rfl (Nat.le_of_ble_eq_true rfl) dXM_differ_22 (fun H locs hP hD hS => ?_)
    have hP : va_P g.1 vwCl (mt_MW g am av ab (nI cn) 1 fv fb Z) H := hP
    have hD : va_D (mt_A g) (mt_MW g am av ab (nI cn) 1 fv fb Z) := hD
    refine lv_iconst (v := 0) hx hb dXM_differ_25 (by decide +kernel) ?_
    refine lv_istore_n (i := 3) (lv' := [(3, .int 0), (0, .ref am), (1, .int v), (2, .int w)]) hx hb dXM_differ_26 rfl hl (by decide) rfl (fun ls hl => ?_)
    refine lv_iconst (v := 0) hx hb dXM_differ_27 (by decide +kernel) ?_
    refine lv_istore (i := 4) (lv' := [(4, .int 0), (3, .int 0), (0, .ref am), (1, .int v), (2, .int w)]) hx hb dXM_differ_28 hl (by decide) rfl (fun ls hl => ?_)
    refine lv_iload hx hb dXM_differ_30 (lv_at hl 0 rfl) ?_
    refine lv_sipush (v := (nI 256)) hx hb dXM_differ_32 (by decide +kernel) ?_
    refine lv_icmp_ge (tgt := 118) hx hb dXM_differ_35 (by decide) (fun z => absurd z (show ¬ (nI 256) ≤ 0 by decide)) (fun _ => ?_)
    refine lv_aload_n hx hb dXM_differ_38 rfl (lv_at hl 2 rfl) ?_
    refine va_get (D := g.1) (ci := 2) (v := .int 1) (C := RXM) (T := TXM) (N := 4) hx hb hts (fun w h => List.mem_cons_of_mem _ (in_XM w h)) hown hK hP 0 rfl rfl 3 (by decide) (hts _ (List.mem_cons_of_mem _ mw_389)) (fun _ h9 => h9) rfl dXM_differ_39 ?_
    refine lv_if_ne (tgt := 118) hx hb dXM_differ_42 (by decide) (fun _ => ?_) (fun z => absurd z (show ¬ (1 : Int32) = 0 by decide))
    refine lv_iload_n hx hb dXM_differ_118 rfl (lv_at hl 1 rfl) ?_
    exact W.iret (v := 0) hx hb hr (fun t9 ht hW => ⟨⟨0, (cn, 1, fv, fb), rfl, Or.inl ⟨fun h9 => hver h9.1, rfl⟩, by rw [ht]; exact hP, hD⟩, hS.F ht⟩) hS.2.2 dXM_differ_119
set_option maxHeartbeats 4000000 in
set_option maxRecDepth 100000 in
/-- the reference: versions -/
theorem c_M_versions (l : Launch) (g : mt_G) (am av ab : Nat) (cn : Nat) (th : Int32) (fv fb : Nat → Int32) (Z : va_W) (hcn : cn ≤ 600) (hfb : ∀ j, fb j = 0 ∨ fb j = 1) : Met l yXM_versions wsXM_versions ({ frames := 1, cells := 0, slots := 0, locals := 60 }) (mt_Pc g (mt_MW g am av ab (nI cn) th fv fb Z) [.ref am]) (va_Qi (fun r q => r = nI cn ∧ q = (cn, 0, fv, fb)) (fun (q : Nat × Int32 × (Nat → Int32) × (Nat → Int32)) t => mt_B g (mt_MW g am av ab (nI q.1) q.2.1 q.2.2.1 q.2.2.2 Z) t) (mt_A g)) (0) (0) (mt_A g) := by
  refine Met.ofW (cc := cXM_versions) (maxL := 1) (ret := (some .int)) (by decide) rfl ?_
  intro p e s m args below meth c s₁ B hml hv
  obtain ⟨rfl, hE, hz, hP, hD⟩ := hv
  have hx := B.exec
  have hb := B.bytes
  have hr := B.returns
  have hts := atoms_spec (ws := wsXM_versions) B.pre
  have hown : s.vm.findClass RXM = some m.cls := findClass_of_methodNamed B.named
  have hlocks := B.notSynchronized
  have hK := hE.k
  have hA : ∀ q : Nat, s.heap.size ≤ q → mt_A g q := fun q h => Nat.le_trans hz h
  have hS : va_S (mt_A g) s.heap s.heap [] := va_S.rf
  have hl := lv_entry ([.ref am]) (n := 1) (Nat.le_of_ble_eq_true rfl)
  rw [lg_entry_eq]
  generalize (lg_sl ([.ref am]) ++ List.replicate (1 - (lg_sl ([.ref am])).length) Slot.unset).toArray = ls at hl ⊢
  have hl : lv_has ls 1 [(0, .ref am)] := hl
  have hH : s.heap = s.heap := rfl
  refine lv_aload_n hx hb dXM_versions_0 rfl (lv_at hl 0 rfl) ?_
  refine lv_iconst (v := 0) hx hb dXM_versions_1 (by decide +kernel) ?_
  refine va_put (D := g.1) (ci := 2) (v := .int 0) (ty := .int) (C := RXM) (T := TXM) (N := 4) hx hb hts (fun w h => List.mem_cons_of_mem _ (in_XM w h)) tyXM tyXM_ok nmXM hown hK hP hD hS 0 rfl rfl 3 (by decide) (hts _ (List.mem_cons_of_mem _ mw_389)) (fun _ h9 => h9) rfl (by decide +kernel) rfl rfl (Nat.le_of_ble_eq_true rfl) dXM_versions_2 (fun H locs hP hD hS => ?_)
  have hP : va_P g.1 vwCl (mt_MW g am av ab (nI cn) 0 fv fb Z) H := hP
  have hD : va_D (mt_A g) (mt_MW g am av ab (nI cn) 0 fv fb Z) := hD
  refine lv_aload_n hx hb dXM_versions_5 rfl (lv_at hl 0 rfl) ?_
  refine va_get (D := g.1) (ci := 2) (v := .int (nI cn)) (C := RXM) (T := TXM) (N := 4) hx hb hts (fun w h => List.mem_cons_of_mem _ (in_XM w h)) hown hK hP 0 rfl rfl 2 (by decide) (hts _ (List.mem_cons_of_mem _ mw_388)) (fun _ h9 => h9) rfl dXM_versions_6 ?_
  exact W.iret (v := (nI cn)) hx hb hr (fun t9 ht hW => ⟨⟨(nI cn), (cn, 0, fv, fb), rfl, ⟨rfl, rfl⟩, by rw [ht]; exact hP, hD⟩, hS.F ht⟩) hS.2.2 dXM_versions_9
set_option maxHeartbeats 4000000 in
set_option maxRecDepth 100000 in
/-- the reference: check -/
theorem c_M_check (l : Launch) (g : mt_G) (am av ab : Nat) (cn : Nat) (th : Int32) (fv fb : Nat → Int32) (Z : va_W) (hcn : cn ≤ 600) (hfb : ∀ j, fb j = 0 ∨ fb j = 1) : Met l yXM_check wsXM_check ({ frames := 1, cells := 0, slots := 0, locals := 60 }) (mt_Pc g (mt_MW g am av ab (nI cn) th fv fb Z) [.ref am]) (va_Qi (fun r q => r = 0 ∧ q = (cn, 0, fv, fb)) (fun (q : Nat × Int32 × (Nat → Int32) × (Nat → Int32)) t => mt_B g (mt_MW g am av ab (nI q.1) q.2.1 q.2.2.1 q.2.2.2 Z) t) (mt_A g)) (0) (0) (mt_A g) := by
  refine Met.ofW (cc := cXM_check) (maxL := 1) (ret := (some .int)) (by decide) rfl ?_
  intro p e s m args below meth c s₁ B hml hv
  obtain ⟨rfl, hE, hz, hP, hD⟩ := hv
  have hx := B.exec
  have hb := B.bytes
  have hr := B.returns
  have hts := atoms_spec (ws := wsXM_check) B.pre
  have hown : s.vm.findClass RXM = some m.cls := findClass_of_methodNamed B.named
  have hlocks := B.notSynchronized
  have hK := hE.k
  have hA : ∀ q : Nat, s.heap.size ≤ q → mt_A g q := fun q h => Nat.le_trans hz h
  have hS : va_S (mt_A g) s.heap s.heap [] := va_S.rf
  have hl := lv_entry ([.ref am]) (n := 1) (Nat.le_of_ble_eq_true rfl)
  rw [lg_entry_eq]
  generalize (lg_sl ([.ref am]) ++ List.replicate (1 - (lg_sl ([.ref am])).length) Slot.unset).toArray = ls at hl ⊢
  have hl : lv_has ls 1 [(0, .ref am)] := hl
  have hH : s.heap = s.heap := rfl
  refine lv_aload_n hx hb dXM_check_0 rfl (lv_at hl 0 rfl) ?_
  refine lv_iconst (v := 0) hx hb dXM_check_1 (by decide +kernel) ?_
  refine va_put (D := g.1) (ci := 2) (v := .int 0) (ty := .int) (C := RXM) (T := TXM) (N := 4) hx hb hts (fun w h => List.mem_cons_of_mem _ (in_XM w h)) tyXM tyXM_ok nmXM hown hK hP hD hS 0 rfl rfl 3 (by decide) (hts _ (List.mem_cons_of_mem _ mw_389)) (fun _ h9 => h9) rfl (by decide +kernel) rfl rfl (Nat.le_of_ble_eq_true rfl) dXM_check_2 (fun H locs hP hD hS => ?_)
  have hP : va_P g.1 vwCl (mt_MW g am av ab (nI cn) 0 fv fb Z) H := hP
  have hD : va_D (mt_A g) (mt_MW g am av ab (nI cn) 0 fv fb Z) := hD
  refine lv_iconst (v := 0) hx hb dXM_check_5 (by decide +kernel) ?_
  exact W.iret (v := 0) hx hb hr (fun t9 ht hW => ⟨⟨0, (cn, 0, fv, fb), rfl, ⟨rfl, rfl⟩, by rw [ht]; exact hP, hD⟩, hS.F ht⟩) hS.2.2 dXM_check_6
