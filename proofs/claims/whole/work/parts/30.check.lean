set_option maxHeartbeats 4000000 in
set_option maxRecDepth 100000 in
/-- check(): no faults -/
theorem c_check (l : Launch) (g : mt_G) (c0 c1 c2 c3 : Nat × va_E) (x ar al cn : Nat) (fr : Nat → Option Nat) (n cap : Nat) (LL : va_W) (LP : List Nat) (nf : Nat → mt_N) (hLL : mt_LL g al LP n cap LL) (hlc : mt_lc n cap) (hn5 : n < 4900) (hok : ∀ a, a ∈ LP → mt_ok LP nf a) (tab : Nat → mt_T) (hrep : ∀ j, j < cn → mt_rep LP nf (tab j) 8 0 (fr j)) (hcn : cn ≤ 600) : Met l yXT_check wsXT_check ({ frames := 10, cells := 0, slots := 0, locals := 400 }) (mt_Pc g (mt_TW g c0 c1 c2 c3 x ar al cn fr (LL ++ va_pl LP (fun a => mt_nE (nf a)))) [.ref x]) (vp_Si (fun z => z = 0)) (0) (0) (fun _ => False) := by
  refine Met.ofW (cc := cXT_check) (maxL := 3) (ret := (some .int)) (by decide) rfl ?_
  intro p e s m args below meth c s₁ B hml hv
  obtain ⟨rfl, hE, hz, hP, hD⟩ := hv
  have hx := B.exec
  have hb := B.bytes
  have hr := B.returns
  have hts := atoms_spec (ws := wsXT_check) B.pre
  have hown : s.vm.findClass RXT = some m.cls := findClass_of_methodNamed B.named
  have hlocks := B.notSynchronized
  have hK := hE.k
  have hA : ∀ q : Nat, s.heap.size ≤ q → mt_A g q := fun q h => Nat.le_trans hz h
  have hS : va_S (mt_A g) s.heap s.heap [] := va_S.rf
  have hl := lv_entry ([.ref x]) (n := 3) (Nat.le_of_ble_eq_true rfl)
  rw [lg_entry_eq]
  generalize (lg_sl ([.ref x]) ++ List.replicate (3 - (lg_sl ([.ref x])).length) Slot.unset).toArray = ls at hl ⊢
  have hl : lv_has ls 3 [(0, .ref x)] := hl
  have hH : s.heap = s.heap := rfl
  have hp : mt_pool (mt_TW g c0 c1 c2 c3 x ar al cn fr (LL ++ va_pl LP (fun a => mt_nE (nf a)))) LP nf := mt_LW_pool
  refine lv_iconst (v := 0) hx hb dXT_check_0 (by decide +kernel) ?_
  refine lv_istore_n (i := 1) (lv' := [(1, .int 0), (0, .ref x)]) hx hb dXT_check_1 rfl hl (by decide) rfl (fun ls hl => ?_)
  refine lv_iconst (v := 0) hx hb dXT_check_2 (by decide +kernel) ?_
  refine lv_istore_n (i := 2) (lv' := [(2, .int 0), (1, .int 0), (0, .ref x)]) hx hb dXT_check_3 rfl hl (by decide) rfl (fun ls hl => ?_)
  refine qa_for (V := Nat) (fun v => cn - v) (fun v => [(2, .int (nI v)), (1, .int 0), (0, .ref x)]) (fun v => v ≤ cn) ?_ 0 ls (Nat.zero_le _) hl
  intro v ls hv hl ih
  refine lv_iload_n hx hb dXT_check_4 rfl (lv_at hl 0 rfl) ?_
  refine lv_aload_n hx hb dXT_check_5 rfl (lv_at hl 2 rfl) ?_
  refine va_get (D := g.1) (ci := 1) (v := .int (nI cn)) (C := RXT) (T := TXT) (N := 3) hx hb hts (fun w h => List.mem_cons_of_mem _ (in_XT w h)) hown hK hP 4 rfl rfl 2 (by decide) (hts _ (List.mem_cons_of_mem _ mw_55)) (fun _ h9 => h9) rfl dXT_check_6 ?_
  by_cases hlt : v < cn
  · refine lv_icmp_ge (tgt := 41) hx hb dXT_check_9 (by decide) (fun z => absurd z (nI_ge hlt (by omega))) (fun _ => ?_)
    refine lv_iload_n hx hb dXT_check_12 rfl (lv_at hl 1 rfl) ?_
    refine lv_aload_n hx hb dXT_check_13 rfl (lv_at hl 2 rfl) ?_
    refine va_get (D := g.1) (ci := 1) (v := .ref ar) (C := RXT) (T := TXT) (N := 3) hx hb hts (fun w h => List.mem_cons_of_mem _ (in_XT w h)) hown hK hP 4 rfl rfl 0 (by decide) (hts _ (List.mem_cons_of_mem _ mw_53)) (fun _ h9 => h9) rfl dXT_check_14 ?_
    refine lv_iload_n hx hb dXT_check_17 rfl (lv_at hl 0 rfl) ?_
    refine va_aldq (D := g.1) (cl := vwCl) hx hb hK hP 5 1 rfl rfl (vp_in_nI (n := v) (by omega) (by decide)) dXT_check_18 ?_
    refine qa_q (y := fr v) (by rw [nI_clamp (by omega)]) ?_
    refine lv_bipush (v := (nI 8)) hx hb dXT_check_19 (by decide +kernel) ?_
    refine lv_iconst (v := 0) hx hb dXT_check_21 (by decide +kernel) ?_
    refine vp_callSi (W.runS (As := [va_rf (fr v), .int (nI 8), .int 0]) (rest := [.int 0]) ⟨hx, hb, hml, hown, hts⟩ (c_isAt l g _ LP nf hp (fr v) 8 0 (mt_rep_at (hrep v hlt))) (va_cwS 3 hts (mt_giS mw_71 mw_72 mw_1 (mt_gi mw_73)) rfl rfl rfl (by decide +kernel) ⟨Nat.le_of_ble_eq_true rfl, Nat.le_of_ble_eq_true rfl⟩) (mt_preS hE hz hS hP hD) rfl rfl hl.1 rfl (lv_room (Nat.le_of_ble_eq_true rfl)) dXT_check_22 ⟨Nat.zero_le _, Nat.zero_le _⟩) (fun z1 e1 => ?_)
    subst e1
    refine lv_if_eq (tgt := 32) hx hb dXT_check_25 (by decide) (fun z => absurd z (show ¬ (1 : Int32) = 0 by decide)) (fun _ => ?_)
    refine lv_iconst (v := 0) hx hb dXT_check_28 (by decide +kernel) ?_
    refine lv_goto (tgt := 33) hx hb dXT_check_29 (by decide) ?_
    refine lv_iadd hx hb dXT_check_33 ?_
    refine qa_i (y := 0) rfl ?_
    refine lv_istore_n (i := 1) (lv' := [(1, .int 0), (2, .int (nI v)), (0, .ref x)]) hx hb dXT_check_34 rfl hl (by decide) rfl (fun ls hl => ?_)
    refine lv_iinc (k := 1) (v := (nI (v + 1))) (lv' := [(2, .int (nI (v + 1))), (1, .int 0), (0, .ref x)]) hx hb dXT_check_35 hl rfl (nI_1 v) (by decide) rfl (fun ls hl => ?_)
    refine lv_goto (tgt := 4) hx hb dXT_check_38 (by decide) ?_
    have hl := lv_sub (l' := [(2, .int (nI (v + 1))), (1, .int 0), (0, .ref x)]) hl [0, 1, 2] rfl
    exact ih (v + 1) ls (by omega) hlt hl
  · refine lv_icmp_ge (tgt := 41) hx hb dXT_check_9 (by decide) (fun _ => ?_) (fun z => absurd (nI_le (a := cn) (b := v) (by omega) (by omega)) z)
    refine lv_iconst (v := 0) hx hb dXT_check_41 (by decide +kernel) ?_
    refine lv_istore_n (i := 2) (lv' := [(2, .int 0), (1, .int 0), (0, .ref x)]) hx hb dXT_check_42 rfl hl (by decide) rfl (fun ls hl => ?_)
    have hl := lv_sub (l' := [(2, .int 0), (1, .int 0), (0, .ref x)]) hl [0, 1, 2] rfl
    clear ih
    refine qa_for (V := Nat) (fun v => n - v) (fun v => [(2, .int (nI v)), (1, .int 0), (0, .ref x)]) (fun v => v ≤ n) ?_ 0 ls (Nat.zero_le _) hl
    intro v ls hv hl ih
    have hrcv := mt_LL_recv hLL hK hP
    refine lv_iload_n hx hb dXT_check_43 rfl (lv_at hl 0 rfl) ?_
    refine lv_aload_n hx hb dXT_check_44 rfl (lv_at hl 2 rfl) ?_
    refine va_get (D := g.1) (ci := 1) (v := .ref al) (C := RXT) (T := TXT) (N := 3) hx hb hts (fun w h => List.mem_cons_of_mem _ (in_XT w h)) hown hK hP 4 rfl rfl 1 (by decide) (hts _ (List.mem_cons_of_mem _ mw_54)) (fun _ h9 => h9) rfl dXT_check_45 ?_
    refine vp_callSi (W.runV (As := []) (rest := [.int (nI v)]) ⟨hx, hb, hml, hown, hts⟩ (c_size l g c0 c1 c2 c3 (x, .inr (1, [.ref ar, .ref al, .int (nI cn)])) (ar, .inl (g.2.2.2 1, 600, .inr (.inr (.inr (.inr fr))))) al n cap LL LP nf hLL hlc (by omega)) (cwV 0 hts (mt_giV mw_74 mw_75 mw_76 mw_4 (mt_gi mw_77)) rfl rfl rfl (by decide +kernel) ⟨Nat.le_of_ble_eq_true rfl, Nat.le_of_ble_eq_true rfl⟩) (mt_preV hE hz hS hP hD hrcv) rfl rfl hl.1 rfl (lv_room (Nat.le_of_ble_eq_true rfl)) dXT_check_48 ⟨Nat.zero_le _, Nat.zero_le _⟩) (fun z1 e1 => ?_)
    subst e1
    by_cases hlt2 : v < n
    · refine lv_icmp_ge (tgt := 77) hx hb dXT_check_51 (by decide) (fun z => absurd z (nI_ge hlt2 (by omega))) (fun _ => ?_)
      refine lv_iload_n hx hb dXT_check_54 rfl (lv_at hl 1 rfl) ?_
      refine lv_aload_n hx hb dXT_check_55 rfl (lv_at hl 2 rfl) ?_
      refine va_get (D := g.1) (ci := 1) (v := .ref al) (C := RXT) (T := TXT) (N := 3) hx hb hts (fun w h => List.mem_cons_of_mem _ (in_XT w h)) hown hK hP 4 rfl rfl 1 (by decide) (hts _ (List.mem_cons_of_mem _ mw_54)) (fun _ h9 => h9) rfl dXT_check_56 ?_
      refine lv_iload_n hx hb dXT_check_59 rfl (lv_at hl 0 rfl) ?_
      refine va_csq (W.runV (As := [.int (nI v)]) (rest := [.int 0]) ⟨hx, hb, hml, hown, hts⟩ (c_lget l g c0 c1 c2 c3 (x, .inr (1, [.ref ar, .ref al, .int (nI cn)])) (ar, .inl (g.2.2.2 1, 600, .inr (.inr (.inr (.inr fr))))) al n cap LL LP nf hLL hlc (by omega) v hlt2) (cwV 1 hts (mt_giV mw_78 mw_79 mw_80 mw_4 (mt_gi mw_81)) rfl rfl rfl (by decide +kernel) ⟨Nat.le_of_ble_eq_true rfl, Nat.le_of_ble_eq_true rfl⟩) (mt_preV hE hz hS hP hD hrcv) rfl rfl hl.1 rfl (lv_room (Nat.le_of_ble_eq_true rfl)) dXT_check_60 ⟨Nat.zero_le _, Nat.zero_le _⟩) (fun z1 e1 => ?_)
      obtain ⟨a, rfl, ha⟩ := e1
      obtain ⟨k0, hk0⟩ := hp a ha
      refine va_castY (C := RXN) (nm := RXN) hx hb hown (hts _ (List.mem_cons_of_mem _ mw_27)) (hE.w (.castable RXN RXN) (by decide +kernel)) (va_recv hK hP (q := (RXN, TXN, 7)) rfl hk0) dXT_check_63 ?_
      refine vp_callSi (W.runS (As := [.ref a]) (rest := [.int 0]) ⟨hx, hb, hml, hown, hts⟩ (c_faultsOf l g _ LP nf hp a ha (hok a ha)) (va_cwS 1 hts (mt_giS mw_92 mw_93 mw_1 (mt_gi mw_94)) rfl rfl rfl (by decide +kernel) ⟨Nat.le_of_ble_eq_true rfl, Nat.le_of_ble_eq_true rfl⟩) (mt_preS hE hz hS hP hD) rfl rfl hl.1 rfl (lv_room (Nat.le_of_ble_eq_true rfl)) dXT_check_66 ⟨Nat.zero_le _, Nat.zero_le _⟩) (fun z1 e1 => ?_)
      subst e1
      refine lv_iadd hx hb dXT_check_69 ?_
      refine qa_i (y := 0) rfl ?_
      refine lv_istore_n (i := 1) (lv' := [(1, .int 0), (2, .int (nI v)), (0, .ref x)]) hx hb dXT_check_70 rfl hl (by decide) rfl (fun ls hl => ?_)
      refine lv_iinc (k := 1) (v := (nI (v + 1))) (lv' := [(2, .int (nI (v + 1))), (1, .int 0), (0, .ref x)]) hx hb dXT_check_71 hl rfl (nI_1 v) (by decide) rfl (fun ls hl => ?_)
      refine lv_goto (tgt := 43) hx hb dXT_check_74 (by decide) ?_
      have hl := lv_sub (l' := [(2, .int (nI (v + 1))), (1, .int 0), (0, .ref x)]) hl [0, 1, 2] rfl
      exact ih (v + 1) ls (by omega) hlt2 hl
    · refine lv_icmp_ge (tgt := 77) hx hb dXT_check_51 (by decide) (fun _ => ?_) (fun z => absurd (nI_le (a := n) (b := v) (by omega) (by omega)) z)
      refine lv_iload_n hx hb dXT_check_77 rfl (lv_at hl 1 rfl) ?_
      exact W.iret (v := 0) hx hb hr (fun t9 ht hW => ⟨0, rfl, rfl, ht⟩) t_nil dXT_check_78
