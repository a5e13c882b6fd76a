set_option maxHeartbeats 4000000 in
set_option maxRecDepth 100000 in
/-- the reference: put -/
theorem c_M_put (l : Launch) (g : mt_G) (am av ab : Nat) (cn : Nat) (th : Int32) (fv fb : Nat → Int32) (Z : va_W) (hcn : cn ≤ 600) (hfb : ∀ j, fb j = 0 ∨ fb j = 1) (v k x : Int32) : Met l yXM_put wsXM_put ({ frames := 1, cells := 0, slots := 0, locals := 60 }) (mt_Pc g (mt_MW g am av ab (nI cn) th fv fb Z) [.ref am, .int v, .int k, .int x]) (va_Qi (fun r q => (¬ (mt_ver v cn ∧ mt_key k) ∧ q = (cn, 1, fv, fb)) ∨ ((mt_ver v cn ∧ mt_key k) ∧ cn = 600 ∧ q = (cn, 2, fv, fb)) ∨ ∃ j i, j < cn ∧ i < 256 ∧ v = nI j ∧ k = nI i ∧ cn < 600 ∧ r = nI cn ∧ ∃ f h, q = (cn + 1, 0, f, h) ∧ mt_new fv fb f h cn (fun y => if y = i then (x, 1) else (fv (256 * j + y), fb (256 * j + y)))) (fun (q : Nat × Int32 × (Nat → Int32) × (Nat → Int32)) t => mt_B g (mt_MW g am av ab (nI q.1) q.2.1 q.2.2.1 q.2.2.2 Z) t) (mt_A g)) (0) (0) (mt_A g) := by
  refine Met.ofW (cc := cXM_put) (maxL := 5) (ret := (some .int)) (by decide) rfl ?_
  intro p e s m args below meth c s₁ B hml hv
  obtain ⟨rfl, hE, hz, hP, hD⟩ := hv
  have hx := B.exec
  have hb := B.bytes
  have hr := B.returns
  have hts := atoms_spec (ws := wsXM_put) B.pre
  have hown : s.vm.findClass RXM = some m.cls := findClass_of_methodNamed B.named
  have hlocks := B.notSynchronized
  have hK := hE.k
  have hA : ∀ q : Nat, s.heap.size ≤ q → mt_A g q := fun q h => Nat.le_trans hz h
  have hS : va_S (mt_A g) s.heap s.heap [] := va_S.rf
  have hl := lv_entry ([.ref am, .int v, .int k, .int x]) (n := 5) (Nat.le_of_ble_eq_true rfl)
  rw [lg_entry_eq]
  generalize (lg_sl ([.ref am, .int v, .int k, .int x]) ++ List.replicate (5 - (lg_sl ([.ref am, .int v, .int k, .int x])).length) Slot.unset).toArray = ls at hl ⊢
  have hl : lv_has ls 5 [(0, .ref am), (1, .int v), (2, .int k), (3, .int x)] := hl
  have hH : s.heap = s.heap := rfl
  refine lv_aload_n hx hb dXM_put_0 rfl (lv_at hl 0 rfl) ?_
  refine lv_aload_n hx hb dXM_put_1 rfl (lv_at hl 0 rfl) ?_
  refine lv_iload_n hx hb dXM_put_2 rfl (lv_at hl 1 rfl) ?_
  refine vp_callSi (W.runV (As := [.int v]) (rest := [.ref am]) ⟨hx, hb, hml, hown, hts⟩ (c_M_isOne l g am av ab cn th fv fb Z hcn v) (cwV 1 hts (mt_giV mw_409 mw_410 mw_471 mw_5 (mt_gi mw_411)) rfl rfl rfl (by decide +kernel) ⟨by decide, by decide⟩) (mt_preV hE hz hS hP hD (va_recv hK hP (q := (RXM, TXM, 4)) (q0 := 0) rfl rfl)) rfl rfl hl.1 rfl (lv_room (Nat.le_of_ble_eq_true rfl)) dXM_put_3 ⟨Nat.zero_le _, Nat.zero_le _⟩) (fun z1 e1 => ?_)
  rcases e1 with ⟨rfl, hver⟩ | ⟨rfl, hver⟩
  · refine lv_if_eq (tgt := 16) hx hb dXM_put_6 (by decide) (fun z => absurd z (show ¬ (1 : Int32) = 0 by decide)) (fun _ => ?_)
    refine lv_iload_n hx hb dXM_put_9 rfl (lv_at hl 2 rfl) ?_
    refine vp_callSi (W.runS (As := [.int k]) (rest := [.ref am]) ⟨hx, hb, hml, hown, hts⟩ (c_M_isKey l g _ k) (va_cwS 1 hts (mt_giS mw_412 mw_413 mw_5 (mt_gi mw_414)) rfl rfl rfl (by decide +kernel) ⟨by decide, by decide⟩) (mt_preS hE hz hS hP hD) rfl rfl hl.1 rfl (lv_room (Nat.le_of_ble_eq_true rfl)) dXM_put_10 ⟨Nat.zero_le _, Nat.zero_le _⟩) (fun z2 e2 => ?_)
    rcases e2 with ⟨rfl, hkey⟩ | ⟨rfl, hkey⟩
    · refine lv_if_ne (tgt := 20) hx hb dXM_put_13 (by decide) (fun _ => ?_) (fun z => absurd z (show ¬ (1 : Int32) = 0 by decide))
      obtain ⟨j, hj, rfl⟩ := mt_ver_nat hcn hver
      obtain ⟨i, hi, rfl⟩ := mt_key_nat hkey
      refine lv_aload_n hx hb dXM_put_20 rfl (lv_at hl 0 rfl) ?_
      refine va_get (D := g.1) (ci := 2) (v := .int (nI cn)) (C := RXM) (T := TXM) (N := 4) hx hb hts (fun w h => List.mem_cons_of_mem _ (in_XM w h)) hown hK hP 0 rfl rfl 2 (by decide) (hts _ (List.mem_cons_of_mem _ mw_388)) (fun _ h9 => h9) rfl dXM_put_21 ?_
      refine lv_sipush (v := (nI 600)) hx hb dXM_put_24 (by decide +kernel) ?_
      by_cases hc6 : cn < 600
      · refine lv_icmp_ne (tgt := 34) hx hb dXM_put_27 (by decide) (fun _ => ?_) (fun z => absurd z (fun e9 => absurd ((nI_eq (by omega) (by omega)).mp e9) (by omega)))
        refine lv_iconst (v := 0) hx hb dXM_put_34 (by decide +kernel) ?_
        refine va_put (D := g.1) (ci := 2) (v := .int 0) (ty := .int) (C := RXM) (T := TXM) (N := 4) hx hb hts (fun w h => List.mem_cons_of_mem _ (in_XM w h)) tyXM tyXM_ok nmXM hown hK hP hD hS 0 rfl rfl 3 (by decide) (hts _ (List.mem_cons_of_mem _ mw_389)) (fun _ h9 => h9) rfl (by decide +kernel) rfl rfl (Nat.le_of_ble_eq_true rfl) dXM_put_35 (fun H locs hP hD hS => ?_)
        have hP : va_P g.1 vwCl (mt_MW g am av ab (nI cn) 0 fv fb Z) H := hP
        have hD : va_D (mt_A g) (mt_MW g am av ab (nI cn) 0 fv fb Z) := hD
        refine lv_aload_n hx hb dXM_put_38 rfl (lv_at hl 0 rfl) ?_
        refine va_get (D := g.1) (ci := 2) (v := .int 0) (C := RXM) (T := TXM) (N := 4) hx hb hts (fun w h => List.mem_cons_of_mem _ (in_XM w h)) hown hK hP 0 rfl rfl 3 (by decide) (hts _ (List.mem_cons_of_mem _ mw_389)) (fun _ h9 => h9) rfl dXM_put_39 ?_
        refine lv_if_le (tgt := 47) hx hb dXM_put_42 (by decide) (fun _ => ?_) (fun z => absurd (show (0 : Int32) ≤ 0 by decide) z)
        refine lv_aload_n hx hb dXM_put_47 rfl (lv_at hl 0 rfl) ?_
        refine lv_iload_n hx hb dXM_put_48 rfl (lv_at hl 1 rfl) ?_
        refine lv_iload_n hx hb dXM_put_49 rfl (lv_at hl 1 rfl) ?_
        refine lv_iconst (v := 0) hx hb dXM_put_50 (by decide +kernel) ?_
        refine va_calli (va_runV (As := [.int (nI j), .int (nI j), .int 0]) (rest := []) ⟨hx, hb, hml, hown, hts⟩ (c_M_made l g am av ab cn 0 fv fb Z hcn hfb hc6 j j 0 hj hj (Nat.zero_le _)) (cwV 3 hts (mt_giV mw_415 mw_416 mw_472 mw_5 (mt_gi mw_417)) rfl rfl rfl (by decide +kernel) ⟨by decide, by decide⟩) (mt_preV hE hz hS hP hD (va_recv hK hP (q := (RXM, TXM, 4)) (q0 := 0) rfl rfl)) rfl rfl hl.1 rfl (lv_room (Nat.le_of_ble_eq_true rfl)) dXM_put_51 ⟨Nat.zero_le _, Nat.zero_le _⟩) hS (fun _ _ h => h) (fun _ h => h) (fun r1 u1 t1 H locs ht1 hvm1 hpo1 hB1 hz1 hk1 hS => ?_)
        obtain ⟨f, h⟩ := u1
        obtain ⟨rfl, hnew⟩ := hpo1
        obtain ⟨hP, hD⟩ := hB1
        rw [ht1] at hP
        dsimp only at hnew hP hD
        refine lv_istore (i := 4) (lv' := [(4, .int (nI cn)), (0, .ref am), (1, .int (nI j)), (2, .int (nI i)), (3, .int x)]) hx hb dXM_put_54 hl (by decide) rfl (fun ls hl => ?_)
        refine lv_aload_n hx hb dXM_put_56 rfl (lv_at hl 1 rfl) ?_
        refine va_get (D := g.1) (ci := 2) (v := .ref av) (C := RXM) (T := TXM) (N := 4) hx hb hts (fun w h => List.mem_cons_of_mem _ (in_XM w h)) hown hK hP 0 rfl rfl 0 (by decide) (hts _ (List.mem_cons_of_mem _ mw_386)) (fun _ h9 => h9) rfl dXM_put_57 ?_
        refine lv_sipush (v := (nI 256)) hx hb dXM_put_60 (by decide +kernel) ?_
        refine lv_iload hx hb dXM_put_63 (lv_at hl 0 rfl) ?_
        refine lv_imul hx hb dXM_put_65 ?_
        refine qa_i (y := (nI (256 * cn))) (pk_mul 256 cn) ?_
        refine lv_iload_n hx hb dXM_put_66 rfl (lv_at hl 3 rfl) ?_
        refine lv_iadd hx hb dXM_put_67 ?_
        refine qa_i (y := (nI (256 * cn + i))) (nI_add (256 * cn) i) ?_
        refine lv_iload_n hx hb dXM_put_68 rfl (lv_at hl 4 rfl) ?_
        refine va_iast (D := g.1) (cl := vwCl) hx hb hK hP hD hS 1 2 rfl rfl (vp_in_nI (n := 256 * cn + i) (by omega) (by decide)) dXM_put_69 (fun H locs hP hD hS => ?_)
        rw [nI_clamp (by omega)] at hP hD
        have hP : va_P g.1 vwCl (mt_MW g am av ab (nI (cn + 1)) 0 (upd f (256 * cn + i) x) h Z) H := hP
        have hD : va_D (mt_A g) (mt_MW g am av ab (nI (cn + 1)) 0 (upd f (256 * cn + i) x) h Z) := hD
        refine lv_aload_n hx hb dXM_put_70 rfl (lv_at hl 1 rfl) ?_
        refine va_get (D := g.1) (ci := 2) (v := .ref ab) (C := RXM) (T := TXM) (N := 4) hx hb hts (fun w h => List.mem_cons_of_mem _ (in_XM w h)) hown hK hP 0 rfl rfl 1 (by decide) (hts _ (List.mem_cons_of_mem _ mw_387)) (fun _ h9 => h9) rfl dXM_put_71 ?_
        refine lv_sipush (v := (nI 256)) hx hb dXM_put_74 (by decide +kernel) ?_
        refine lv_iload hx hb dXM_put_77 (lv_at hl 0 rfl) ?_
        refine lv_imul hx hb dXM_put_79 ?_
        refine qa_i (y := (nI (256 * cn))) (pk_mul 256 cn) ?_
        refine lv_iload_n hx hb dXM_put_80 rfl (lv_at hl 3 rfl) ?_
        refine lv_iadd hx hb dXM_put_81 ?_
        refine qa_i (y := (nI (256 * cn + i))) (nI_add (256 * cn) i) ?_
        refine lv_iconst (v := 1) hx hb dXM_put_82 (by decide +kernel) ?_
        refine va_zast (D := g.1) (cl := vwCl) hx hb hK hP hD hS 2 3 rfl rfl (vp_in_nI (n := 256 * cn + i) (by omega) (by decide)) dXM_put_83 (fun H locs hP hD hS => ?_)
        rw [nI_clamp (by omega), (by decide : vp_nar .boolean 1 = 1)] at hP hD
        have hP : va_P g.1 vwCl (mt_MW g am av ab (nI (cn + 1)) 0 (upd f (256 * cn + i) x) (upd h (256 * cn + i) 1) Z) H := hP
        have hD : va_D (mt_A g) (mt_MW g am av ab (nI (cn + 1)) 0 (upd f (256 * cn + i) x) (upd h (256 * cn + i) 1) Z) := hD
        refine lv_iload hx hb dXM_put_84 (lv_at hl 0 rfl) ?_
        simp only [ite_self] at hnew
        obtain ⟨hw1, hw2, hw3⟩ := hnew
        exact W.iret (v := (nI cn)) hx hb hr (fun t9 ht hW => ⟨⟨(nI cn), (cn + 1, 0, (upd f (256 * cn + i) x), (upd h (256 * cn + i) 1)), rfl, Or.inr (Or.inr ⟨j, i, hj, hi, rfl, rfl, hc6, rfl, (upd f (256 * cn + i) x), (upd h (256 * cn + i) 1), rfl, mt_new_put (Or.inr rfl) ⟨hw1, hw2, hw3⟩ hi⟩), by rw [ht]; exact hP, hD⟩, hS.F ht⟩) hS.2.2 dXM_put_86
      · refine lv_icmp_ne (tgt := 34) hx hb dXM_put_27 (by decide) (fun z => absurd (by rw [show cn = 600 by omega]) z) (fun _ => ?_)
        refine lv_iconst (v := (nI 2)) hx hb dXM_put_30 (by decide +kernel) ?_
        refine lv_goto (tgt := 35) hx hb dXM_put_31 (by decide) ?_
        refine va_put (D := g.1) (ci := 2) (v := .int (nI 2)) (ty := .int) (C := RXM) (T := TXM) (N := 4) hx hb hts (fun w h => List.mem_cons_of_mem _ (in_XM w h)) tyXM tyXM_ok nmXM hown hK hP hD hS 0 rfl rfl 3 (by decide) (hts _ (List.mem_cons_of_mem _ mw_389)) (fun _ h9 => h9) rfl (by decide +kernel) rfl rfl (Nat.le_of_ble_eq_true rfl) dXM_put_35 (fun H locs hP hD hS => ?_)
        have hP : va_P g.1 vwCl (mt_MW g am av ab (nI cn) (nI 2) fv fb Z) H := hP
        have hD : va_D (mt_A g) (mt_MW g am av ab (nI cn) (nI 2) fv fb Z) := hD
        refine lv_aload_n hx hb dXM_put_38 rfl (lv_at hl 0 rfl) ?_
        refine va_get (D := g.1) (ci := 2) (v := .int (nI 2)) (C := RXM) (T := TXM) (N := 4) hx hb hts (fun w h => List.mem_cons_of_mem _ (in_XM w h)) hown hK hP 0 rfl rfl 3 (by decide) (hts _ (List.mem_cons_of_mem _ mw_389)) (fun _ h9 => h9) rfl dXM_put_39 ?_
        refine lv_if_le (tgt := 47) hx hb dXM_put_42 (by decide) (fun z => absurd z (show ¬ (nI 2) ≤ 0 by decide)) (fun _ => ?_)
        refine lv_iconst (v := 0) hx hb dXM_put_45 (by decide +kernel) ?_
        exact W.iret (v := 0) hx hb hr (fun t9 ht hW => ⟨⟨0, (cn, 2, fv, fb), rfl, Or.inr (Or.inl ⟨⟨hver, hkey⟩, by omega, rfl⟩), by rw [ht]; exact hP, hD⟩, hS.F ht⟩) hS.2.2 dXM_put_46
    · refine lv_if_ne (tgt := 20) hx hb dXM_put_13 (by decide) (fun z => absurd rfl z) (fun _ => ?_)
      refine lv_iconst (v := 1) hx hb dXM_put_16 (by decide +kernel) ?_
      refine lv_goto (tgt := 35) hx hb dXM_put_17 (by decide) ?_
      refine va_put (D := g.1) (ci := 2) (v := .int 1) (ty := .int) (C := RXM) (T := TXM) (N := 4) hx hb hts (fun w h => List.mem_cons_of_mem _ (in_XM w h)) tyXM tyXM_ok nmXM hown hK hP hD hS 0 rfl rfl 3 (by decide) (hts _ (List.mem_cons_of_mem _ mw_389)) (fun _ h9 => h9) rfl (by decide +kernel) rfl rfl (Nat.le_of_ble_eq_true rfl) dXM_put_35 (fun H locs hP hD hS => ?_)
      have hP : va_P g.1 vwCl (mt_MW g am av ab (nI cn) 1 fv fb Z) H := hP
      have hD : va_D (mt_A g) (mt_MW g am av ab (nI cn) 1 fv fb Z) := hD
      refine lv_aload_n hx hb dXM_put_38 rfl (lv_at hl 0 rfl) ?_
      refine va_get (D := g.1) (ci := 2) (v := .int 1) (C := RXM) (T := TXM) (N := 4) hx hb hts (fun w h => List.mem_cons_of_mem _ (in_XM w h)) hown hK hP 0 rfl rfl 3 (by decide) (hts _ (List.mem_cons_of_mem _ mw_389)) (fun _ h9 => h9) rfl dXM_put_39 ?_
      refine lv_if_le (tgt := 47) hx hb dXM_put_42 (by decide) (fun z => absurd z (show ¬ (1 : Int32) ≤ 0 by decide)) (fun _ => ?_)
      refine lv_iconst (v := 0) hx hb dXM_put_45 (by decide +kernel) ?_
      exact W.iret (v := 0) hx hb hr (fun t9 ht hW => ⟨⟨0, (cn, 1, fv, fb), rfl, Or.inl ⟨fun h9 => hkey h9.2, rfl⟩, by rw [ht]; exact hP, hD⟩, hS.F ht⟩) hS.2.2 dXM_put_46
  · refine lv_if_eq (tgt := 16) hx hb dXM_put_6 (by decide) (fun _ => ?_) (fun z => absurd rfl z)
    refine lv_iconst (v := 1) hx hb dXM_put_16 (by decide +kernel) ?_
    refine lv_goto (tgt := 35) hx hb dXM_put_17 (by decide) ?_
    refine va_put (D := g.1) (ci := 2) (v := .int 1) (ty := .int) (C := RXM) (T := TXM) (N := 4) hx hb hts (fun w h => List.mem_cons_of_mem _ (in_XM w h)) tyXM tyXM_ok nmXM hown hK hP hD hS 0 rfl rfl 3 (by decide) (hts _ (List.mem_cons_of_mem _ mw_389)) (fun _ h9 => h9) rfl (by decide +kernel) rfl rfl (Nat.le_of_ble_eq_true rfl) dXM_put_35 (fun H locs hP hD hS => ?_)
    have hP : va_P g.1 vwCl (mt_MW g am av ab (nI cn) 1 fv fb Z) H := hP
    have hD : va_D (mt_A g) (mt_MW g am av ab (nI cn) 1 fv fb Z) := hD
    refine lv_aload_n hx hb dXM_put_38 rfl (lv_at hl 0 rfl) ?_
    refine va_get (D := g.1) (ci := 2) (v := .int 1) (C := RXM) (T := TXM) (N := 4) hx hb hts (fun w h => List.mem_cons_of_mem _ (in_XM w h)) hown hK hP 0 rfl rfl 3 (by decide) (hts _ (List.mem_cons_of_mem _ mw_389)) (fun _ h9 => h9) rfl dXM_put_39 ?_
    refine lv_if_le (tgt := 47) hx hb dXM_put_42 (by decide) (fun z => absurd z (show ¬ (1 : Int32) ≤ 0 by decide)) (fun _ => ?_)
    refine lv_iconst (v := 0) hx hb dXM_put_45 (by decide +kernel) ?_
    exact W.iret (v := 0) hx hb hr (fun t9 ht hW => ⟨⟨0, (cn, 1, fv, fb), rfl, Or.inl ⟨fun h9 => hver h9.1, rfl⟩, by rw [ht]; exact hP, hD⟩, hS.F ht⟩) hS.2.2 dXM_put_46
set_option maxHeartbeats 4000000 in
set_option maxRecDepth 100000 in
/-- the reference: remove -/
theorem c_M_remove (l : Launch) (g : mt_G) (am av ab : Nat) (cn : Nat) (th : Int32) (fv fb : Nat → Int32) (Z : va_W) (hcn : cn ≤ 600) (hfb : ∀ j, fb j = 0 ∨ fb j = 1) (v k : Int32) : Met l yXM_remove wsXM_remove ({ frames := 1, cells := 0, slots := 0, locals := 60 }) (mt_Pc g (mt_MW g am av ab (nI cn) th fv fb Z) [.ref am, .int v, .int k]) (va_Qi (fun r q => (¬ (mt_ver v cn ∧ mt_key k) ∧ q = (cn, 1, fv, fb)) ∨ ((mt_ver v cn ∧ mt_key k) ∧ cn = 600 ∧ q = (cn, 2, fv, fb)) ∨ ∃ j i, j < cn ∧ i < 256 ∧ v = nI j ∧ k = nI i ∧ cn < 600 ∧ ((fb (256 * j + i) = 0 ∧ q = (cn, 3, fv, fb)) ∨ (fb (256 * j + i) = 1 ∧ r = nI cn ∧ ∃ f h, q = (cn + 1, 0, f, h) ∧ mt_new fv fb f h cn (fun y => if y = i then (0, 0) else (fv (256 * j + y), fb (256 * j + y)))))) (fun (q : Nat × Int32 × (Nat → Int32) × (Nat → Int32)) t => mt_B g (mt_MW g am av ab (nI q.1) q.2.1 q.2.2.1 q.2.2.2 Z) t) (mt_A g)) (0) (0) (mt_A g) := by
  refine Met.ofW (cc := cXM_remove) (maxL := 4) (ret := (some .int)) (by decide) rfl ?_
  intro p e s m args below meth c s₁ B hml hv
  obtain ⟨rfl, hE, hz, hP, hD⟩ := hv
  have hx := B.exec
  have hb := B.bytes
  have hr := B.returns
  have hts := atoms_spec (ws := wsXM_remove) B.pre
  have hown : s.vm.findClass RXM = some m.cls := findClass_of_methodNamed B.named
  have hlocks := B.notSynchronized
  have hK := hE.k
  have hA : ∀ q : Nat, s.heap.size ≤ q → mt_A g q := fun q h => Nat.le_trans hz h
  have hS : va_S (mt_A g) s.heap s.heap [] := va_S.rf
  have hl := lv_entry ([.ref am, .int v, .int k]) (n := 4) (Nat.le_of_ble_eq_true rfl)
  rw [lg_entry_eq]
  generalize (lg_sl ([.ref am, .int v, .int k]) ++ List.replicate (4 - (lg_sl ([.ref am, .int v, .int k])).length) Slot.unset).toArray = ls at hl ⊢
  have hl : lv_has ls 4 [(0, .ref am), (1, .int v), (2, .int k)] := hl
  have hH : s.heap = s.heap := rfl
  refine lv_aload_n hx hb dXM_remove_0 rfl (lv_at hl 0 rfl) ?_
  refine lv_aload_n hx hb dXM_remove_1 rfl (lv_at hl 0 rfl) ?_
  refine lv_iload_n hx hb dXM_remove_2 rfl (lv_at hl 1 rfl) ?_
  refine vp_callSi (W.runV (As := [.int v]) (rest := [.ref am]) ⟨hx, hb, hml, hown, hts⟩ (c_M_isOne l g am av ab cn th fv fb Z hcn v) (cwV 1 hts (mt_giV mw_409 mw_410 mw_471 mw_5 (mt_gi mw_411)) rfl rfl rfl (by decide +kernel) ⟨by decide, by decide⟩) (mt_preV hE hz hS hP hD (va_recv hK hP (q := (RXM, TXM, 4)) (q0 := 0) rfl rfl)) rfl rfl hl.1 rfl (lv_room (Nat.le_of_ble_eq_true rfl)) dXM_remove_3 ⟨Nat.zero_le _, Nat.zero_le _⟩) (fun z1 e1 => ?_)
  rcases e1 with ⟨rfl, hver⟩ | ⟨rfl, hver⟩
  · refine lv_if_eq (tgt := 16) hx hb dXM_remove_6 (by decide) (fun z => absurd z (show ¬ (1 : Int32) = 0 by decide)) (fun _ => ?_)
    refine lv_iload_n hx hb dXM_remove_9 rfl (lv_at hl 2 rfl) ?_
    refine vp_callSi (W.runS (As := [.int k]) (rest := [.ref am]) ⟨hx, hb, hml, hown, hts⟩ (c_M_isKey l g _ k) (va_cwS 1 hts (mt_giS mw_412 mw_413 mw_5 (mt_gi mw_414)) rfl rfl rfl (by decide +kernel) ⟨by decide, by decide⟩) (mt_preS hE hz hS hP hD) rfl rfl hl.1 rfl (lv_room (Nat.le_of_ble_eq_true rfl)) dXM_remove_10 ⟨Nat.zero_le _, Nat.zero_le _⟩) (fun z2 e2 => ?_)
    rcases e2 with ⟨rfl, hkey⟩ | ⟨rfl, hkey⟩
    · refine lv_if_ne (tgt := 20) hx hb dXM_remove_13 (by decide) (fun _ => ?_) (fun z => absurd z (show ¬ (1 : Int32) = 0 by decide))
      obtain ⟨j, hj, rfl⟩ := mt_ver_nat hcn hver
      obtain ⟨i, hi, rfl⟩ := mt_key_nat hkey
      refine lv_aload_n hx hb dXM_remove_20 rfl (lv_at hl 0 rfl) ?_
      refine va_get (D := g.1) (ci := 2) (v := .int (nI cn)) (C := RXM) (T := TXM) (N := 4) hx hb hts (fun w h => List.mem_cons_of_mem _ (in_XM w h)) hown hK hP 0 rfl rfl 2 (by decide) (hts _ (List.mem_cons_of_mem _ mw_388)) (fun _ h9 => h9) rfl dXM_remove_21 ?_
      refine lv_sipush (v := (nI 600)) hx hb dXM_remove_24 (by decide +kernel) ?_
      by_cases hc6 : cn < 600
      · refine lv_icmp_ne (tgt := 34) hx hb dXM_remove_27 (by decide) (fun _ => ?_) (fun z => absurd z (fun e9 => absurd ((nI_eq (by omega) (by omega)).mp e9) (by omega)))
        refine lv_aload_n hx hb dXM_remove_34 rfl (lv_at hl 0 rfl) ?_
        refine va_get (D := g.1) (ci := 2) (v := .ref ab) (C := RXM) (T := TXM) (N := 4) hx hb hts (fun w h => List.mem_cons_of_mem _ (in_XM w h)) hown hK hP 0 rfl rfl 1 (by decide) (hts _ (List.mem_cons_of_mem _ mw_387)) (fun _ h9 => h9) rfl dXM_remove_35 ?_
        refine lv_sipush (v := (nI 256)) hx hb dXM_remove_38 (by decide +kernel) ?_
        refine lv_iload_n hx hb dXM_remove_41 rfl (lv_at hl 1 rfl) ?_
        refine lv_imul hx hb dXM_remove_42 ?_
        refine qa_i (y := (nI (256 * j))) (pk_mul 256 j) ?_
        refine lv_iload_n hx hb dXM_remove_43 rfl (lv_at hl 2 rfl) ?_
        refine lv_iadd hx hb dXM_remove_44 ?_
        refine qa_i (y := (nI (256 * j + i))) (nI_add (256 * j) i) ?_
        refine va_zald (D := g.1) (cl := vwCl) hx hb hK hP 2 3 rfl rfl (vp_in_nI (n := 256 * j + i) (by omega) (by decide)) dXM_remove_45 ?_
        refine qa_i (y := (fb (256 * j + i))) (by rw [nI_clamp (by omega)]) ?_
        rcases hfb (256 * j + i) with hf0 | hf1
        · refine qa_i (y := 0) hf0 ?_
          refine lv_if_ne (tgt := 53) hx hb dXM_remove_46 (by decide) (fun z => absurd rfl z) (fun _ => ?_)
          refine lv_iconst (v := (nI 3)) hx hb dXM_remove_49 (by decide +kernel) ?_
          refine lv_goto (tgt := 54) hx hb dXM_remove_50 (by decide) ?_
          refine va_put (D := g.1) (ci := 2) (v := .int (nI 3)) (ty := .int) (C := RXM) (T := TXM) (N := 4) hx hb hts (fun w h => List.mem_cons_of_mem _ (in_XM w h)) tyXM tyXM_ok nmXM hown hK hP hD hS 0 rfl rfl 3 (by decide) (hts _ (List.mem_cons_of_mem _ mw_389)) (fun _ h9 => h9) rfl (by decide +kernel) rfl rfl (Nat.le_of_ble_eq_true rfl) dXM_remove_54 (fun H locs hP hD hS => ?_)
          have hP : va_P g.1 vwCl (mt_MW g am av ab (nI cn) (nI 3) fv fb Z) H := hP
          have hD : va_D (mt_A g) (mt_MW g am av ab (nI cn) (nI 3) fv fb Z) := hD
          refine lv_aload_n hx hb dXM_remove_57 rfl (lv_at hl 0 rfl) ?_
          refine va_get (D := g.1) (ci := 2) (v := .int (nI 3)) (C := RXM) (T := TXM) (N := 4) hx hb hts (fun w h => List.mem_cons_of_mem _ (in_XM w h)) hown hK hP 0 rfl rfl 3 (by decide) (hts _ (List.mem_cons_of_mem _ mw_389)) (fun _ h9 => h9) rfl dXM_remove_58 ?_
          refine lv_if_le (tgt := 66) hx hb dXM_remove_61 (by decide) (fun z => absurd z (show ¬ (nI 3) ≤ 0 by decide)) (fun _ => ?_)
          refine lv_iconst (v := 0) hx hb dXM_remove_64 (by decide +kernel) ?_
          exact W.iret (v := 0) hx hb hr (fun t9 ht hW => ⟨⟨0, (cn, 3, fv, fb), rfl, Or.inr (Or.inr ⟨j, i, hj, hi, rfl, rfl, hc6, Or.inl ⟨hf0, rfl⟩⟩), by rw [ht]; exact hP, hD⟩, hS.F ht⟩) hS.2.2 dXM_remove_65
        · refine qa_i (y := 1) hf1 ?_
          refine lv_if_ne (tgt := 53) hx hb dXM_remove_46 (by decide) (fun _ => ?_) (fun z => absurd z (show ¬ (1 : Int32) = 0 by decide))
          refine lv_iconst (v := 0) hx hb dXM_remove_53 (by decide +kernel) ?_
          refine va_put (D := g.1) (ci := 2) (v := .int 0) (ty := .int) (C := RXM) (T := TXM) (N := 4) hx hb hts (fun w h => List.mem_cons_of_mem _ (in_XM w h)) tyXM tyXM_ok nmXM hown hK hP hD hS 0 rfl rfl 3 (by decide) (hts _ (List.mem_cons_of_mem _ mw_389)) (fun _ h9 => h9) rfl (by decide +kernel) rfl rfl (Nat.le_of_ble_eq_true rfl) dXM_remove_54 (fun H locs hP hD hS => ?_)
          have hP : va_P g.1 vwCl (mt_MW g am av ab (nI cn) 0 fv fb Z) H := hP
          have hD : va_D (mt_A g) (mt_MW g am av ab (nI cn) 0 fv fb Z) := hD
          refine lv_aload_n hx hb dXM_remove_57 rfl (lv_at hl 0 rfl) ?_
          refine va_get (D := g.1) (ci := 2) (v := .int 0) (C := RXM) (T := TXM) (N := 4) hx hb hts (fun w h => List.mem_cons_of_mem _ (in_XM w h)) hown hK hP 0 rfl rfl 3 (by decide) (hts _ (List.mem_cons_of_mem _ mw_389)) (fun _ h9 => h9) rfl dXM_remove_58 ?_
          refine lv_if_le (tgt := 66) hx hb dXM_remove_61 (by decide) (fun _ => ?_) (fun z => absurd (show (0 : Int32) ≤ 0 by decide) z)
          refine lv_aload_n hx hb dXM_remove_66 rfl (lv_at hl 0 rfl) ?_
          refine lv_iload_n hx hb dXM_remove_67 rfl (lv_at hl 1 rfl) ?_
          refine lv_iload_n hx hb dXM_remove_68 rfl (lv_at hl 1 rfl) ?_
          refine lv_iconst (v := 0) hx hb dXM_remove_69 (by decide +kernel) ?_
          refine va_calli (va_runV (As := [.int (nI j), .int (nI j), .int 0]) (rest := []) ⟨hx, hb, hml, hown, hts⟩ (c_M_made l g am av ab cn 0 fv fb Z hcn hfb hc6 j j 0 hj hj (Nat.zero_le _)) (cwV 3 hts (mt_giV mw_415 mw_416 mw_472 mw_5 (mt_gi mw_417)) rfl rfl rfl (by decide +kernel) ⟨by decide, by decide⟩) (mt_preV hE hz hS hP hD (va_recv hK hP (q := (RXM, TXM, 4)) (q0 := 0) rfl rfl)) rfl rfl hl.1 rfl (lv_room (Nat.le_of_ble_eq_true rfl)) dXM_remove_70 ⟨Nat.zero_le _, Nat.zero_le _⟩) hS (fun _ _ h => h) (fun _ h => h) (fun r1 u1 t1 H locs ht1 hvm1 hpo1 hB1 hz1 hk1 hS => ?_)
          obtain ⟨f, h⟩ := u1
          obtain ⟨rfl, hnew⟩ := hpo1
          obtain ⟨hP, hD⟩ := hB1
          rw [ht1] at hP
          dsimp only at hnew hP hD
          refine lv_istore_n (i := 3) (lv' := [(3, .int (nI cn)), (0, .ref am), (1, .int (nI j)), (2, .int (nI i))]) hx hb dXM_remove_73 rfl hl (by decide) rfl (fun ls hl => ?_)
          refine lv_aload_n hx hb dXM_remove_74 rfl (lv_at hl 1 rfl) ?_
          refine va_get (D := g.1) (ci := 2) (v := .ref av) (C := RXM) (T := TXM) (N := 4) hx hb hts (fun w h => List.mem_cons_of_mem _ (in_XM w h)) hown hK hP 0 rfl rfl 0 (by decide) (hts _ (List.mem_cons_of_mem _ mw_386)) (fun _ h9 => h9) rfl dXM_remove_75 ?_
          refine lv_sipush (v := (nI 256)) hx hb dXM_remove_78 (by decide +kernel) ?_
          refine lv_iload_n hx hb dXM_remove_81 rfl (lv_at hl 0 rfl) ?_
          refine lv_imul hx hb dXM_remove_82 ?_
          refine qa_i (y := (nI (256 * cn))) (pk_mul 256 cn) ?_
          refine lv_iload_n hx hb dXM_remove_83 rfl (lv_at hl 3 rfl) ?_
          refine lv_iadd hx hb dXM_remove_84 ?_
          refine qa_i (y := (nI (256 * cn + i))) (nI_add (256 * cn) i) ?_
          refine lv_iconst (v := 0) hx hb dXM_remove_85 (by decide +kernel) ?_
          refine va_iast (D := g.1) (cl := vwCl) hx hb hK hP hD hS 1 2 rfl rfl (vp_in_nI (n := 256 * cn + i) (by omega) (by decide)) dXM_remove_86 (fun H locs hP hD hS => ?_)
          rw [nI_clamp (by omega)] at hP hD
          have hP : va_P g.1 vwCl (mt_MW g am av ab (nI (cn + 1)) 0 (upd f (256 * cn + i) 0) h Z) H := hP
          have hD : va_D (mt_A g) (mt_MW g am av ab (nI (cn + 1)) 0 (upd f (256 * cn + i) 0) h Z) := hD
          refine lv_aload_n hx hb dXM_remove_87 rfl (lv_at hl 1 rfl) ?_
          refine va_get (D := g.1) (ci := 2) (v := .ref ab) (C := RXM) (T := TXM) (N := 4) hx hb hts (fun w h => List.mem_cons_of_mem _ (in_XM w h)) hown hK hP 0 rfl rfl 1 (by decide) (hts _ (List.mem_cons_of_mem _ mw_387)) (fun _ h9 => h9) rfl dXM_remove_88 ?_
          refine lv_sipush (v := (nI 256)) hx hb dXM_remove_91 (by decide +kernel) ?_
          refine lv_iload_n hx hb dXM_remove_94 rfl (lv_at hl 0 rfl) ?_
          refine lv_imul hx hb dXM_remove_95 ?_
          refine qa_i (y := (nI (256 * cn))) (pk_mul 256 cn) ?_
          refine lv_iload_n hx hb dXM_remove_96 rfl (lv_at hl 3 rfl) ?_
          refine lv_iadd hx hb dXM_remove_97 ?_
          refine qa_i (y := (nI (256 * cn + i))) (nI_add (256 * cn) i) ?_
          refine lv_iconst (v := 0) hx hb dXM_remove_98 (by decide +kernel) ?_
          refine va_zast (D := g.1) (cl := vwCl) hx hb hK hP hD hS 2 3 rfl rfl (vp_in_nI (n := 256 * cn + i) (by omega) (by decide)) dXM_remove_99 (fun H locs hP hD hS => ?_)
          rw [nI_clamp (by omega), (by decide : vp_nar .boolean 0 = 0)] at hP hD
          have hP : va_P g.1 vwCl (mt_MW g am av ab (nI (cn + 1)) 0 (upd f (256 * cn + i) 0) (upd h (256 * cn + i) 0) Z) H := hP
          have hD : va_D (mt_A g) (mt_MW g am av ab (nI (cn + 1)) 0 (upd f (256 * cn + i) 0) (upd h (256 * cn + i) 0) Z) := hD
          refine lv_iload_n hx hb dXM_remove_100 rfl (lv_at hl 0 rfl) ?_
          simp only [ite_self] at hnew
          obtain ⟨hw1, hw2, hw3⟩ := hnew
          exact W.iret (v := (nI cn)) hx hb hr (fun t9 ht hW => ⟨⟨(nI cn), (cn + 1, 0, (upd f (256 * cn + i) 0), (upd h (256 * cn + i) 0)), rfl, Or.inr (Or.inr ⟨j, i, hj, hi, rfl, rfl, hc6, Or.inr ⟨hf1, rfl, (upd f (256 * cn + i) 0), (upd h (256 * cn + i) 0), rfl, mt_new_put (Or.inl rfl) ⟨hw1, hw2, hw3⟩ hi⟩⟩), by rw [ht]; exact hP, hD⟩, hS.F ht⟩) hS.2.2 dXM_remove_101
      · refine lv_icmp_ne (tgt := 34) hx hb dXM_remove_27 (by decide) (fun z => absurd (by rw [show cn = 600 by omega]) z) (fun _ => ?_)
        refine lv_iconst (v := (nI 2)) hx hb dXM_remove_30 (by decide +kernel) ?_
        refine lv_goto (tgt := 54) hx hb dXM_remove_31 (by decide) ?_
        refine va_put (D := g.1) (ci := 2) (v := .int (nI 2)) (ty := .int) (C := RXM) (T := TXM) (N := 4) hx hb hts (fun w h => List.mem_cons_of_mem _ (in_XM w h)) tyXM tyXM_ok nmXM hown hK hP hD hS 0 rfl rfl 3 (by decide) (hts _ (List.mem_cons_of_mem _ mw_389)) (fun _ h9 => h9) rfl (by decide +kernel) rfl rfl (Nat.le_of_ble_eq_true rfl) dXM_remove_54 (fun H locs hP hD hS => ?_)
        have hP : va_P g.1 vwCl (mt_MW g am av ab (nI cn) (nI 2) fv fb Z) H := hP
        have hD : va_D (mt_A g) (mt_MW g am av ab (nI cn) (nI 2) fv fb Z) := hD
        refine lv_aload_n hx hb dXM_remove_57 rfl (lv_at hl 0 rfl) ?_
        refine va_get (D := g.1) (ci := 2) (v := .int (nI 2)) (C := RXM) (T := TXM) (N := 4) hx hb hts (fun w h => List.mem_cons_of_mem _ (in_XM w h)) hown hK hP 0 rfl rfl 3 (by decide) (hts _ (List.mem_cons_of_mem _ mw_389)) (fun _ h9 => h9) rfl dXM_remove_58 ?_
        refine lv_if_le (tgt := 66) hx hb dXM_remove_61 (by decide) (fun z => absurd z (show ¬ (nI 2) ≤ 0 by decide)) (fun _ => ?_)
        refine lv_iconst (v := 0) hx hb dXM_remove_64 (by decide +kernel) ?_
        exact W.iret (v := 0) hx hb hr (fun t9 ht hW => ⟨⟨0, (cn, 2, fv, fb), rfl, Or.inr (Or.inl ⟨⟨hver, hkey⟩, by omega, rfl⟩), by rw [ht]; exact hP, hD⟩, hS.F ht⟩) hS.2.2 dXM_remove_65
    · refine lv_if_ne (tgt := 20) hx hb dXM_remove_13 (by decide) (fun z => absurd rfl z) (fun _ => ?_)
      refine lv_iconst (v := 1) hx hb dXM_remove_16 (by decide +kernel) ?_
      refine lv_goto (tgt := 54) hx hb dXM_remove_17 (by decide) ?_
      refine va_put (D := g.1) (ci := 2) (v := .int 1) (ty := .int) (C := RXM) (T := TXM) (N := 4) hx hb hts (fun w h => List.mem_cons_of_mem _ (in_XM w h)) tyXM tyXM_ok nmXM hown hK hP hD hS 0 rfl rfl 3 (by decide) (hts _ (List.mem_cons_of_mem _ mw_389)) (fun _ h9 => h9) rfl (by decide +kernel) rfl rfl (Nat.le_of_ble_eq_true rfl) dXM_remove_54 (fun H locs hP hD hS => ?_)
      have hP : va_P g.1 vwCl (mt_MW g am av ab (nI cn) 1 fv fb Z) H := hP
      have hD : va_D (mt_A g) (mt_MW g am av ab (nI cn) 1 fv fb Z) := hD
      refine lv_aload_n hx hb dXM_remove_57 rfl (lv_at hl 0 rfl) ?_
      refine va_get (D := g.1) (ci := 2) (v := .int 1) (C := RXM) (T := TXM) (N := 4) hx hb hts (fun w h => List.mem_cons_of_mem _ (in_XM w h)) hown hK hP 0 rfl rfl 3 (by decide) (hts _ (List.mem_cons_of_mem _ mw_389)) (fun _ h9 => h9) rfl dXM_remove_58 ?_
      refine lv_if_le (tgt := 66) hx hb dXM_remove_61 (by decide) (fun z => absurd z (show ¬ (1 : Int32) ≤ 0 by decide)) (fun _ => ?_)
      refine lv_iconst (v := 0) hx hb dXM_remove_64 (by decide +kernel) ?_
      exact W.iret (v := 0) hx hb hr (fun t9 ht hW => ⟨⟨0, (cn, 1, fv, fb), rfl, Or.inl ⟨fun h9 => hkey h9.2, rfl⟩, by rw [ht]; exact hP, hD⟩, hS.F ht⟩) hS.2.2 dXM_remove_65
  · refine lv_if_eq (tgt := 16) hx hb dXM_remove_6 (by decide) (fun _ => ?_) (fun z => absurd rfl z)
    refine lv_iconst (v := 1) hx hb dXM_remove_16 (by decide +kernel) ?_
    refine lv_goto (tgt := 54) hx hb dXM_remove_17 (by decide) ?_
    refine va_put (D := g.1) (ci := 2) (v := .int 1) (ty := .int) (C := RXM) (T := TXM) (N := 4) hx hb hts (fun w h => List.mem_cons_of_mem _ (in_XM w h)) tyXM tyXM_ok nmXM hown hK hP hD hS 0 rfl rfl 3 (by decide) (hts _ (List.mem_cons_of_mem _ mw_389)) (fun _ h9 => h9) rfl (by decide +kernel) rfl rfl (Nat.le_of_ble_eq_true rfl) dXM_remove_54 (fun H locs hP hD hS => ?_)
    have hP : va_P g.1 vwCl (mt_MW g am av ab (nI cn) 1 fv fb Z) H := hP
    have hD : va_D (mt_A g) (mt_MW g am av ab (nI cn) 1 fv fb Z) := hD
    refine lv_aload_n hx hb dXM_remove_57 rfl (lv_at hl 0 rfl) ?_
    refine va_get (D := g.1) (ci := 2) (v := .int 1) (C := RXM) (T := TXM) (N := 4) hx hb hts (fun w h => List.mem_cons_of_mem _ (in_XM w h)) hown hK hP 0 rfl rfl 3 (by decide) (hts _ (List.mem_cons_of_mem _ mw_389)) (fun _ h9 => h9) rfl dXM_remove_58 ?_
    refine lv_if_le (tgt := 66) hx hb dXM_remove_61 (by decide) (fun z => absurd z (show ¬ (1 : Int32) ≤ 0 by decide)) (fun _ => ?_)
    refine lv_iconst (v := 0) hx hb dXM_remove_64 (by decide +kernel) ?_
    exact W.iret (v := 0) hx hb hr (fun t9 ht hW => ⟨⟨0, (cn, 1, fv, fb), rfl, Or.inl ⟨fun h9 => hver h9.1, rfl⟩, by rw [ht]; exact hP, hD⟩, hS.F ht⟩) hS.2.2 dXM_remove_65
set_option maxHeartbeats 4000000 in
set_option maxRecDepth 100000 in
/-- the reference: get -/
theorem c_M_get (l : Launch) (g : mt_G) (am av ab : Nat) (cn : Nat) (th : Int32) (fv fb : Nat → Int32) (Z : va_W) (hcn : cn ≤ 600) (hfb : ∀ j, fb j = 0 ∨ fb j = 1) (v k : Int32) : Met l yXM_get wsXM_get ({ frames := 1, cells := 0, slots := 0, locals := 60 }) (mt_Pc g (mt_MW g am av ab (nI cn) th fv fb Z) [.ref am, .int v, .int k]) (va_Qi (fun r q => (¬ (mt_ver v cn ∧ mt_key k) ∧ q = (cn, 1, fv, fb)) ∨ ∃ j i, j < cn ∧ i < 256 ∧ v = nI j ∧ k = nI i ∧ ((fb (256 * j + i) = 0 ∧ q = (cn, 2, fv, fb)) ∨ (fb (256 * j + i) = 1 ∧ r = fv (256 * j + i) ∧ q = (cn, 0, fv, fb)))) (fun (q : Nat × Int32 × (Nat → Int32) × (Nat → Int32)) t => mt_B g (mt_MW g am av ab (nI q.1) q.2.1 q.2.2.1 q.2.2.2 Z) t) (mt_A g)) (0) (0) (mt_A g) := by
  refine Met.ofW (cc := cXM_get) (maxL := 3) (ret := (some .int)) (by decide) rfl ?_
  intro p e s m args below meth c s₁ B hml hv
  obtain ⟨rfl, hE, hz, hP, hD⟩ := hv
  have hx := B.exec
  have hb := B.bytes
  have hr := B.returns
  have hts := atoms_spec (ws := wsXM_get) B.pre
  have hown : s.vm.findClass RXM = some m.cls := findClass_of_methodNamed B.named
  have hlocks := B.notSynchronized
  have hK := hE.k
  have hA : ∀ q : Nat, s.heap.size ≤ q → mt_A g q := fun q h => Nat.le_trans hz h
  have hS : va_S (mt_A g) s.heap s.heap [] := va_S.rf
  have hl := lv_entry ([.ref am, .int v, .int k]) (n := 3) (Nat.le_of_ble_eq_true rfl)
  rw [lg_entry_eq]
  generalize (lg_sl ([.ref am, .int v, .int k]) ++ List.replicate (3 - (lg_sl ([.ref am, .int v, .int k])).length) Slot.unset).toArray = ls at hl ⊢
  have hl : lv_has ls 3 [(0, .ref am), (1, .int v), (2, .int k)] := hl
  have hH : s.heap = s.heap := rfl
  refine lv_aload_n hx hb dXM_get_0 rfl (lv_at hl 0 rfl) ?_
  refine lv_aload_n hx hb dXM_get_1 rfl (lv_at hl 0 rfl) ?_
  refine lv_iload_n hx hb dXM_get_2 rfl (lv_at hl 1 rfl) ?_
  refine vp_callSi (W.runV (As := [.int v]) (rest := [.ref am]) ⟨hx, hb, hml, hown, hts⟩ (c_M_isOne l g am av ab cn th fv fb Z hcn v) (cwV 1 hts (mt_giV mw_409 mw_410 mw_471 mw_5 (mt_gi mw_411)) rfl rfl rfl (by decide +kernel) ⟨by decide, by decide⟩) (mt_preV hE hz hS hP hD (va_recv hK hP (q := (RXM, TXM, 4)) (q0 := 0) rfl rfl)) rfl rfl hl.1 rfl (lv_room (Nat.le_of_ble_eq_true rfl)) dXM_get_3 ⟨Nat.zero_le _, Nat.zero_le _⟩) (fun z1 e1 => ?_)
  rcases e1 with ⟨rfl, hver⟩ | ⟨rfl, hver⟩
  · refine lv_if_eq (tgt := 16) hx hb dXM_get_6 (by decide) (fun z => absurd z (show ¬ (1 : Int32) = 0 by decide)) (fun _ => ?_)
    refine lv_iload_n hx hb dXM_get_9 rfl (lv_at hl 2 rfl) ?_
    refine vp_callSi (W.runS (As := [.int k]) (rest := [.ref am]) ⟨hx, hb, hml, hown, hts⟩ (c_M_isKey l g _ k) (va_cwS 1 hts (mt_giS mw_412 mw_413 mw_5 (mt_gi mw_414)) rfl rfl rfl (by decide +kernel) ⟨by decide, by decide⟩) (mt_preS hE hz hS hP hD) rfl rfl hl.1 rfl (lv_room (Nat.le_of_ble_eq_true rfl)) dXM_get_10 ⟨Nat.zero_le _, Nat.zero_le _⟩) (fun z2 e2 => ?_)
    rcases e2 with ⟨rfl, hkey⟩ | ⟨rfl, hkey⟩
    · refine lv_if_ne (tgt := 20) hx hb dXM_get_13 (by decide) (fun _ => ?_) (fun z => absurd z (show ¬ (1 : Int32) = 0 by decide))
      obtain ⟨j, hj, rfl⟩ := mt_ver_nat hcn hver
      obtain ⟨i, hi, rfl⟩ := mt_key_nat hkey
      refine lv_aload_n hx hb dXM_get_20 rfl (lv_at hl 0 rfl) ?_
      refine va_get (D := g.1) (ci := 2) (v := .ref ab) (C := RXM) (T := TXM) (N := 4) hx hb hts (fun w h => List.mem_cons_of_mem _ (in_XM w h)) hown hK hP 0 rfl rfl 1 (by decide) (hts _ (List.mem_cons_of_mem _ mw_387)) (fun _ h9 => h9) rfl dXM_get_21 ?_
      refine lv_sipush (v := (nI 256)) hx hb dXM_get_24 (by decide +kernel) ?_
      refine lv_iload_n hx hb dXM_get_27 rfl (lv_at hl 1 rfl) ?_
      refine lv_imul hx hb dXM_get_28 ?_
      refine qa_i (y := (nI (256 * j))) (pk_mul 256 j) ?_
      refine lv_iload_n hx hb dXM_get_29 rfl (lv_at hl 2 rfl) ?_
      refine lv_iadd hx hb dXM_get_30 ?_
      refine qa_i (y := (nI (256 * j + i))) (nI_add (256 * j) i) ?_
      refine va_zald (D := g.1) (cl := vwCl) hx hb hK hP 2 3 rfl rfl (vp_in_nI (n := 256 * j + i) (by omega) (by decide)) dXM_get_31 ?_
      refine qa_i (y := (fb (256 * j + i))) (by rw [nI_clamp (by omega)]) ?_
      rcases hfb (256 * j + i) with hf0 | hf1
      · refine qa_i (y := 0) hf0 ?_
        refine lv_if_ne (tgt := 39) hx hb dXM_get_32 (by decide) (fun z => absurd rfl z) (fun _ => ?_)
        refine lv_iconst (v := (nI 2)) hx hb dXM_get_35 (by decide +kernel) ?_
        refine lv_goto (tgt := 40) hx hb dXM_get_36 (by decide) ?_
        refine va_put (D := g.1) (ci := 2) (v := .int (nI 2)) (ty := .int) (C := RXM) (T := TXM) (N := 4) hx hb hts (fun w h => List.mem_cons_of_mem _ (in_XM w h)) tyXM tyXM_ok nmXM hown hK hP hD hS 0 rfl rfl 3 (by decide) (hts _ (List.mem_cons_of_mem _ mw_389)) (fun _ h9 => h9) rfl (by decide +kernel) rfl rfl (Nat.le_of_ble_eq_true rfl) dXM_get_40 (fun H locs hP hD hS => ?_)
        have hP : va_P g.1 vwCl (mt_MW g am av ab (nI cn) (nI 2) fv fb Z) H := hP
        have hD : va_D (mt_A g) (mt_MW g am av ab (nI cn) (nI 2) fv fb Z) := hD
        refine lv_aload_n hx hb dXM_get_43 rfl (lv_at hl 0 rfl) ?_
        refine va_get (D := g.1) (ci := 2) (v := .int (nI 2)) (C := RXM) (T := TXM) (N := 4) hx hb hts (fun w h => List.mem_cons_of_mem _ (in_XM w h)) hown hK hP 0 rfl rfl 3 (by decide) (hts _ (List.mem_cons_of_mem _ mw_389)) (fun _ h9 => h9) rfl dXM_get_44 ?_
        refine lv_if_le (tgt := 54) hx hb dXM_get_47 (by decide) (fun z => absurd z (show ¬ (nI 2) ≤ 0 by decide)) (fun _ => ?_)
        refine lv_iconst (v := 0) hx hb dXM_get_50 (by decide +kernel) ?_
        refine lv_goto (tgt := 66) hx hb dXM_get_51 (by decide) ?_
        exact W.iret (v := 0) hx hb hr (fun t9 ht hW => ⟨⟨0, (cn, 2, fv, fb), rfl, Or.inr ⟨j, i, hj, hi, rfl, rfl, Or.inl ⟨hf0, rfl⟩⟩, by rw [ht]; exact hP, hD⟩, hS.F ht⟩) hS.2.2 dXM_get_66
      · refine qa_i (y := 1) hf1 ?_
        refine lv_if_ne (tgt := 39) hx hb dXM_get_32 (by decide) (fun _ => ?_) (fun z => absurd z (show ¬ (1 : Int32) = 0 by decide))
        refine lv_iconst (v := 0) hx hb dXM_get_39 (by decide +kernel) ?_
        refine va_put (D := g.1) (ci := 2) (v := .int 0) (ty := .int) (C := RXM) (T := TXM) (N := 4) hx hb hts (fun w h => List.mem_cons_of_mem _ (in_XM w h)) tyXM tyXM_ok nmXM hown hK hP hD hS 0 rfl rfl 3 (by decide) (hts _ (List.mem_cons_of_mem _ mw_389)) (fun _ h9 => h9) rfl (by decide +kernel) rfl rfl (Nat.le_of_ble_eq_true rfl) dXM_get_40 (fun H locs hP hD hS => ?_)
        have hP : va_P g.1 vwCl (mt_MW g am av ab (nI cn) 0 fv fb Z) H := hP
        have hD : va_D (mt_A g) (mt_MW g am av ab (nI cn) 0 fv fb Z) := hD
        refine lv_aload_n hx hb dXM_get_43 rfl (lv_at hl 0 rfl) ?_
        refine va_get (D := g.1) (ci := 2) (v := .int 0) (C := RXM) (T := TXM) (N := 4) hx hb hts (fun w h => List.mem_cons_of_mem _ (in_XM w h)) hown hK hP 0 rfl rfl 3 (by decide) (hts _ (List.mem_cons_of_mem _ mw_389)) (fun _ h9 => h9) rfl dXM_get_44 ?_
        refine lv_if_le (tgt := 54) hx hb dXM_get_47 (by decide) (fun _ => ?_) (fun z => absurd (show (0 : Int32) ≤ 0 by decide) z)
        refine lv_aload_n hx hb dXM_get_54 rfl (lv_at hl 0 rfl) ?_
        refine va_get (D := g.1) (ci := 2) (v := .ref av) (C := RXM) (T := TXM) (N := 4) hx hb hts (fun w h => List.mem_cons_of_mem _ (in_XM w h)) hown hK hP 0 rfl rfl 0 (by decide) (hts _ (List.mem_cons_of_mem _ mw_386)) (fun _ h9 => h9) rfl dXM_get_55 ?_
        refine lv_sipush (v := (nI 256)) hx hb dXM_get_58 (by decide +kernel) ?_
        refine lv_iload_n hx hb dXM_get_61 rfl (lv_at hl 1 rfl) ?_
        refine lv_imul hx hb dXM_get_62 ?_
        refine qa_i (y := (nI (256 * j))) (pk_mul 256 j) ?_
        refine lv_iload_n hx hb dXM_get_63 rfl (lv_at hl 2 rfl) ?_
        refine lv_iadd hx hb dXM_get_64 ?_
        refine qa_i (y := (nI (256 * j + i))) (nI_add (256 * j) i) ?_
        refine va_iald (D := g.1) (cl := vwCl) hx hb hK hP 1 2 rfl rfl (vp_in_nI (n := 256 * j + i) (by omega) (by decide)) dXM_get_65 ?_
        refine qa_i (y := (fv (256 * j + i))) (by rw [nI_clamp (by omega)]) ?_
        exact W.iret (v := (fv (256 * j + i))) hx hb hr (fun t9 ht hW => ⟨⟨(fv (256 * j + i)), (cn, 0, fv, fb), rfl, Or.inr ⟨j, i, hj, hi, rfl, rfl, Or.inr ⟨hf1, rfl, rfl⟩⟩, by rw [ht]; exact hP, hD⟩, hS.F ht⟩) hS.2.2 dXM_get_66
    · refine lv_if_ne (tgt := 20) hx hb dXM_get_13 (by decide) (fun z => absurd rfl z) (fun _ => ?_)
      refine lv_iconst (v := 1) hx hb dXM_get_16 (by decide +kernel) ?_
      refine lv_goto (tgt := 40) hx hb dXM_get_17 (by decide) ?_
      refine va_put (D := g.1) (ci := 2) (v := .int 1) (ty := .int) (C := RXM) (T := TXM) (N := 4) hx hb hts (fun w h => List.mem_cons_of_mem _ (in_XM w h)) tyXM tyXM_ok nmXM hown hK hP hD hS 0 rfl rfl 3 (by decide) (hts _ (List.mem_cons_of_mem _ mw_389)) (fun _ h9 => h9) rfl (by decide +kernel) rfl rfl (Nat.le_of_ble_eq_true rfl) dXM_get_40 (fun H locs hP hD hS => ?_)
      have hP : va_P g.1 vwCl (mt_MW g am av ab (nI cn) 1 fv fb Z) H := hP
      have hD : va_D (mt_A g) (mt_MW g am av ab (nI cn) 1 fv fb Z) := hD
      refine lv_aload_n hx hb dXM_get_43 rfl (lv_at hl 0 rfl) ?_
      refine va_get (D := g.1) (ci := 2) (v := .int 1) (C := RXM) (T := TXM) (N := 4) hx hb hts (fun w h => List.mem_cons_of_mem _ (in_XM w h)) hown hK hP 0 rfl rfl 3 (by decide) (hts _ (List.mem_cons_of_mem _ mw_389)) (fun _ h9 => h9) rfl dXM_get_44 ?_
      refine lv_if_le (tgt := 54) hx hb dXM_get_47 (by decide) (fun z => absurd z (show ¬ (1 : Int32) ≤ 0 by decide)) (fun _ => ?_)
      refine lv_iconst (v := 0) hx hb dXM_get_50 (by decide +kernel) ?_
      refine lv_goto (tgt := 66) hx hb dXM_get_51 (by decide) ?_
      exact W.iret (v := 0) hx hb hr (fun t9 ht hW => ⟨⟨0, (cn, 1, fv, fb), rfl, Or.inl ⟨fun h9 => hkey h9.2, rfl⟩, by rw [ht]; exact hP, hD⟩, hS.F ht⟩) hS.2.2 dXM_get_66
  · refine lv_if_eq (tgt := 16) hx hb dXM_get_6 (by decide) (fun _ => ?_) (fun z => absurd rfl z)
    refine lv_iconst (v := 1) hx hb dXM_get_16 (by decide +kernel) ?_
    refine lv_goto (tgt := 40) hx hb dXM_get_17 (by decide) ?_
    refine va_put (D := g.1) (ci := 2) (v := .int 1) (ty := .int) (C := RXM) (T := TXM) (N := 4) hx hb hts (fun w h => List.mem_cons_of_mem _ (in_XM w h)) tyXM tyXM_ok nmXM hown hK hP hD hS 0 rfl rfl 3 (by decide) (hts _ (List.mem_cons_of_mem _ mw_389)) (fun _ h9 => h9) rfl (by decide +kernel) rfl rfl (Nat.le_of_ble_eq_true rfl) dXM_get_40 (fun H locs hP hD hS => ?_)
    have hP : va_P g.1 vwCl (mt_MW g am av ab (nI cn) 1 fv fb Z) H := hP
    have hD : va_D (mt_A g) (mt_MW g am av ab (nI cn) 1 fv fb Z) := hD
    refine lv_aload_n hx hb dXM_get_43 rfl (lv_at hl 0 rfl) ?_
    refine va_get (D := g.1) (ci := 2) (v := .int 1) (C := RXM) (T := TXM) (N := 4) hx hb hts (fun w h => List.mem_cons_of_mem _ (in_XM w h)) hown hK hP 0 rfl rfl 3 (by decide) (hts _ (List.mem_cons_of_mem _ mw_389)) (fun _ h9 => h9) rfl dXM_get_44 ?_
    refine lv_if_le (tgt := 54) hx hb dXM_get_47 (by decide) (fun z => absurd z (show ¬ (1 : Int32) ≤ 0 by decide)) (fun _ => ?_)
    refine lv_iconst (v := 0) hx hb dXM_get_50 (by decide +kernel) ?_
    refine lv_goto (tgt := 66) hx hb dXM_get_51 (by decide) ?_
    exact W.iret (v := 0) hx hb hr (fun t9 ht hW => ⟨⟨0, (cn, 1, fv, fb), rfl, Or.inl ⟨fun h9 => hver h9.1, rfl⟩, by rw [ht]; exact hP, hD⟩, hS.F ht⟩) hS.2.2 dXM_get_66
set_option maxHeartbeats 4000000 in
set_option maxRecDepth 100000 in
/-- the reference: join -/
theorem c_M_join (l : Launch) (g : mt_G) (am av ab : Nat) (cn : Nat) (th : Int32) (fv fb : Nat → Int32) (Z : va_W) (hcn : cn ≤ 600) (hfb : ∀ j, fb j = 0 ∨ fb j = 1) (v w k : Int32) : Met l yXM_join wsXM_join ({ frames := 1, cells := 0, slots := 0, locals := 60 }) (mt_Pc g (mt_MW g am av ab (nI cn) th fv fb Z) [.ref am, .int v, .int w, .int k]) (va_Qi (fun r q => (¬ (mt_ver v cn ∧ mt_ver w cn ∧ mt_kb k) ∧ q = (cn, 1, fv, fb)) ∨ ((mt_ver v cn ∧ mt_ver w cn ∧ mt_kb k) ∧ cn = 600 ∧ q = (cn, 2, fv, fb)) ∨ ∃ j i y, j < cn ∧ i < cn ∧ y ≤ 256 ∧ v = nI j ∧ w = nI i ∧ k = nI y ∧ cn < 600 ∧ r = nI cn ∧ ∃ f h, q = (cn + 1, 0, f, h) ∧ mt_new fv fb f h cn (fun o => (fv (256 * (if o < y then j else i) + o), fb (256 * (if o < y then j else i) + o)))) (fun (q : Nat × Int32 × (Nat → Int32) × (Nat → Int32)) t => mt_B g (mt_MW g am av ab (nI q.1) q.2.1 q.2.2.1 q.2.2.2 Z) t) (mt_A g)) (0) (0) (mt_A g) := by
  refine Met.ofW (cc := cXM_join) (maxL := 4) (ret := (some .int)) (by decide) rfl ?_
  intro p e s m args below meth c s₁ B hml hv
  obtain ⟨rfl, hE, hz, hP, hD⟩ := hv
  have hx := B.exec
  have hb := B.bytes
  have hr := B.returns
  have hts := atoms_spec (ws := wsXM_join) B.pre
  have hown : s.vm.findClass RXM = some m.cls := findClass_of_methodNamed B.named
  have hlocks := B.notSynchronized
  have hK := hE.k
  have hA : ∀ q : Nat, s.heap.size ≤ q → mt_A g q := fun q h => Nat.le_trans hz h
  have hS : va_S (mt_A g) s.heap s.heap [] := va_S.rf
  have hl := lv_entry ([.ref am, .int v, .int w, .int k]) (n := 4) (Nat.le_of_ble_eq_true rfl)
  rw [lg_entry_eq]
  generalize (lg_sl ([.ref am, .int v, .int w, .int k]) ++ List.replicate (4 - (lg_sl ([.ref am, .int v, .int w, .int k])).length) Slot.unset).toArray = ls at hl ⊢
  have hl : lv_has ls 4 [(0, .ref am), (1, .int v), (2, .int w), (3, .int k)] := hl
  have hH : s.heap = s.heap := rfl
  refine lv_aload_n hx hb dXM_join_0 rfl (lv_at hl 0 rfl) ?_
  refine lv_aload_n hx hb dXM_join_1 rfl (lv_at hl 0 rfl) ?_
  refine lv_iload_n hx hb dXM_join_2 rfl (lv_at hl 1 rfl) ?_
  refine vp_callSi (W.runV (As := [.int v]) (rest := [.ref am]) ⟨hx, hb, hml, hown, hts⟩ (c_M_isOne l g am av ab cn th fv fb Z hcn v) (cwV 1 hts (mt_giV mw_409 mw_410 mw_471 mw_5 (mt_gi mw_411)) rfl rfl rfl (by decide +kernel) ⟨by decide, by decide⟩) (mt_preV hE hz hS hP hD (va_recv hK hP (q := (RXM, TXM, 4)) (q0 := 0) rfl rfl)) rfl rfl hl.1 rfl (lv_room (Nat.le_of_ble_eq_true rfl)) dXM_join_3 ⟨Nat.zero_le _, Nat.zero_le _⟩) (fun z1 e1 => ?_)
  rcases e1 with ⟨rfl, hver⟩ | ⟨rfl, hver⟩
  · refine lv_if_eq (tgt := 28) hx hb dXM_join_6 (by decide) (fun z => absurd z (show ¬ (1 : Int32) = 0 by decide)) (fun _ => ?_)
    refine lv_aload_n hx hb dXM_join_9 rfl (lv_at hl 0 rfl) ?_
    refine lv_iload_n hx hb dXM_join_10 rfl (lv_at hl 2 rfl) ?_
    refine vp_callSi (W.runV (As := [.int w]) (rest := [.ref am]) ⟨hx, hb, hml, hown, hts⟩ (c_M_isOne l g am av ab cn th fv fb Z hcn w) (cwV 1 hts (mt_giV mw_409 mw_410 mw_471 mw_5 (mt_gi mw_411)) rfl rfl rfl (by decide +kernel) ⟨by decide, by decide⟩) (mt_preV hE hz hS hP hD (va_recv hK hP (q := (RXM, TXM, 4)) (q0 := 0) rfl rfl)) rfl rfl hl.1 rfl (lv_room (Nat.le_of_ble_eq_true rfl)) dXM_join_11 ⟨Nat.zero_le _, Nat.zero_le _⟩) (fun z2 e2 => ?_)
    rcases e2 with ⟨rfl, hver2⟩ | ⟨rfl, hver2⟩
    · refine lv_if_eq (tgt := 28) hx hb dXM_join_14 (by decide) (fun z => absurd z (show ¬ (1 : Int32) = 0 by decide)) (fun _ => ?_)
      refine lv_iload_n hx hb dXM_join_17 rfl (lv_at hl 3 rfl) ?_
      refine lv_if_lt (tgt := 28) hx hb dXM_join_18 (by decide) (fun c1 => ?_) (fun c1 => ?_)
      · refine lv_iconst (v := 1) hx hb dXM_join_28 (by decide +kernel) ?_
        refine lv_goto (tgt := 47) hx hb dXM_join_29 (by decide) ?_
        refine va_put (D := g.1) (ci := 2) (v := .int 1) (ty := .int) (C := RXM) (T := TXM) (N := 4) hx hb hts (fun w h => List.mem_cons_of_mem _ (in_XM w h)) tyXM tyXM_ok nmXM hown hK hP hD hS 0 rfl rfl 3 (by decide) (hts _ (List.mem_cons_of_mem _ mw_389)) (fun _ h9 => h9) rfl (by decide +kernel) rfl rfl (Nat.le_of_ble_eq_true rfl) dXM_join_47 (fun H locs hP hD hS => ?_)
        have hP : va_P g.1 vwCl (mt_MW g am av ab (nI cn) 1 fv fb Z) H := hP
        have hD : va_D (mt_A g) (mt_MW g am av ab (nI cn) 1 fv fb Z) := hD
        refine lv_aload_n hx hb dXM_join_50 rfl (lv_at hl 0 rfl) ?_
        refine va_get (D := g.1) (ci := 2) (v := .int 1) (C := RXM) (T := TXM) (N := 4) hx hb hts (fun w h => List.mem_cons_of_mem _ (in_XM w h)) hown hK hP 0 rfl rfl 3 (by decide) (hts _ (List.mem_cons_of_mem _ mw_389)) (fun _ h9 => h9) rfl dXM_join_51 ?_
        refine lv_if_le (tgt := 61) hx hb dXM_join_54 (by decide) (fun z => absurd z (show ¬ (1 : Int32) ≤ 0 by decide)) (fun _ => ?_)
        refine lv_iconst (v := 0) hx hb dXM_join_57 (by decide +kernel) ?_
        refine lv_goto (tgt := 68) hx hb dXM_join_58 (by decide) ?_
        exact W.iret (v := 0) hx hb hr (fun t9 ht hW => ⟨⟨0, (cn, 1, fv, fb), rfl, Or.inl ⟨fun h9 => absurd c1 (Int32.not_lt.mpr h9.2.2.1), rfl⟩, by rw [ht]; exact hP, hD⟩, hS.F ht⟩) hS.2.2 dXM_join_68
      · refine lv_iload_n hx hb dXM_join_21 rfl (lv_at hl 3 rfl) ?_
        refine lv_sipush (v := (nI 256)) hx hb dXM_join_22 (by decide +kernel) ?_
        refine lv_icmp_le (tgt := 32) hx hb dXM_join_25 (by decide) (fun c2 => ?_) (fun c2 => ?_)
        · have hkb : mt_kb k := ⟨Int32.not_lt.mp c1, c2⟩
          obtain ⟨j, hj, rfl⟩ := mt_ver_nat hcn hver
          obtain ⟨i, hi, rfl⟩ := mt_ver_nat hcn hver2
          obtain ⟨y, hy, rfl⟩ := mt_kb_nat hkb
          refine lv_aload_n hx hb dXM_join_32 rfl (lv_at hl 0 rfl) ?_
          refine va_get (D := g.1) (ci := 2) (v := .int (nI cn)) (C := RXM) (T := TXM) (N := 4) hx hb hts (fun w h => List.mem_cons_of_mem _ (in_XM w h)) hown hK hP 0 rfl rfl 2 (by decide) (hts _ (List.mem_cons_of_mem _ mw_388)) (fun _ h9 => h9) rfl dXM_join_33 ?_
          refine lv_sipush (v := (nI 600)) hx hb dXM_join_36 (by decide +kernel) ?_
          by_cases hc6 : cn < 600
          · refine lv_icmp_ne (tgt := 46) hx hb dXM_join_39 (by decide) (fun _ => ?_) (fun z => absurd z (fun e9 => absurd ((nI_eq (by omega) (by omega)).mp e9) (by omega)))
            refine lv_iconst (v := 0) hx hb dXM_join_46 (by decide +kernel) ?_
            refine va_put (D := g.1) (ci := 2) (v := .int 0) (ty := .int) (C := RXM) (T := TXM) (N := 4) hx hb hts (fun w h => List.mem_cons_of_mem _ (in_XM w h)) tyXM tyXM_ok nmXM hown hK hP hD hS 0 rfl rfl 3 (by decide) (hts _ (List.mem_cons_of_mem _ mw_389)) (fun _ h9 => h9) rfl (by decide +kernel) rfl rfl (Nat.le_of_ble_eq_true rfl) dXM_join_47 (fun H locs hP hD hS => ?_)
            have hP : va_P g.1 vwCl (mt_MW g am av ab (nI cn) 0 fv fb Z) H := hP
            have hD : va_D (mt_A g) (mt_MW g am av ab (nI cn) 0 fv fb Z) := hD
            refine lv_aload_n hx hb dXM_join_50 rfl (lv_at hl 0 rfl) ?_
            refine va_get (D := g.1) (ci := 2) (v := .int 0) (C := RXM) (T := TXM) (N := 4) hx hb hts (fun w h => List.mem_cons_of_mem _ (in_XM w h)) hown hK hP 0 rfl rfl 3 (by decide) (hts _ (List.mem_cons_of_mem _ mw_389)) (fun _ h9 => h9) rfl dXM_join_51 ?_
            refine lv_if_le (tgt := 61) hx hb dXM_join_54 (by decide) (fun _ => ?_) (fun z => absurd (show (0 : Int32) ≤ 0 by decide) z)
            refine lv_aload_n hx hb dXM_join_61 rfl (lv_at hl 0 rfl) ?_
            refine lv_iload_n hx hb dXM_join_62 rfl (lv_at hl 1 rfl) ?_
            refine lv_iload_n hx hb dXM_join_63 rfl (lv_at hl 2 rfl) ?_
            refine lv_iload_n hx hb dXM_join_64 rfl (lv_at hl 3 rfl) ?_
            refine va_calli (va_runV (As := [.int (nI j), .int (nI i), .int (nI y)]) (rest := []) ⟨hx, hb, hml, hown, hts⟩ (c_M_made l g am av ab cn 0 fv fb Z hcn hfb hc6 j i y hj hi hy) (cwV 3 hts (mt_giV mw_415 mw_416 mw_472 mw_5 (mt_gi mw_417)) rfl rfl rfl (by decide +kernel) ⟨by decide, by decide⟩) (mt_preV hE hz hS hP hD (va_recv hK hP (q := (RXM, TXM, 4)) (q0 := 0) rfl rfl)) rfl rfl hl.1 rfl (lv_room (Nat.le_of_ble_eq_true rfl)) dXM_join_65 ⟨Nat.zero_le _, Nat.zero_le _⟩) hS (fun _ _ h => h) (fun _ h => h) (fun r1 u1 t1 H locs ht1 hvm1 hpo1 hB1 hz1 hk1 hS => ?_)
            obtain ⟨f, h⟩ := u1
            obtain ⟨rfl, hnew⟩ := hpo1
            obtain ⟨hP, hD⟩ := hB1
            rw [ht1] at hP
            dsimp only at hnew hP hD
            exact W.iret (v := (nI cn)) hx hb hr (fun t9 ht hW => ⟨⟨(nI cn), (cn + 1, 0, f, h), rfl, Or.inr (Or.inr ⟨j, i, y, hj, hi, hy, rfl, rfl, rfl, hc6, rfl, f, h, rfl, hnew⟩), by rw [ht]; exact hP, hD⟩, hS.F ht⟩) hS.2.2 dXM_join_68
          · refine lv_icmp_ne (tgt := 46) hx hb dXM_join_39 (by decide) (fun z => absurd (by rw [show cn = 600 by omega]) z) (fun _ => ?_)
            refine lv_iconst (v := (nI 2)) hx hb dXM_join_42 (by decide +kernel) ?_
            refine lv_goto (tgt := 47) hx hb dXM_join_43 (by decide) ?_
            refine va_put (D := g.1) (ci := 2) (v := .int (nI 2)) (ty := .int) (C := RXM) (T := TXM) (N := 4) hx hb hts (fun w h => List.mem_cons_of_mem _ (in_XM w h)) tyXM tyXM_ok nmXM hown hK hP hD hS 0 rfl rfl 3 (by decide) (hts _ (List.mem_cons_of_mem _ mw_389)) (fun _ h9 => h9) rfl (by decide +kernel) rfl rfl (Nat.le_of_ble_eq_true rfl) dXM_join_47 (fun H locs hP hD hS => ?_)
            have hP : va_P g.1 vwCl (mt_MW g am av ab (nI cn) (nI 2) fv fb Z) H := hP
            have hD : va_D (mt_A g) (mt_MW g am av ab (nI cn) (nI 2) fv fb Z) := hD
            refine lv_aload_n hx hb dXM_join_50 rfl (lv_at hl 0 rfl) ?_
            refine va_get (D := g.1) (ci := 2) (v := .int (nI 2)) (C := RXM) (T := TXM) (N := 4) hx hb hts (fun w h => List.mem_cons_of_mem _ (in_XM w h)) hown hK hP 0 rfl rfl 3 (by decide) (hts _ (List.mem_cons_of_mem _ mw_389)) (fun _ h9 => h9) rfl dXM_join_51 ?_
            refine lv_if_le (tgt := 61) hx hb dXM_join_54 (by decide) (fun z => absurd z (show ¬ (nI 2) ≤ 0 by decide)) (fun _ => ?_)
            refine lv_iconst (v := 0) hx hb dXM_join_57 (by decide +kernel) ?_
            refine lv_goto (tgt := 68) hx hb dXM_join_58 (by decide) ?_
            exact W.iret (v := 0) hx hb hr (fun t9 ht hW => ⟨⟨0, (cn, 2, fv, fb), rfl, Or.inr (Or.inl ⟨⟨hver, hver2, hkb⟩, by omega, rfl⟩), by rw [ht]; exact hP, hD⟩, hS.F ht⟩) hS.2.2 dXM_join_68
        · refine lv_iconst (v := 1) hx hb dXM_join_28 (by decide +kernel) ?_
          refine lv_goto (tgt := 47) hx hb dXM_join_29 (by decide) ?_
          refine va_put (D := g.1) (ci := 2) (v := .int 1) (ty := .int) (C := RXM) (T := TXM) (N := 4) hx hb hts (fun w h => List.mem_cons_of_mem _ (in_XM w h)) tyXM tyXM_ok nmXM hown hK hP hD hS 0 rfl rfl 3 (by decide) (hts _ (List.mem_cons_of_mem _ mw_389)) (fun _ h9 => h9) rfl (by decide +kernel) rfl rfl (Nat.le_of_ble_eq_true rfl) dXM_join_47 (fun H locs hP hD hS => ?_)
          have hP : va_P g.1 vwCl (mt_MW g am av ab (nI cn) 1 fv fb Z) H := hP
          have hD : va_D (mt_A g) (mt_MW g am av ab (nI cn) 1 fv fb Z) := hD
          refine lv_aload_n hx hb dXM_join_50 rfl (lv_at hl 0 rfl) ?_
          refine va_get (D := g.1) (ci := 2) (v := .int 1) (C := RXM) (T := TXM) (N := 4) hx hb hts (fun w h => List.mem_cons_of_mem _ (in_XM w h)) hown hK hP 0 rfl rfl 3 (by decide) (hts _ (List.mem_cons_of_mem _ mw_389)) (fun _ h9 => h9) rfl dXM_join_51 ?_
          refine lv_if_le (tgt := 61) hx hb dXM_join_54 (by decide) (fun z => absurd z (show ¬ (1 : Int32) ≤ 0 by decide)) (fun _ => ?_)
          refine lv_iconst (v := 0) hx hb dXM_join_57 (by decide +kernel) ?_
          refine lv_goto (tgt := 68) hx hb dXM_join_58 (by decide) ?_
          exact W.iret (v := 0) hx hb hr (fun t9 ht hW => ⟨⟨0, (cn, 1, fv, fb), rfl, Or.inl ⟨fun h9 => c2 h9.2.2.2, rfl⟩, by rw [ht]; exact hP, hD⟩, hS.F ht⟩) hS.2.2 dXM_join_68
    · refine lv_if_eq (tgt := 28) hx hb dXM_join_14 (by decide) (fun _ => ?_) (fun z => absurd rfl z)
      refine lv_iconst (v := 1) hx hb dXM_join_28 (by decide +kernel) ?_
      refine lv_goto (tgt := 47) hx hb dXM_join_29 (by decide) ?_
      refine va_put (D := g.1) (ci := 2) (v := .int 1) (ty := .int) (C := RXM) (T := TXM) (N := 4) hx hb hts (fun w h => List.mem_cons_of_mem _ (in_XM w h)) tyXM tyXM_ok nmXM hown hK hP hD hS 0 rfl rfl 3 (by decide) (hts _ (List.mem_cons_of_mem _ mw_389)) (fun _ h9 => h9) rfl (by decide +kernel) rfl rfl (Nat.le_of_ble_eq_true rfl) dXM_join_47 (fun H locs hP hD hS => ?_)
      have hP : va_P g.1 vwCl (mt_MW g am av ab (nI cn) 1 fv fb Z) H := hP
      have hD : va_D (mt_A g) (mt_MW g am av ab (nI cn) 1 fv fb Z) := hD
      refine lv_aload_n hx hb dXM_join_50 rfl (lv_at hl 0 rfl) ?_
      refine va_get (D := g.1) (ci := 2) (v := .int 1) (C := RXM) (T := TXM) (N := 4) hx hb hts (fun w h => List.mem_cons_of_mem _ (in_XM w h)) hown hK hP 0 rfl rfl 3 (by decide) (hts _ (List.mem_cons_of_mem _ mw_389)) (fun _ h9 => h9) rfl dXM_join_51 ?_
      refine lv_if_le (tgt := 61) hx hb dXM_join_54 (by decide) (fun z => absurd z (show ¬ (1 : Int32) ≤ 0 by decide)) (fun _ => ?_)
      refine lv_iconst (v := 0) hx hb dXM_join_57 (by decide +kernel) ?_
      refine lv_goto (tgt := 68) hx hb dXM_join_58 (by decide) ?_
      exact W.iret (v := 0) hx hb hr (fun t9 ht hW => ⟨⟨0, (cn, 1, fv, fb), rfl, Or.inl ⟨fun h9 => hver2 h9.2.1, rfl⟩, by rw [ht]; exact hP, hD⟩, hS.F ht⟩) hS.2.2 dXM_join_68
  · refine lv_if_eq (tgt := 28) hx hb dXM_join_6 (by decide) (fun _ => ?_) (fun z => absurd rfl z)
    refine lv_iconst (v := 1) hx hb dXM_join_28 (by decide +kernel) ?_
    refine lv_goto (tgt := 47) hx hb dXM_join_29 (by decide) ?_
    refine va_put (D := g.1) (ci := 2) (v := .int 1) (ty := .int) (C := RXM) (T := TXM) (N := 4) hx hb hts (fun w h => List.mem_cons_of_mem _ (in_XM w h)) tyXM tyXM_ok nmXM hown hK hP hD hS 0 rfl rfl 3 (by decide) (hts _ (List.mem_cons_of_mem _ mw_389)) (fun _ h9 => h9) rfl (by decide +kernel) rfl rfl (Nat.le_of_ble_eq_true rfl) dXM_join_47 (fun H locs hP hD hS => ?_)
    have hP : va_P g.1 vwCl (mt_MW g am av ab (nI cn) 1 fv fb Z) H := hP
    have hD : va_D (mt_A g) (mt_MW g am av ab (nI cn) 1 fv fb Z) := hD
    refine lv_aload_n hx hb dXM_join_50 rfl (lv_at hl 0 rfl) ?_
    refine va_get (D := g.1) (ci := 2) (v := .int 1) (C := RXM) (T := TXM) (N := 4) hx hb hts (fun w h => List.mem_cons_of_mem _ (in_XM w h)) hown hK hP 0 rfl rfl 3 (by decide) (hts _ (List.mem_cons_of_mem _ mw_389)) (fun _ h9 => h9) rfl dXM_join_51 ?_
    refine lv_if_le (tgt := 61) hx hb dXM_join_54 (by decide) (fun z => absurd z (show ¬ (1 : Int32) ≤ 0 by decide)) (fun _ => ?_)
    refine lv_iconst (v := 0) hx hb dXM_join_57 (by decide +kernel) ?_
    refine lv_goto (tgt := 68) hx hb dXM_join_58 (by decide) ?_
    exact W.iret (v := 0) hx hb hr (fun t9 ht hW => ⟨⟨0, (cn, 1, fv, fb), rfl, Or.inl ⟨fun h9 => hver h9.1, rfl⟩, by rw [ht]; exact hP, hD⟩, hS.F ht⟩) hS.2.2 dXM_join_68
