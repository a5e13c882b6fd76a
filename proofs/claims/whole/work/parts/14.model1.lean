/-! the reference's world -/
abbrev mt_MW (g : mt_G) (am av ab : Nat) (n th : Int32) (fv fb : Nat → Int32) (Z : va_W) : va_W := (am, .inr (2, [.ref av, .ref ab, .int n, .int th])) :: (av, .inl (g.2.2.2 2, 153600, .inl fv)) :: (ab, .inl (g.2.2.2 3, 153600, .inl fb)) :: Z
/-- version j as the reference's arrays hold it -/
def mt_ft (fv fb : Nat → Int32) (j : Nat) : mt_T := fun k => if fb (256 * j + k) = 0 then none else some (fv (256 * j + k))
/-- version cn is new, by w; the older ones stay -/
def mt_new (fv fb f h : Nat → Int32) (cn : Nat) (w : Nat → Int32 × Int32) : Prop := (∀ i, i < 256 → f (256 * cn + i) = (w i).1 ∧ h (256 * cn + i) = (w i).2) ∧ (∀ i, i < 256 * cn → f i = fv i ∧ h i = fb i) ∧ ∀ i, h i = 0 ∨ h i = 1
theorem mt_nar01 {x : Int32} (h : x = 0 ∨ x = 1) : vp_nar .boolean x = x := by
  rcases h with rfl | rfl <;> decide
theorem sb_m1s {a b : Nat} (h : b < a) : nI (a - b) + Int32.ofInt (-1) = nI (a - (b + 1)) := by
  have e : a - b = (a - (b + 1)) + 1 := by omega
  rw [e]
  exact pk_m1 _
theorem mt_new_put {fv fb f h : Nat → Int32} {cn i : Nat} {x y : Int32} {w : Nat → Int32 × Int32} (hy : y = 0 ∨ y = 1) (hw : mt_new fv fb f h cn w) (hi : i < 256) : mt_new fv fb (upd f (256 * cn + i) x) (upd h (256 * cn + i) y) cn (fun q => if q = i then (x, y) else w q) := by
  obtain ⟨h1, h2, h3⟩ := hw
  refine ⟨fun q hq => ?_, fun q hq => ?_, fun q => ?_⟩
  · dsimp only
    by_cases e : q = i
    · subst e
      rw [pk_us, pk_us, if_pos rfl]
      exact ⟨rfl, rfl⟩
    · rw [pk_un (by omega), pk_un (by omega), if_neg e]
      exact h1 q hq
  · rw [pk_un (by omega), pk_un (by omega)]
    exact h2 q hq
  · by_cases e : q = 256 * cn + i
    · subst e
      rw [pk_us]
      exact hy
    · rw [pk_un e]
      exact h3 q
def mt_kb (k : Int32) : Prop := 0 ≤ k ∧ k ≤ nI 256
theorem mt_kb_nat {k : Int32} (h : mt_kb k) : ∃ i, i ≤ 256 ∧ k = nI i := by
  obtain ⟨i, hi, rfl⟩ := nI_of (x := k) (Int32.not_lt.mpr h.1)
  exact ⟨i, (nI_leI hi (by omega)).mp h.2, rfl⟩
set_option maxHeartbeats 4000000 in
set_option maxRecDepth 100000 in
/-- the reference: thrown() -/
theorem c_M_thrown (l : Launch) (g : mt_G) (am av ab : Nat) (n th : Int32) (fv fb : Nat → Int32) (Z : va_W) : Met l yXM_thrown wsXM_thrown ({ frames := 0, cells := 0, slots := 0, locals := 0 }) (mt_Pc g (mt_MW g am av ab n th fv fb Z) [.ref am]) (vp_Si (fun z => z = th)) (0) (0) (fun _ => False) := by
  refine Met.ofW (cc := cXM_thrown) (maxL := 1) (ret := (some .int)) (by decide) rfl ?_
  intro p e s m args below meth c s₁ B hml hv
  obtain ⟨rfl, hE, hz, hP, hD⟩ := hv
  have hx := B.exec
  have hb := B.bytes
  have hr := B.returns
  have hts := atoms_spec (ws := wsXM_thrown) B.pre
  have hown : s.vm.findClass RXM = some m.cls := findClass_of_methodNamed B.named
  have hlocks := B.notSynchronized
  have hK := hE.k
  have hA : ∀ q : Nat, s.heap.size ≤ q → mt_A g q := fun q h => Nat.le_trans hz h
  have hS : va_S (mt_A g) s.heap s.heap [] := va_S.rf
  have hl := lv_entry ([.ref am]) (n := 1) (Nat.le_of_ble_eq_true rfl)
  rw [lg_entry_eq]
  generalize (lg_sl ([.ref am]) ++ List.replicate (1 - (lg_sl ([.ref am])).length) Slot.unset).toArray = ls at hl ⊢
  have hl : lv_has ls 1 [(0, .ref am)] := hl
  have hH : s.heap = s.heap := rfl
  refine lv_aload_n hx hb dXM_thrown_0 rfl (lv_at hl 0 rfl) ?_
  refine va_get (D := g.1) (ci := 2) (v := .int th) (C := RXM) (T := TXM) (N := 4) hx hb hts (fun w h => List.mem_cons_of_mem _ (in_XM w h)) hown hK hP 0 rfl rfl 3 (by decide) (hts _ (List.mem_cons_of_mem _ mw_389)) (fun _ h9 => h9) rfl dXM_thrown_1 ?_
  exact W.iret (v := th) hx hb hr (fun t9 ht hW => ⟨th, rfl, rfl, ht⟩) t_nil dXM_thrown_4
set_option maxHeartbeats 4000000 in
set_option maxRecDepth 100000 in
/-- the reference: isOne(v) -/
theorem c_M_isOne (l : Launch) (g : mt_G) (am av ab : Nat) (cn : Nat) (th : Int32) (fv fb : Nat → Int32) (Z : va_W) (hcn : cn ≤ 600) (v : Int32) : Met l yXM_isOne wsXM_isOne ({ frames := 0, cells := 0, slots := 0, locals := 0 }) (mt_Pc g (mt_MW g am av ab (nI cn) th fv fb Z) [.ref am, .int v]) (vp_Si (fun z => (z = 1 ∧ mt_ver v cn) ∨ (z = 0 ∧ ¬ mt_ver v cn))) (0) (0) (fun _ => False) := by
  refine Met.ofW (cc := cXM_isOne) (maxL := 2) (ret := (some .boolean)) (by decide) rfl ?_
  intro p e s m args below meth c s₁ B hml hv
  obtain ⟨rfl, hE, hz, hP, hD⟩ := hv
  have hx := B.exec
  have hb := B.bytes
  have hr := B.returns
  have hts := atoms_spec (ws := wsXM_isOne) B.pre
  have hown : s.vm.findClass RXM = some m.cls := findClass_of_methodNamed B.named
  have hlocks := B.notSynchronized
  have hK := hE.k
  have hA : ∀ q : Nat, s.heap.size ≤ q → mt_A g q := fun q h => Nat.le_trans hz h
  have hS : va_S (mt_A g) s.heap s.heap [] := va_S.rf
  have hl := lv_entry ([.ref am, .int v]) (n := 2) (Nat.le_of_ble_eq_true rfl)
  rw [lg_entry_eq]
  generalize (lg_sl ([.ref am, .int v]) ++ List.replicate (2 - (lg_sl ([.ref am, .int v])).length) Slot.unset).toArray = ls at hl ⊢
  have hl : lv_has ls 2 [(0, .ref am), (1, .int v)] := hl
  have hH : s.heap = s.heap := rfl
  refine lv_iload_n hx hb dXM_isOne_0 rfl (lv_at hl 1 rfl) ?_
  refine lv_if_lt (tgt := 16) hx hb dXM_isOne_1 (by decide) (fun c1 => ?_) (fun c1 => ?_)
  · refine lv_iconst (v := 0) hx hb dXM_isOne_16 (by decide +kernel) ?_
    exact W.zret (v := 0) hx hb hr rfl (fun t9 ht hW => ⟨0, rfl, Or.inr ⟨rfl, fun h9 => absurd c1 (Int32.not_lt.mpr h9.1)⟩, ht⟩) t_nil dXM_isOne_17
  · refine lv_iload_n hx hb dXM_isOne_4 rfl (lv_at hl 1 rfl) ?_
    refine lv_aload_n hx hb dXM_isOne_5 rfl (lv_at hl 0 rfl) ?_
    refine va_get (D := g.1) (ci := 2) (v := .int (nI cn)) (C := RXM) (T := TXM) (N := 4) hx hb hts (fun w h => List.mem_cons_of_mem _ (in_XM w h)) hown hK hP 0 rfl rfl 2 (by decide) (hts _ (List.mem_cons_of_mem _ mw_388)) (fun _ h9 => h9) rfl dXM_isOne_6 ?_
    refine lv_icmp_ge (tgt := 16) hx hb dXM_isOne_9 (by decide) (fun c2 => ?_) (fun c2 => ?_)
    · refine lv_iconst (v := 0) hx hb dXM_isOne_16 (by decide +kernel) ?_
      exact W.zret (v := 0) hx hb hr rfl (fun t9 ht hW => ⟨0, rfl, Or.inr ⟨rfl, fun h9 => absurd h9.2 (Int32.not_lt.mpr c2)⟩, ht⟩) t_nil dXM_isOne_17
    · refine lv_iconst (v := 1) hx hb dXM_isOne_12 (by decide +kernel) ?_
      refine lv_goto (tgt := 17) hx hb dXM_isOne_13 (by decide) ?_
      exact W.zret (v := 1) hx hb hr rfl (fun t9 ht hW => ⟨1, rfl, Or.inl ⟨rfl, Int32.not_lt.mp c1, Int32.not_le.mp c2⟩, ht⟩) t_nil dXM_isOne_17
set_option maxHeartbeats 4000000 in
set_option maxRecDepth 100000 in
/-- the reference: isKey(k) -/
theorem c_M_isKey (l : Launch) (g : mt_G) (ws : va_W) (v : Int32) : Met l yXM_isKey wsXM_isKey ({ frames := 0, cells := 0, slots := 0, locals := 0 }) (mt_Pc g ws [.int v]) (vp_Si (fun z => (z = 1 ∧ mt_key v) ∨ (z = 0 ∧ ¬ mt_key v))) (0) (0) (fun _ => False) := by
  refine Met.ofW (cc := cXM_isKey) (maxL := 1) (ret := (some .boolean)) (by decide) rfl ?_
  intro p e s m args below meth c s₁ B hml hv
  obtain ⟨rfl, hE, hz, hP, hD⟩ := hv
  have hx := B.exec
  have hb := B.bytes
  have hr := B.returns
  have hts := atoms_spec (ws := wsXM_isKey) B.pre
  have hown : s.vm.findClass RXM = some m.cls := findClass_of_methodNamed B.named
  have hlocks := B.notSynchronized
  have hK := hE.k
  have hA : ∀ q : Nat, s.heap.size ≤ q → mt_A g q := fun q h => Nat.le_trans hz h
  have hS : va_S (mt_A g) s.heap s.heap [] := va_S.rf
  have hl := lv_entry ([.int v]) (n := 1) (Nat.le_of_ble_eq_true rfl)
  rw [lg_entry_eq]
  generalize (lg_sl ([.int v]) ++ List.replicate (1 - (lg_sl ([.int v])).length) Slot.unset).toArray = ls at hl ⊢
  have hl : lv_has ls 1 [(0, .int v)] := hl
  have hH : s.heap = s.heap := rfl
  refine lv_iload_n hx hb dXM_isKey_0 rfl (lv_at hl 0 rfl) ?_
  refine lv_if_lt (tgt := 15) hx hb dXM_isKey_1 (by decide) (fun c1 => ?_) (fun c1 => ?_)
  · refine lv_iconst (v := 0) hx hb dXM_isKey_15 (by decide +kernel) ?_
    exact W.zret (v := 0) hx hb hr rfl (fun t9 ht hW => ⟨0, rfl, Or.inr ⟨rfl, fun h9 => absurd c1 (Int32.not_lt.mpr h9.1)⟩, ht⟩) t_nil dXM_isKey_16
  · refine lv_iload_n hx hb dXM_isKey_4 rfl (lv_at hl 0 rfl) ?_
    refine lv_sipush (v := (nI 256)) hx hb dXM_isKey_5 (by decide +kernel) ?_
    refine lv_icmp_ge (tgt := 15) hx hb dXM_isKey_8 (by decide) (fun c2 => ?_) (fun c2 => ?_)
    · refine lv_iconst (v := 0) hx hb dXM_isKey_15 (by decide +kernel) ?_
      exact W.zret (v := 0) hx hb hr rfl (fun t9 ht hW => ⟨0, rfl, Or.inr ⟨rfl, fun h9 => absurd h9.2 (Int32.not_lt.mpr c2)⟩, ht⟩) t_nil dXM_isKey_16
    · refine lv_iconst (v := 1) hx hb dXM_isKey_11 (by decide +kernel) ?_
      refine lv_goto (tgt := 16) hx hb dXM_isKey_12 (by decide) ?_
      exact W.zret (v := 1) hx hb hr rfl (fun t9 ht hW => ⟨1, rfl, Or.inl ⟨rfl, Int32.not_lt.mp c1, Int32.not_le.mp c2⟩, ht⟩) t_nil dXM_isKey_16
set_option maxHeartbeats 4000000 in
set_option maxRecDepth 100000 in
/-- the reference: made(v, w, k) -/
theorem c_M_made (l : Launch) (g : mt_G) (am av ab : Nat) (cn : Nat) (th : Int32) (fv fb : Nat → Int32) (Z : va_W) (hcn : cn ≤ 600) (hfb : ∀ j, fb j = 0 ∨ fb j = 1) (hc6 : cn < 600) (jv jw kk : Nat) (hjv : jv < cn) (hjw : jw < cn) (hkk : kk ≤ 256) : Met l yXM_made wsXM_made ({ frames := 0, cells := 0, slots := 0, locals := 0 }) (mt_Pc g (mt_MW g am av ab (nI cn) th fv fb Z) [.ref am, .int (nI jv), .int (nI jw), .int (nI kk)]) (va_Qi (fun r (q : (Nat → Int32) × (Nat → Int32)) => r = nI cn ∧ mt_new fv fb q.1 q.2 cn (fun i => (fv (256 * (if i < kk then jv else jw) + i), fb (256 * (if i < kk then jv else jw) + i)))) (fun q t => mt_B g (mt_MW g am av ab (nI (cn + 1)) th q.1 q.2 Z) t) (mt_A g)) (0) (0) (mt_A g) := by
  refine Met.ofW (cc := cXM_made) (maxL := 7) (ret := (some .int)) (by decide) rfl ?_
  intro p e s m args below meth c s₁ B hml hv
  obtain ⟨rfl, hE, hz, hP, hD⟩ := hv
  have hx := B.exec
  have hb := B.bytes
  have hr := B.returns
  have hts := atoms_spec (ws := wsXM_made) B.pre
  have hown : s.vm.findClass RXM = some m.cls := findClass_of_methodNamed B.named
  have hlocks := B.notSynchronized
  have hK := hE.k
  have hA : ∀ q : Nat, s.heap.size ≤ q → mt_A g q := fun q h => Nat.le_trans hz h
  have hS : va_S (mt_A g) s.heap s.heap [] := va_S.rf
  have hl := lv_entry ([.ref am, .int (nI jv), .int (nI jw), .int (nI kk)]) (n := 7) (Nat.le_of_ble_eq_true rfl)
  rw [lg_entry_eq]
  generalize (lg_sl ([.ref am, .int (nI jv), .int (nI jw), .int (nI kk)]) ++ List.replicate (7 - (lg_sl ([.ref am, .int (nI jv), .int (nI jw), .int (nI kk)])).length) Slot.unset).toArray = ls at hl ⊢
  have hl : lv_has ls 7 [(0, .ref am), (1, .int (nI jv)), (2, .int (nI jw)), (3, .int (nI kk))] := hl
  have hH : s.heap = s.heap := rfl
  refine lv_sipush (v := (nI 256)) hx hb dXM_made_0 (by decide +kernel) ?_
  refine lv_aload_n hx hb dXM_made_3 rfl (lv_at hl 0 rfl) ?_
  refine va_get (D := g.1) (ci := 2) (v := .int (nI cn)) (C := RXM) (T := TXM) (N := 4) hx hb hts (fun w h => List.mem_cons_of_mem _ (in_XM w h)) hown hK hP 0 rfl rfl 2 (by decide) (hts _ (List.mem_cons_of_mem _ mw_388)) (fun _ h9 => h9) rfl dXM_made_4 ?_
  refine lv_imul hx hb dXM_made_7 ?_
  refine qa_i (y := (nI (256 * cn))) (pk_mul 256 cn) ?_
  refine lv_istore (i := 4) (lv' := [(4, .int (nI (256 * cn))), (0, .ref am), (1, .int (nI jv)), (2, .int (nI jw)), (3, .int (nI kk))]) hx hb dXM_made_8 hl (by decide) rfl (fun ls hl => ?_)
  refine lv_iconst (v := 0) hx hb dXM_made_10 (by decide +kernel) ?_
  refine lv_istore (i := 5) (lv' := [(5, .int 0), (4, .int (nI (256 * cn))), (0, .ref am), (1, .int (nI jv)), (2, .int (nI jw)), (3, .int (nI kk))]) hx hb dXM_made_11 hl (by decide) rfl (fun ls hl => ?_)
  refine qa_forH (V := Nat × (Nat → Int32) × (Nat → Int32)) (fun v => 256 - v.1) (fun v => [(5, .int (nI v.1)), (4, .int (nI (256 * cn))), (0, .ref am), (1, .int (nI jv)), (2, .int (nI jw)), (3, .int (nI kk))]) (fun v H locs => v.1 ≤ 256 ∧ va_P g.1 vwCl (mt_MW g am av ab (nI cn) th v.2.1 v.2.2 Z) H ∧ va_D (mt_A g) (mt_MW g am av ab (nI cn) th v.2.1 v.2.2 Z) ∧ va_S (mt_A g) s.heap H locs ∧ (∀ i, i < v.1 → v.2.1 (256 * cn + i) = fv (256 * (if i < kk then jv else jw) + i) ∧ v.2.2 (256 * cn + i) = fb (256 * (if i < kk then jv else jw) + i)) ∧ (∀ i, i < 256 * cn → v.2.1 i = fv i ∧ v.2.2 i = fb i) ∧ (∀ i, v.2.2 i = 0 ∨ v.2.2 i = 1)) (fun _ => 0) (fun _ => 0) ?_ (0, fv, fb) ls s.heap [] ⟨Nat.zero_le _, hP, hD, hS, fun i h9 => absurd h9 (Nat.not_lt_zero i), fun _ _ => ⟨rfl, rfl⟩, hfb⟩ hl
  clear hP hD hS hl
  intro v ls H locs hi hl ih
  obtain ⟨i, f, h⟩ := v
  obtain ⟨hi6, hP, hD, hS, hn1, hn2, hn3⟩ := hi
  dsimp only at hi6 hP hD hS hn1 hn2 hn3 hl ih ⊢
  refine lv_iload hx hb dXM_made_13 (lv_at hl 0 rfl) ?_
  refine lv_sipush (v := (nI 256)) hx hb dXM_made_15 (by decide +kernel) ?_
  by_cases hlt : i < 256
  · refine lv_icmp_ge (tgt := 81) hx hb dXM_made_18 (by decide) (fun z => absurd z (nI_ge hlt (by omega))) (fun _ => ?_)
    refine lv_sipush (v := (nI 256)) hx hb dXM_made_21 (by decide +kernel) ?_
    refine lv_iload hx hb dXM_made_24 (lv_at hl 0 rfl) ?_
    refine lv_iload_n hx hb dXM_made_26 rfl (lv_at hl 5 rfl) ?_
    have hsrc : (if i < kk then jv else jw) < cn := by split <;> assumption
    by_cases hik : i < kk
    · rw [if_pos hik] at hsrc
      refine lv_icmp_ge (tgt := 34) hx hb dXM_made_27 (by decide) (fun z => absurd z (nI_ge hik (by omega))) (fun _ => ?_)
      refine lv_iload_n hx hb dXM_made_30 rfl (lv_at hl 3 rfl) ?_
      refine lv_goto (tgt := 35) hx hb dXM_made_31 (by decide) ?_
      refine lv_imul hx hb dXM_made_35 ?_
      refine qa_i (y := (nI (256 * jv))) (pk_mul 256 jv) ?_
      refine lv_iload hx hb dXM_made_36 (lv_at hl 0 rfl) ?_
      refine lv_iadd hx hb dXM_made_38 ?_
      refine qa_i (y := (nI (256 * jv + i))) (nI_add (256 * jv) i) ?_
      refine lv_istore (i := 6) (lv' := [(6, .int (nI (256 * jv + i))), (5, .int (nI i)), (4, .int (nI (256 * cn))), (0, .ref am), (1, .int (nI jv)), (2, .int (nI jw)), (3, .int (nI kk))]) hx hb dXM_made_39 hl (by decide) rfl (fun ls hl => ?_)
      refine lv_aload_n hx hb dXM_made_41 rfl (lv_at hl 3 rfl) ?_
      refine va_get (D := g.1) (ci := 2) (v := .ref av) (C := RXM) (T := TXM) (N := 4) hx hb hts (fun w h => List.mem_cons_of_mem _ (in_XM w h)) hown hK hP 0 rfl rfl 0 (by decide) (hts _ (List.mem_cons_of_mem _ mw_386)) (fun _ h9 => h9) rfl dXM_made_42 ?_
      refine lv_iload hx hb dXM_made_45 (lv_at hl 2 rfl) ?_
      refine lv_iload hx hb dXM_made_47 (lv_at hl 1 rfl) ?_
      refine lv_iadd hx hb dXM_made_49 ?_
      refine qa_i (y := (nI (256 * cn + i))) (nI_add (256 * cn) i) ?_
      refine lv_aload_n hx hb dXM_made_50 rfl (lv_at hl 3 rfl) ?_
      refine va_get (D := g.1) (ci := 2) (v := .ref av) (C := RXM) (T := TXM) (N := 4) hx hb hts (fun w h => List.mem_cons_of_mem _ (in_XM w h)) hown hK hP 0 rfl rfl 0 (by decide) (hts _ (List.mem_cons_of_mem _ mw_386)) (fun _ h9 => h9) rfl dXM_made_51 ?_
      refine lv_iload hx hb dXM_made_54 (lv_at hl 0 rfl) ?_
      refine va_iald (D := g.1) (cl := vwCl) hx hb hK hP 1 2 rfl rfl (vp_in_nI (n := 256 * jv + i) (by omega) (by decide)) dXM_made_56 ?_
      refine qa_i (y := (f (256 * jv + i))) (by rw [nI_clamp (by omega)]) ?_
      refine va_iast (D := g.1) (cl := vwCl) hx hb hK hP hD hS 1 2 rfl rfl (vp_in_nI (n := 256 * cn + i) (by omega) (by decide)) dXM_made_57 (fun H locs hP hD hS => ?_)
      rw [nI_clamp (by omega)] at hP hD
      have hP : va_P g.1 vwCl (mt_MW g am av ab (nI cn) th (upd f (256 * cn + i) (f (256 * jv + i))) h Z) H := hP
      have hD : va_D (mt_A g) (mt_MW g am av ab (nI cn) th (upd f (256 * cn + i) (f (256 * jv + i))) h Z) := hD
      refine lv_aload_n hx hb dXM_made_58 rfl (lv_at hl 3 rfl) ?_
      refine va_get (D := g.1) (ci := 2) (v := .ref ab) (C := RXM) (T := TXM) (N := 4) hx hb hts (fun w h => List.mem_cons_of_mem _ (in_XM w h)) hown hK hP 0 rfl rfl 1 (by decide) (hts _ (List.mem_cons_of_mem _ mw_387)) (fun _ h9 => h9) rfl dXM_made_59 ?_
      refine lv_iload hx hb dXM_made_62 (lv_at hl 2 rfl) ?_
      refine lv_iload hx hb dXM_made_64 (lv_at hl 1 rfl) ?_
      refine lv_iadd hx hb dXM_made_66 ?_
      refine qa_i (y := (nI (256 * cn + i))) (nI_add (256 * cn) i) ?_
      refine lv_aload_n hx hb dXM_made_67 rfl (lv_at hl 3 rfl) ?_
      refine va_get (D := g.1) (ci := 2) (v := .ref ab) (C := RXM) (T := TXM) (N := 4) hx hb hts (fun w h => List.mem_cons_of_mem _ (in_XM w h)) hown hK hP 0 rfl rfl 1 (by decide) (hts _ (List.mem_cons_of_mem _ mw_387)) (fun _ h9 => h9) rfl dXM_made_68 ?_
      refine lv_iload hx hb dXM_made_71 (lv_at hl 0 rfl) ?_
      refine va_zald (D := g.1) (cl := vwCl) hx hb hK hP 2 3 rfl rfl (vp_in_nI (n := 256 * jv + i) (by omega) (by decide)) dXM_made_73 ?_
      refine qa_i (y := (h (256 * jv + i))) (by rw [nI_clamp (by omega)]) ?_
      refine va_zast (D := g.1) (cl := vwCl) hx hb hK hP hD hS 2 3 rfl rfl (vp_in_nI (n := 256 * cn + i) (by omega) (by decide)) dXM_made_74 (fun H locs hP hD hS => ?_)
      rw [nI_clamp (by omega), mt_nar01 (hn3 _)] at hP hD
      have hP : va_P g.1 vwCl (mt_MW g am av ab (nI cn) th (upd f (256 * cn + i) (f (256 * jv + i))) (upd h (256 * cn + i) (h (256 * jv + i))) Z) H := hP
      have hD : va_D (mt_A g) (mt_MW g am av ab (nI cn) th (upd f (256 * cn + i) (f (256 * jv + i))) (upd h (256 * cn + i) (h (256 * jv + i))) Z) := hD
      refine lv_iinc (k := 1) (v := (nI (i + 1))) (lv' := [(5, .int (nI (i + 1))), (6, .int (nI (256 * jv + i))), (4, .int (nI (256 * cn))), (0, .ref am), (1, .int (nI jv)), (2, .int (nI jw)), (3, .int (nI kk))]) hx hb dXM_made_75 hl rfl (nI_1 i) (by decide) rfl (fun ls hl => ?_)
      refine lv_goto (tgt := 13) hx hb dXM_made_78 (by decide) ?_
      have hl := lv_sub (l' := [(5, .int (nI (i + 1))), (4, .int (nI (256 * cn))), (0, .ref am), (1, .int (nI jv)), (2, .int (nI jw)), (3, .int (nI kk))]) hl [0, 2, 3, 4, 5, 6] rfl
      refine ih (i + 1, (upd f (256 * cn + i) (f (256 * jv + i))), (upd h (256 * cn + i) (h (256 * jv + i)))) ls H locs (by show 256 - (i + 1) < 256 - i; omega) ⟨hlt, hP, hD, hS, fun q hq => ?_, fun q hq => ?_, fun q => ?_⟩ hl
      · dsimp only
        by_cases e9 : q = i
        · subst e9; rw [pk_us, pk_us, if_pos hik]; exact hn2 _ (by omega)
        · rw [pk_un (by omega), pk_un (by omega)]; exact hn1 q (by have : q < i + 1 := hq; omega)
      · dsimp only; have hq2 : q < 256 * cn := hq; rw [pk_un (by omega), pk_un (by omega)]; exact hn2 q hq2
      · dsimp only; by_cases e9 : q = 256 * cn + i
        · subst e9; rw [pk_us]; exact hn3 _
        · rw [pk_un e9]; exact hn3 q
    · rw [if_neg hik] at hsrc
      refine lv_icmp_ge (tgt := 34) hx hb dXM_made_27 (by decide) (fun _ => ?_) (fun z => absurd (nI_le (a := kk) (b := i) (by omega) (by omega)) z)
      refine lv_iload_n hx hb dXM_made_34 rfl (lv_at hl 4 rfl) ?_
      refine lv_imul hx hb dXM_made_35 ?_
      refine qa_i (y := (nI (256 * jw))) (pk_mul 256 jw) ?_
      refine lv_iload hx hb dXM_made_36 (lv_at hl 0 rfl) ?_
      refine lv_iadd hx hb dXM_made_38 ?_
      refine qa_i (y := (nI (256 * jw + i))) (nI_add (256 * jw) i) ?_
      refine lv_istore (i := 6) (lv' := [(6, .int (nI (256 * jw + i))), (5, .int (nI i)), (4, .int (nI (256 * cn))), (0, .ref am), (1, .int (nI jv)), (2, .int (nI jw)), (3, .int (nI kk))]) hx hb dXM_made_39 hl (by decide) rfl (fun ls hl => ?_)
      refine lv_aload_n hx hb dXM_made_41 rfl (lv_at hl 3 rfl) ?_
      refine va_get (D := g.1) (ci := 2) (v := .ref av) (C := RXM) (T := TXM) (N := 4) hx hb hts (fun w h => List.mem_cons_of_mem _ (in_XM w h)) hown hK hP 0 rfl rfl 0 (by decide) (hts _ (List.mem_cons_of_mem _ mw_386)) (fun _ h9 => h9) rfl dXM_made_42 ?_
      refine lv_iload hx hb dXM_made_45 (lv_at hl 2 rfl) ?_
      refine lv_iload hx hb dXM_made_47 (lv_at hl 1 rfl) ?_
      refine lv_iadd hx hb dXM_made_49 ?_
      refine qa_i (y := (nI (256 * cn + i))) (nI_add (256 * cn) i) ?_
      refine lv_aload_n hx hb dXM_made_50 rfl (lv_at hl 3 rfl) ?_
      refine va_get (D := g.1) (ci := 2) (v := .ref av) (C := RXM) (T := TXM) (N := 4) hx hb hts (fun w h => List.mem_cons_of_mem _ (in_XM w h)) hown hK hP 0 rfl rfl 0 (by decide) (hts _ (List.mem_cons_of_mem _ mw_386)) (fun _ h9 => h9) rfl dXM_made_51 ?_
      refine lv_iload hx hb dXM_made_54 (lv_at hl 0 rfl) ?_
      refine va_iald (D := g.1) (cl := vwCl) hx hb hK hP 1 2 rfl rfl (vp_in_nI (n := 256 * jw + i) (by omega) (by decide)) dXM_made_56 ?_
      refine qa_i (y := (f (256 * jw + i))) (by rw [nI_clamp (by omega)]) ?_
      refine va_iast (D := g.1) (cl := vwCl) hx hb hK hP hD hS 1 2 rfl rfl (vp_in_nI (n := 256 * cn + i) (by omega) (by decide)) dXM_made_57 (fun H locs hP hD hS => ?_)
      rw [nI_clamp (by omega)] at hP hD
      have hP : va_P g.1 vwCl (mt_MW g am av ab (nI cn) th (upd f (256 * cn + i) (f (256 * jw + i))) h Z) H := hP
      have hD : va_D (mt_A g) (mt_MW g am av ab (nI cn) th (upd f (256 * cn + i) (f (256 * jw + i))) h Z) := hD
      refine lv_aload_n hx hb dXM_made_58 rfl (lv_at hl 3 rfl) ?_
      refine va_get (D := g.1) (ci := 2) (v := .ref ab) (C := RXM) (T := TXM) (N := 4) hx hb hts (fun w h => List.mem_cons_of_mem _ (in_XM w h)) hown hK hP 0 rfl rfl 1 (by decide) (hts _ (List.mem_cons_of_mem _ mw_387)) (fun _ h9 => h9) rfl dXM_made_59 ?_
      refine lv_iload hx hb dXM_made_62 (lv_at hl 2 rfl) ?_
      refine lv_iload hx hb dXM_made_64 (lv_at hl 1 rfl) ?_
      refine lv_iadd hx hb dXM_made_66 ?_
      refine qa_i (y := (nI (256 * cn + i))) (nI_add (256 * cn) i) ?_
      refine lv_aload_n hx hb dXM_made_67 rfl (lv_at hl 3 rfl) ?_
      refine va_get (D := g.1) (ci := 2) (v := .ref ab) (C := RXM) (T := TXM) (N := 4) hx hb hts (fun w h => List.mem_cons_of_mem _ (in_XM w h)) hown hK hP 0 rfl rfl 1 (by decide) (hts _ (List.mem_cons_of_mem _ mw_387)) (fun _ h9 => h9) rfl dXM_made_68 ?_
      refine lv_iload hx hb dXM_made_71 (lv_at hl 0 rfl) ?_
      refine va_zald (D := g.1) (cl := vwCl) hx hb hK hP 2 3 rfl rfl (vp_in_nI (n := 256 * jw + i) (by omega) (by decide)) dXM_made_73 ?_
      refine qa_i (y := (h (256 * jw + i))) (by rw [nI_clamp (by omega)]) ?_
      refine va_zast (D := g.1) (cl := vwCl) hx hb hK hP hD hS 2 3 rfl rfl (vp_in_nI (n := 256 * cn + i) (by omega) (by decide)) dXM_made_74 (fun H locs hP hD hS => ?_)
      rw [nI_clamp (by omega), mt_nar01 (hn3 _)] at hP hD
      have hP : va_P g.1 vwCl (mt_MW g am av ab (nI cn) th (upd f (256 * cn + i) (f (256 * jw + i))) (upd h (256 * cn + i) (h (256 * jw + i))) Z) H := hP
      have hD : va_D (mt_A g) (mt_MW g am av ab (nI cn) th (upd f (256 * cn + i) (f (256 * jw + i))) (upd h (256 * cn + i) (h (256 * jw + i))) Z) := hD
      refine lv_iinc (k := 1) (v := (nI (i + 1))) (lv' := [(5, .int (nI (i + 1))), (6, .int (nI (256 * jw + i))), (4, .int (nI (256 * cn))), (0, .ref am), (1, .int (nI jv)), (2, .int (nI jw)), (3, .int (nI kk))]) hx hb dXM_made_75 hl rfl (nI_1 i) (by decide) rfl (fun ls hl => ?_)
      refine lv_goto (tgt := 13) hx hb dXM_made_78 (by decide) ?_
      have hl := lv_sub (l' := [(5, .int (nI (i + 1))), (4, .int (nI (256 * cn))), (0, .ref am), (1, .int (nI jv)), (2, .int (nI jw)), (3, .int (nI kk))]) hl [0, 2, 3, 4, 5, 6] rfl
      refine ih (i + 1, (upd f (256 * cn + i) (f (256 * jw + i))), (upd h (256 * cn + i) (h (256 * jw + i)))) ls H locs (by show 256 - (i + 1) < 256 - i; omega) ⟨hlt, hP, hD, hS, fun q hq => ?_, fun q hq => ?_, fun q => ?_⟩ hl
      · dsimp only
        by_cases e9 : q = i
        · subst e9; rw [pk_us, pk_us, if_neg hik]; exact hn2 _ (by omega)
        · rw [pk_un (by omega), pk_un (by omega)]; exact hn1 q (by have : q < i + 1 := hq; omega)
      · dsimp only; have hq2 : q < 256 * cn := hq; rw [pk_un (by omega), pk_un (by omega)]; exact hn2 q hq2
      · dsimp only; by_cases e9 : q = 256 * cn + i
        · subst e9; rw [pk_us]; exact hn3 _
        · rw [pk_un e9]; exact hn3 q
  · refine lv_icmp_ge (tgt := 81) hx hb dXM_made_18 (by decide) (fun _ => ?_) (fun z => absurd (nI_le (a := 256) (b := i) (by omega) (by omega)) z)
    have ei : i = 256 := by omega
    subst ei
    refine lv_aload_n hx hb dXM_made_81 rfl (lv_at hl 2 rfl) ?_
    refine lv_dup hx hb dXM_made_82 rfl ?_
    refine va_get (D := g.1) (ci := 2) (v := .int (nI cn)) (C := RXM) (T := TXM) (N := 4) hx hb hts (fun w h => List.mem_cons_of_mem _ (in_XM w h)) hown hK hP 0 rfl rfl 2 (by decide) (hts _ (List.mem_cons_of_mem _ mw_388)) (fun _ h9 => h9) rfl dXM_made_83 ?_
    refine lv_iconst (v := 1) hx hb dXM_made_86 (by decide +kernel) ?_
    refine lv_iadd hx hb dXM_made_87 ?_
    refine qa_i (y := (nI (cn + 1))) (nI_1 cn) ?_
    refine va_put (D := g.1) (ci := 2) (v := .int (nI (cn + 1))) (ty := .int) (C := RXM) (T := TXM) (N := 4) hx hb hts (fun w h => List.mem_cons_of_mem _ (in_XM w h)) tyXM tyXM_ok nmXM hown hK hP hD hS 0 rfl rfl 2 (by decide) (hts _ (List.mem_cons_of_mem _ mw_388)) (fun _ h9 => h9) rfl (by decide +kernel) rfl rfl (Nat.le_of_ble_eq_true rfl) dXM_made_88 (fun H locs hP hD hS => ?_)
    have hP : va_P g.1 vwCl (mt_MW g am av ab (nI (cn + 1)) th f h Z) H := hP
    have hD : va_D (mt_A g) (mt_MW g am av ab (nI (cn + 1)) th f h Z) := hD
    refine lv_aload_n hx hb dXM_made_91 rfl (lv_at hl 2 rfl) ?_
    refine va_get (D := g.1) (ci := 2) (v := .int (nI (cn + 1))) (C := RXM) (T := TXM) (N := 4) hx hb hts (fun w h => List.mem_cons_of_mem _ (in_XM w h)) hown hK hP 0 rfl rfl 2 (by decide) (hts _ (List.mem_cons_of_mem _ mw_388)) (fun _ h9 => h9) rfl dXM_made_92 ?_
    refine lv_iconst (v := 1) hx hb dXM_made_95 (by decide +kernel) ?_
    refine lv_isub hx hb dXM_made_96 ?_
    refine qa_i (y := (nI cn)) (nI_pred cn) ?_
    exact W.iret (v := (nI cn)) hx hb hr (fun t9 ht hW => ⟨⟨(nI cn), (f, h), rfl, ⟨rfl, hn1, hn2, hn3⟩, by rw [ht]; exact hP, hD⟩, hS.F ht⟩) hS.2.2 dXM_made_97
