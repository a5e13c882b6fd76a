set_option maxHeartbeats 4000000 in
set_option maxRecDepth 100000 in
theorem whole_start {p : Program} {e : Env} {s : State} {m : MethodId} {below : List Frame} {meth : Method} {c : Code} (l : Launch) (hl0 : l.stackTraces = false) {b L : Nat} {xs : Nat → Int32} (hL : L ≤ 2048) (C0 : lw_At p s m meth c b L xs) : W p l e room_1 s m #[Value.ref b] below meth c s.heap [] 0 0 (lw_Z below #[Value.ref b] s) (entryFrame m ([Value.ref b] : List Value).toArray 8) := by
  obtain ⟨g, hz, hE⟩ := mt_start C0
  have C1 := C0
  obtain ⟨hx, hb, hr, hml, hown, hts, hX, hbl, hlocks, hgv⟩ := C0
  have hts := mt_htsL hts
  have hK := hE.k
  have hA : ∀ q : Nat, s.heap.size ≤ q → mt_A g q := fun q h => Nat.le_trans (Nat.le_of_eq hz) h
  have hbA : ¬ mt_A g b := fun h => absurd (Nat.lt_of_lt_of_le hbl (Nat.le_trans (Nat.le_of_eq hz.symm) h)) (Nat.lt_irrefl _)
  have hz2 : g.2.1 ≤ s.heap.size := Nat.le_of_eq hz
  have hS : va_S (mt_A g) s.heap s.heap [] := va_S.rf
  have hP : va_P g.1 vwCl [] s.heap := fun k q h9 => by cases h9
  have hD : va_D (mt_A g) [] := ⟨fun i j p q h9 => (by cases h9), fun k q h9 => (by cases h9)⟩
  have hl := lv_entry ([Value.ref b]) (n := 8) (Nat.le_of_ble_eq_true rfl)
  rw [lg_entry_eq]
  generalize (lg_sl ([Value.ref b]) ++ List.replicate (8 - (lg_sl ([Value.ref b])).length) Slot.unset).toArray = ls at hl ⊢
  have hl : lv_has ls 8 [(0, .ref b)] := hl
  refine va_new (ci := 1) (fs := [.null, .null, .int 0]) (C := RXT) (T := TXT) (N := 3) hx hb hts (fun w h => List.mem_cons_of_mem _ (in_XT w h)) tyXT tyXT_ok hown (hts _ (List.mem_cons_of_mem _ mw_19)) (hts _ (List.mem_cons_of_mem _ mw_20)) (hts _ (List.mem_cons_of_mem _ mw_1)) hK hP hD hS hA rfl (fun j hj => by rcases (show j = 0 ∨ j = 1 ∨ j = 2 by omega) with rfl | rfl | rfl <;> rfl) (by decide +kernel) (by decide +kernel) dXL_law_0 (fun x H hP hD hS => ?_)
  refine lv_dup hx hb dXL_law_3 rfl ?_
  refine va_callv (va_runI (As := []) (rest := [.ref x]) ⟨hx, hb, hml, hown, hts⟩ (c_XT_init l g x) (cwI 0 hts (mt_gi mw_23) rfl rfl rfl (hts _ (List.mem_cons_of_mem _ mw_1)) (hts _ (List.mem_cons_of_mem _ mw_21)) (hts _ (List.mem_cons_of_mem _ mw_22)) rfl (by decide +kernel) ⟨Nat.le_of_ble_eq_true rfl, Nat.le_of_ble_eq_true rfl⟩) (mt_preS hE hz2 hS hP hD) rfl rfl hl.1 rfl (lv_room (Nat.le_of_ble_eq_true rfl)) dXL_law_4 ⟨Nat.le_of_ble_eq_true rfl, Nat.le_of_ble_eq_true rfl⟩) hS (fun _ _ h9 => h9) (fun _ h9 => h9) (fun u1 t9 H locs ht9 hvm9 _ hB9 hz9 hk9 hS => ?_)
  obtain ⟨hP, hD⟩ := hB9
  rw [ht9] at hP
  obtain ⟨ar, al⟩ := u1
  dsimp only at hP hD
  refine lv_astore_n (i := 1) (lv' := [(1, .ref x), (0, .ref b)]) hx hb dXL_law_7 rfl hl (by decide) rfl (fun ls hl => ?_)
  refine va_new (ci := 2) (fs := [.null, .null, .int 0, .int 0]) (C := RXM) (T := TXM) (N := 4) hx hb hts (fun w h => List.mem_cons_of_mem _ (in_XM w h)) tyXM tyXM_ok hown (hts _ (List.mem_cons_of_mem _ mw_379)) (hts _ (List.mem_cons_of_mem _ mw_380)) (hts _ (List.mem_cons_of_mem _ mw_5)) hK hP hD hS hA rfl (fun j hj => by rcases (show j = 0 ∨ j = 1 ∨ j = 2 ∨ j = 3 by omega) with rfl | rfl | rfl | rfl <;> rfl) (by decide +kernel) (by decide +kernel) dXL_law_8 (fun am H hP hD hS => ?_)
  refine lv_dup hx hb dXL_law_11 rfl ?_
  refine va_callv (va_runI (As := []) (rest := [.ref am]) ⟨hx, hb, hml, hown, hts⟩ (c_XM_init l g _ _ _ am) (cwI 0 hts (mt_gi mw_383) rfl rfl rfl (hts _ (List.mem_cons_of_mem _ mw_5)) (hts _ (List.mem_cons_of_mem _ mw_381)) (hts _ (List.mem_cons_of_mem _ mw_382)) rfl (by decide +kernel) ⟨Nat.le_of_ble_eq_true rfl, Nat.le_of_ble_eq_true rfl⟩) (mt_preS hE hz2 hS hP hD) rfl rfl hl.1 rfl (lv_room (Nat.le_of_ble_eq_true rfl)) dXL_law_12 ⟨Nat.le_of_ble_eq_true rfl, Nat.le_of_ble_eq_true rfl⟩) hS (fun _ _ h9 => h9) (fun _ h9 => h9) (fun u1 t9 H locs ht9 hvm9 _ hB9 hz9 hk9 hS => ?_)
  obtain ⟨hP, hD⟩ := hB9
  rw [ht9] at hP
  obtain ⟨av, ab⟩ := u1
  dsimp only at hP hD
  refine lv_astore_n (i := 2) (lv' := [(2, .ref am), (1, .ref x), (0, .ref b)]) hx hb dXL_law_15 rfl hl (by decide) rfl (fun ls hl => ?_)
  refine lv_iconst (v := 1) hx hb dXL_law_16 (by decide +kernel) ?_
  refine va_newa (atype := .long) (ty := .long) hx hb (hts _ (List.mem_cons_of_mem _ mw_460)) rfl hK hP hD hS hA (a0 := (1, .inr (.inl (fun _ => 0)))) (N' := 1) (fun _ => rfl) (by decide +kernel) (by decide +kernel) (by decide +kernel) (by decide +kernel) (by decide +kernel) dXL_law_17 (fun ao cA H hK9 hP hD hS => ?_)
  have hcA := qa_ty1 (i := 5) (j := 4) hK9 hK rfl rfl
  subst hcA
  clear hK9
  refine lv_astore_n (i := 3) (lv' := [(3, .ref ao), (2, .ref am), (1, .ref x), (0, .ref b)]) hx hb dXL_law_19 rfl hl (by decide) rfl (fun ls hl => ?_)
  refine lv_iconst (v := 0) hx hb dXL_law_20 (by decide +kernel) ?_
  refine lv_istore (i := 4) (lv' := [(4, .int 0), (3, .ref ao), (2, .ref am), (1, .ref x), (0, .ref b)]) hx hb dXL_law_21 hl (by decide) rfl (fun ls hl => ?_)
  have hl : lv_has ls 8 [(4, .int (nI (4 * 0))), (3, .ref ao), (2, .ref am), (1, .ref x), (0, .ref b)] := hl
  have hl := lv_sub (l' := [(4, .int (nI (4 * 0))), (3, .ref ao), (2, .ref am), (1, .ref x), (0, .ref b)]) hl [0, 1, 2, 3, 4] rfl
  have hP := va_P.sub (ws' := mt_MW g am av ab (nI 1) 0 (fun _ => 0) (fun _ => 0) ((ao, .inl (g.2.2.2 4, 1, .inr (.inl (fun _ => 0)))) :: (x, .inr (1, [.ref ar, .ref al, .int (nI 1)])) :: (ar, .inl (g.2.2.2 1, 600, .inr (.inr (.inr (.inr (fun _ => none)))))) :: ([(al, .inr (3, [.int 0, .ref g.2.2.1, .int 0]))] ++ va_pl [] (fun a => mt_nE ((fun _ => (0, 0, none, none, 0, 0, 0)) a))))) hP [3, 4, 5, 6, 0, 1, 2] rfl
  have hD := va_D.sub (ws' := mt_MW g am av ab (nI 1) 0 (fun _ => 0) (fun _ => 0) ((ao, .inl (g.2.2.2 4, 1, .inr (.inl (fun _ => 0)))) :: (x, .inr (1, [.ref ar, .ref al, .int (nI 1)])) :: (ar, .inl (g.2.2.2 1, 600, .inr (.inr (.inr (.inr (fun _ => none)))))) :: ([(al, .inr (3, [.int 0, .ref g.2.2.1, .int 0]))] ++ va_pl [] (fun a => mt_nE ((fun _ => (0, 0, none, none, 0, 0, 0)) a))))) hD [3, 4, 5, 6, 0, 1, 2] (by decide) rfl
  refine W.widen (k := 100 + 60 * 0) (n := mt_SF 0) (by decide +kernel) (by decide +kernel) ?_
  exact law_loop l hl0 hL C1 g hE hz am av ab ao x ar al L 0 (by omega) (by omega) 1 0 (fun _ => 0) (fun _ => 0) (fun _ => 0) (fun _ => none) 0 0 [(al, .inr (3, [.int 0, .ref g.2.2.1, .int 0]))] [] (fun _ => (0, 0, none, none, 0, 0, 0)) ls H _ ⟨by omega, by omega, fun _ => Or.inl rfl, Or.inl ⟨rfl, rfl, 0, rfl⟩, Or.inl ⟨rfl, rfl⟩, fun a h9 => (nomatch h9), fun j hj => mt_rep_none.mpr (fun k hk => rfl), hP, hD, hS⟩ hl
