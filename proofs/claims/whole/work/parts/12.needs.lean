set_option maxHeartbeats 4000000 in
set_option maxRecDepth 100000 in
/-- needVersion -/
theorem c_needVersion (l : Launch) (hl0 : l.stackTraces = false) (g : mt_G) (ws : va_W) (qT qR x ar al cn : Nat) (fr : Nat → Option Nat) (hT : ws[qT]? = some (x, .inr (1, [.ref ar, .ref al, .int (nI cn)]))) (hR : ws[qR]? = some (ar, .inl (g.2.2.2 1, 600, .inr (.inr (.inr (.inr fr)))))) (hcn : cn ≤ 600) (v : Int32) : vx_Met l yXT_needVersion wsXT_needVersion ({ frames := 6, cells := 1, slots := 6, locals := 100 }) (mt_Pc g ws [.ref x, .int v]) (va_Qv (fun _ : Unit => (mt_ver v cn)) (fun _ _ => True) (fun _ => False)) (vx_X (fun _ : Unit => ¬ (mt_ver v cn)) (fun E _ _ => E = "java/lang/IndexOutOfBoundsException") (fun _ => False)) (1) (6) (mt_A g) := by
  refine vx_ofW (cc := cXT_needVersion) (maxL := 2) (ret := none) (by decide) rfl ?_
  intro p e s m args below meth c s₁ B hml hnx hv
  obtain ⟨rfl, hE, hz, hP, hD⟩ := hv
  have hx := B.exec
  have hb := B.bytes
  have hr := B.returns
  have hts := atoms_spec (ws := wsXT_needVersion) B.pre
  have hown : s.vm.findClass RXT = some m.cls := findClass_of_methodNamed B.named
  have hlocks := B.notSynchronized
  have hK := hE.k
  have hA : ∀ q : Nat, s.heap.size ≤ q → mt_A g q := fun q h => Nat.le_trans hz h
  have hS : va_S (mt_A g) s.heap s.heap [] := va_S.rf
  have hl := lv_entry ([.ref x, .int v]) (n := 2) (Nat.le_of_ble_eq_true rfl)
  rw [lg_entry_eq]
  generalize (lg_sl ([.ref x, .int v]) ++ List.replicate (2 - (lg_sl ([.ref x, .int v])).length) Slot.unset).toArray = ls at hl ⊢
  have hl : lv_has ls 2 [(0, .ref x), (1, .int v)] := hl
  have hH : s.heap = s.heap := rfl
  have hU : mt_same s s.heap := mt_same.rf
  refine lv_iload_n hx hb dXT_needVersion_0 rfl (lv_at hl 1 rfl) ?_
  refine lv_if_lt (tgt := 12) hx hb dXT_needVersion_1 (by decide) (fun c1 => ?_) (fun c1 => ?_)
  · obtain ⟨sa, hsa⟩ := hE.s _ _ _ (show (RXT, 111, "no such version") ∈ mt_strs by decide +kernel)
    exact vx_throwS (names := ["java/lang/RuntimeException", "java/lang/Exception"]) hx hb hl0 hown (by decide +kernel) (by decide +kernel) (hts _ (List.mem_cons_of_mem _ mw_119)) (hts _ (List.mem_cons_of_mem _ mw_9)) hsa (vx_hat (L := vx_atS RXT 66 "java/lang/IndexOutOfBoundsException" ["java/lang/RuntimeException", "java/lang/Exception"]) (B := [.castable "java/lang/IndexOutOfBoundsException" "java/lang/IndexOutOfBoundsException", .declares ⟨"java/lang/RuntimeException", "<init>", "(Ljava/lang/String;)V"⟩, .declares ⟨"java/lang/Exception", "<init>", "(Ljava/lang/String;)V"⟩, .declares ⟨"java/lang/Throwable", "<init>", "(Ljava/lang/String;)V"⟩]) (fun w hw => hts w (List.mem_cons_of_mem _ (at_66 w hw))) (by decide +kernel) (vx_c (va_Nw.use rfl (hE.w (.castable "java/lang/IndexOutOfBoundsException" "java/lang/IndexOutOfBoundsException") (by decide +kernel))) (vx_c (va_Nw.use rfl (hE.w (.declares ⟨"java/lang/RuntimeException", "<init>", "(Ljava/lang/String;)V"⟩) (by decide +kernel))) (vx_c (va_Nw.use rfl (hE.w (.declares ⟨"java/lang/Exception", "<init>", "(Ljava/lang/String;)V"⟩) (by decide +kernel))) (vx_c (va_Nw.use rfl (hE.w (.declares ⟨"java/lang/Throwable", "<init>", "(Ljava/lang/String;)V"⟩) (by decide +kernel))) (vx_n)))))) (by decide +kernel) hE.u hE.n hS (by rw [hml]; exact hl.1) dXT_needVersion_12 dXT_needVersion_15 dXT_needVersion_16 dXT_needVersion_18 dXT_needVersion_21 (fun x hx9 => (hnx x hx9).elim) (by decide) (by decide) (by decide) (by decide) hlocks (fun t hvm h1 h2 => ⟨(), fun h9 => absurd c1 (Int32.not_lt.mpr h9.1), rfl, hU.ext h1 h2⟩) t_nil (by decide) (by decide)
  · refine lv_iload_n hx hb dXT_needVersion_4 rfl (lv_at hl 1 rfl) ?_
    refine lv_aload_n hx hb dXT_needVersion_5 rfl (lv_at hl 0 rfl) ?_
    refine va_get (D := g.1) (ci := 1) (v := .int (nI cn)) (C := RXT) (T := TXT) (N := 3) hx hb hts (fun w h => List.mem_cons_of_mem _ (in_XT w h)) hown hK hP qT hT rfl 2 (by decide) (hts _ (List.mem_cons_of_mem _ mw_55)) (fun _ h9 => h9) rfl dXT_needVersion_6 ?_
    refine lv_icmp_lt (tgt := 22) hx hb dXT_needVersion_9 (by decide) (fun c2 => ?_) (fun c2 => ?_)
    · refine vx_ret ?_
      refine W.widen (k := 1) (n := 6) (by decide) (by decide) ?_
      exact W.vret hx hb hr (fun t9 ht hW => ⟨⟨(), rfl, ⟨Int32.not_lt.mp c1, c2⟩, trivial⟩, hU.F ht⟩) t_nil dXT_needVersion_22
    · obtain ⟨sa, hsa⟩ := hE.s _ _ _ (show (RXT, 111, "no such version") ∈ mt_strs by decide +kernel)
      exact vx_throwS (names := ["java/lang/RuntimeException", "java/lang/Exception"]) hx hb hl0 hown (by decide +kernel) (by decide +kernel) (hts _ (List.mem_cons_of_mem _ mw_119)) (hts _ (List.mem_cons_of_mem _ mw_9)) hsa (vx_hat (L := vx_atS RXT 66 "java/lang/IndexOutOfBoundsException" ["java/lang/RuntimeException", "java/lang/Exception"]) (B := [.castable "java/lang/IndexOutOfBoundsException" "java/lang/IndexOutOfBoundsException", .declares ⟨"java/lang/RuntimeException", "<init>", "(Ljava/lang/String;)V"⟩, .declares ⟨"java/lang/Exception", "<init>", "(Ljava/lang/String;)V"⟩, .declares ⟨"java/lang/Throwable", "<init>", "(Ljava/lang/String;)V"⟩]) (fun w hw => hts w (List.mem_cons_of_mem _ (at_66 w hw))) (by decide +kernel) (vx_c (va_Nw.use rfl (hE.w (.castable "java/lang/IndexOutOfBoundsException" "java/lang/IndexOutOfBoundsException") (by decide +kernel))) (vx_c (va_Nw.use rfl (hE.w (.declares ⟨"java/lang/RuntimeException", "<init>", "(Ljava/lang/String;)V"⟩) (by decide +kernel))) (vx_c (va_Nw.use rfl (hE.w (.declares ⟨"java/lang/Exception", "<init>", "(Ljava/lang/String;)V"⟩) (by decide +kernel))) (vx_c (va_Nw.use rfl (hE.w (.declares ⟨"java/lang/Throwable", "<init>", "(Ljava/lang/String;)V"⟩) (by decide +kernel))) (vx_n)))))) (by decide +kernel) hE.u hE.n hS (by rw [hml]; exact hl.1) dXT_needVersion_12 dXT_needVersion_15 dXT_needVersion_16 dXT_needVersion_18 dXT_needVersion_21 (fun x hx9 => (hnx x hx9).elim) (by decide) (by decide) (by decide) (by decide) hlocks (fun t hvm h1 h2 => ⟨(), fun h9 => c2 h9.2, rfl, hU.ext h1 h2⟩) t_nil (by decide) (by decide)
set_option maxHeartbeats 4000000 in
set_option maxRecDepth 100000 in
/-- needKey -/
theorem c_needKey (l : Launch) (hl0 : l.stackTraces = false) (g : mt_G) (ws : va_W) (v : Int32) : vx_Met l yXT_needKey wsXT_needKey ({ frames := 6, cells := 1, slots := 6, locals := 100 }) (mt_Pc g ws [.int v]) (va_Qv (fun _ : Unit => (mt_key v)) (fun _ _ => True) (fun _ => False)) (vx_X (fun _ : Unit => ¬ (mt_key v)) (fun E _ _ => E = "java/lang/IndexOutOfBoundsException") (fun _ => False)) (1) (6) (mt_A g) := by
  refine vx_ofW (cc := cXT_needKey) (maxL := 1) (ret := none) (by decide) rfl ?_
  intro p e s m args below meth c s₁ B hml hnx hv
  obtain ⟨rfl, hE, hz, hP, hD⟩ := hv
  have hx := B.exec
  have hb := B.bytes
  have hr := B.returns
  have hts := atoms_spec (ws := wsXT_needKey) B.pre
  have hown : s.vm.findClass RXT = some m.cls := findClass_of_methodNamed B.named
  have hlocks := B.notSynchronized
  have hK := hE.k
  have hA : ∀ q : Nat, s.heap.size ≤ q → mt_A g q := fun q h => Nat.le_trans hz h
  have hS : va_S (mt_A g) s.heap s.heap [] := va_S.rf
  have hl := lv_entry ([.int v]) (n := 1) (Nat.le_of_ble_eq_true rfl)
  rw [lg_entry_eq]
  generalize (lg_sl ([.int v]) ++ List.replicate (1 - (lg_sl ([.int v])).length) Slot.unset).toArray = ls at hl ⊢
  have hl : lv_has ls 1 [(0, .int v)] := hl
  have hH : s.heap = s.heap := rfl
  have hU : mt_same s s.heap := mt_same.rf
  refine lv_iload_n hx hb dXT_needKey_0 rfl (lv_at hl 0 rfl) ?_
  refine lv_if_lt (tgt := 11) hx hb dXT_needKey_1 (by decide) (fun c1 => ?_) (fun c1 => ?_)
  · obtain ⟨sa, hsa⟩ := hE.s _ _ _ (show (RXT, 113, "keys are 0 to 255") ∈ mt_strs by decide +kernel)
    exact vx_throwS (names := ["java/lang/RuntimeException", "java/lang/Exception"]) hx hb hl0 hown (by decide +kernel) (by decide +kernel) (hts _ (List.mem_cons_of_mem _ mw_119)) (hts _ (List.mem_cons_of_mem _ mw_9)) hsa (vx_hat (L := vx_atS RXT 66 "java/lang/IndexOutOfBoundsException" ["java/lang/RuntimeException", "java/lang/Exception"]) (B := [.castable "java/lang/IndexOutOfBoundsException" "java/lang/IndexOutOfBoundsException", .declares ⟨"java/lang/RuntimeException", "<init>", "(Ljava/lang/String;)V"⟩, .declares ⟨"java/lang/Exception", "<init>", "(Ljava/lang/String;)V"⟩, .declares ⟨"java/lang/Throwable", "<init>", "(Ljava/lang/String;)V"⟩]) (fun w hw => hts w (List.mem_cons_of_mem _ (at_66 w hw))) (by decide +kernel) (vx_c (va_Nw.use rfl (hE.w (.castable "java/lang/IndexOutOfBoundsException" "java/lang/IndexOutOfBoundsException") (by decide +kernel))) (vx_c (va_Nw.use rfl (hE.w (.declares ⟨"java/lang/RuntimeException", "<init>", "(Ljava/lang/String;)V"⟩) (by decide +kernel))) (vx_c (va_Nw.use rfl (hE.w (.declares ⟨"java/lang/Exception", "<init>", "(Ljava/lang/String;)V"⟩) (by decide +kernel))) (vx_c (va_Nw.use rfl (hE.w (.declares ⟨"java/lang/Throwable", "<init>", "(Ljava/lang/String;)V"⟩) (by decide +kernel))) (vx_n)))))) (by decide +kernel) hE.u hE.n hS (by rw [hml]; exact hl.1) dXT_needKey_11 dXT_needKey_14 dXT_needKey_15 dXT_needKey_17 dXT_needKey_20 (fun x hx9 => (hnx x hx9).elim) (by decide) (by decide) (by decide) (by decide) hlocks (fun t hvm h1 h2 => ⟨(), fun h9 => absurd c1 (Int32.not_lt.mpr h9.1), rfl, hU.ext h1 h2⟩) t_nil (by decide) (by decide)
  · refine lv_iload_n hx hb dXT_needKey_4 rfl (lv_at hl 0 rfl) ?_
    refine lv_sipush (v := (nI 256)) hx hb dXT_needKey_5 (by decide +kernel) ?_
    refine lv_icmp_lt (tgt := 21) hx hb dXT_needKey_8 (by decide) (fun c2 => ?_) (fun c2 => ?_)
    · refine vx_ret ?_
      refine W.widen (k := 1) (n := 6) (by decide) (by decide) ?_
      exact W.vret hx hb hr (fun t9 ht hW => ⟨⟨(), rfl, ⟨Int32.not_lt.mp c1, c2⟩, trivial⟩, hU.F ht⟩) t_nil dXT_needKey_21
    · obtain ⟨sa, hsa⟩ := hE.s _ _ _ (show (RXT, 113, "keys are 0 to 255") ∈ mt_strs by decide +kernel)
      exact vx_throwS (names := ["java/lang/RuntimeException", "java/lang/Exception"]) hx hb hl0 hown (by decide +kernel) (by decide +kernel) (hts _ (List.mem_cons_of_mem _ mw_119)) (hts _ (List.mem_cons_of_mem _ mw_9)) hsa (vx_hat (L := vx_atS RXT 66 "java/lang/IndexOutOfBoundsException" ["java/lang/RuntimeException", "java/lang/Exception"]) (B := [.castable "java/lang/IndexOutOfBoundsException" "java/lang/IndexOutOfBoundsException", .declares ⟨"java/lang/RuntimeException", "<init>", "(Ljava/lang/String;)V"⟩, .declares ⟨"java/lang/Exception", "<init>", "(Ljava/lang/String;)V"⟩, .declares ⟨"java/lang/Throwable", "<init>", "(Ljava/lang/String;)V"⟩]) (fun w hw => hts w (List.mem_cons_of_mem _ (at_66 w hw))) (by decide +kernel) (vx_c (va_Nw.use rfl (hE.w (.castable "java/lang/IndexOutOfBoundsException" "java/lang/IndexOutOfBoundsException") (by decide +kernel))) (vx_c (va_Nw.use rfl (hE.w (.declares ⟨"java/lang/RuntimeException", "<init>", "(Ljava/lang/String;)V"⟩) (by decide +kernel))) (vx_c (va_Nw.use rfl (hE.w (.declares ⟨"java/lang/Exception", "<init>", "(Ljava/lang/String;)V"⟩) (by decide +kernel))) (vx_c (va_Nw.use rfl (hE.w (.declares ⟨"java/lang/Throwable", "<init>", "(Ljava/lang/String;)V"⟩) (by decide +kernel))) (vx_n)))))) (by decide +kernel) hE.u hE.n hS (by rw [hml]; exact hl.1) dXT_needKey_11 dXT_needKey_14 dXT_needKey_15 dXT_needKey_17 dXT_needKey_20 (fun x hx9 => (hnx x hx9).elim) (by decide) (by decide) (by decide) (by decide) hlocks (fun t hvm h1 h2 => ⟨(), fun h9 => c2 h9.2, rfl, hU.ext h1 h2⟩) t_nil (by decide) (by decide)
set_option maxHeartbeats 4000000 in
set_option maxRecDepth 100000 in
/-- needRoom -/
theorem c_needRoom (l : Launch) (hl0 : l.stackTraces = false) (g : mt_G) (ws : va_W) (qT qR x ar al cn : Nat) (fr : Nat → Option Nat) (hT : ws[qT]? = some (x, .inr (1, [.ref ar, .ref al, .int (nI cn)]))) (hR : ws[qR]? = some (ar, .inl (g.2.2.2 1, 600, .inr (.inr (.inr (.inr fr)))))) (hcn : cn ≤ 600) : vx_Met l yXT_needRoom wsXT_needRoom ({ frames := 6, cells := 1, slots := 6, locals := 100 }) (mt_Pc g ws [.ref x]) (va_Qv (fun _ : Unit => (cn < 600)) (fun _ _ => True) (fun _ => False)) (vx_X (fun _ : Unit => ¬ (cn < 600)) (fun E _ _ => E = "java/lang/IllegalStateException") (fun _ => False)) (1) (6) (mt_A g) := by
  refine vx_ofW (cc := cXT_needRoom) (maxL := 1) (ret := none) (by decide) rfl ?_
  intro p e s m args below meth c s₁ B hml hnx hv
  obtain ⟨rfl, hE, hz, hP, hD⟩ := hv
  have hx := B.exec
  have hb := B.bytes
  have hr := B.returns
  have hts := atoms_spec (ws := wsXT_needRoom) B.pre
  have hown : s.vm.findClass RXT = some m.cls := findClass_of_methodNamed B.named
  have hlocks := B.notSynchronized
  have hK := hE.k
  have hA : ∀ q : Nat, s.heap.size ≤ q → mt_A g q := fun q h => Nat.le_trans hz h
  have hS : va_S (mt_A g) s.heap s.heap [] := va_S.rf
  have hl := lv_entry ([.ref x]) (n := 1) (Nat.le_of_ble_eq_true rfl)
  rw [lg_entry_eq]
  generalize (lg_sl ([.ref x]) ++ List.replicate (1 - (lg_sl ([.ref x])).length) Slot.unset).toArray = ls at hl ⊢
  have hl : lv_has ls 1 [(0, .ref x)] := hl
  have hH : s.heap = s.heap := rfl
  have hU : mt_same s s.heap := mt_same.rf
  refine lv_aload_n hx hb dXT_needRoom_0 rfl (lv_at hl 0 rfl) ?_
  refine va_get (D := g.1) (ci := 1) (v := .int (nI cn)) (C := RXT) (T := TXT) (N := 3) hx hb hts (fun w h => List.mem_cons_of_mem _ (in_XT w h)) hown hK hP qT hT rfl 2 (by decide) (hts _ (List.mem_cons_of_mem _ mw_55)) (fun _ h9 => h9) rfl dXT_needRoom_1 ?_
  refine lv_sipush (v := (nI 600)) hx hb dXT_needRoom_4 (by decide +kernel) ?_
  refine lv_icmp_lt (tgt := 20) hx hb dXT_needRoom_7 (by decide) (fun c1 => ?_) (fun c1 => ?_)
  · refine vx_ret ?_
    refine W.widen (k := 1) (n := 6) (by decide) (by decide) ?_
    exact W.vret hx hb hr (fun t9 ht hW => ⟨⟨(), rfl, (nI_ltI (by omega) (by decide)).mp c1, trivial⟩, hU.F ht⟩) t_nil dXT_needRoom_20
  · obtain ⟨sa, hsa⟩ := hE.s _ _ _ (show (RXT, 117, "there are 600 versions") ∈ mt_strs by decide +kernel)
    exact vx_throwS (names := ["java/lang/RuntimeException", "java/lang/Exception"]) hx hb hl0 hown (by decide +kernel) (by decide +kernel) (hts _ (List.mem_cons_of_mem _ mw_181)) (hts _ (List.mem_cons_of_mem _ mw_10)) hsa (vx_hat (L := vx_atS RXT 119 "java/lang/IllegalStateException" ["java/lang/RuntimeException", "java/lang/Exception"]) (B := [.castable "java/lang/IllegalStateException" "java/lang/IllegalStateException", .declares ⟨"java/lang/RuntimeException", "<init>", "(Ljava/lang/String;)V"⟩, .declares ⟨"java/lang/Exception", "<init>", "(Ljava/lang/String;)V"⟩, .declares ⟨"java/lang/Throwable", "<init>", "(Ljava/lang/String;)V"⟩]) (fun w hw => hts w (List.mem_cons_of_mem _ (at_119 w hw))) (by decide +kernel) (vx_c (va_Nw.use rfl (hE.w (.castable "java/lang/IllegalStateException" "java/lang/IllegalStateException") (by decide +kernel))) (vx_c (va_Nw.use rfl (hE.w (.declares ⟨"java/lang/RuntimeException", "<init>", "(Ljava/lang/String;)V"⟩) (by decide +kernel))) (vx_c (va_Nw.use rfl (hE.w (.declares ⟨"java/lang/Exception", "<init>", "(Ljava/lang/String;)V"⟩) (by decide +kernel))) (vx_c (va_Nw.use rfl (hE.w (.declares ⟨"java/lang/Throwable", "<init>", "(Ljava/lang/String;)V"⟩) (by decide +kernel))) (vx_n)))))) (by decide +kernel) hE.u hE.n hS (by rw [hml]; exact hl.1) dXT_needRoom_10 dXT_needRoom_13 dXT_needRoom_14 dXT_needRoom_16 dXT_needRoom_19 (fun x hx9 => (hnx x hx9).elim) (by decide) (by decide) (by decide) (by decide) hlocks (fun t hvm h1 h2 => ⟨(), fun h9 => c1 (nI_lt h9 (by decide)), rfl, hU.ext h1 h2⟩) t_nil (by decide) (by decide)
