theorem mt_words_in : ∀ w ∈ mt_words, w ∈ lw_tbl := List.forall_mem_cons.mpr ⟨List.mem_append_right _ (List.mem_of_getElem? (i := 124) (by decide +kernel)), List.forall_mem_cons.mpr ⟨List.mem_append_right _ (List.mem_of_getElem? (i := 125) (by decide +kernel)), List.forall_mem_cons.mpr ⟨List.mem_append_right _ (List.mem_of_getElem? (i := 126) (by decide +kernel)), List.forall_mem_cons.mpr ⟨List.mem_append_right _ (List.mem_of_getElem? (i := 127) (by decide +kernel)), List.forall_mem_cons.mpr ⟨List.mem_append_right _ (List.mem_of_getElem? (i := 128) (by decide +kernel)), List.forall_mem_cons.mpr ⟨List.mem_append_right _ (List.mem_of_getElem? (i := 129) (by decide +kernel)), List.forall_mem_cons.mpr ⟨List.mem_append_right _ (List.mem_of_getElem? (i := 130) (by decide +kernel)), List.forall_mem_cons.mpr ⟨List.mem_append_right _ (List.mem_of_getElem? (i := 200) (by decide +kernel)), List.forall_mem_cons.mpr ⟨List.mem_append_right _ (List.mem_of_getElem? (i := 215) (by decide +kernel)), List.forall_mem_cons.mpr ⟨List.mem_append_right _ (List.mem_of_getElem? (i := 220) (by decide +kernel)), List.forall_mem_cons.mpr ⟨List.mem_append_right _ (List.mem_of_getElem? (i := 222) (by decide +kernel)), List.forall_mem_cons.mpr ⟨List.mem_append_right _ (List.mem_of_getElem? (i := 224) (by decide +kernel)), List.forall_mem_cons.mpr ⟨List.mem_append_right _ (List.mem_of_getElem? (i := 226) (by decide +kernel)), List.forall_mem_cons.mpr ⟨List.mem_append_right _ (List.mem_of_getElem? (i := 228) (by decide +kernel)), List.forall_mem_cons.mpr ⟨List.mem_append_right _ (List.mem_of_getElem? (i := 230) (by decide +kernel)), List.forall_mem_cons.mpr ⟨List.mem_append_right _ (List.mem_of_getElem? (i := 232) (by decide +kernel)), List.forall_mem_cons.mpr ⟨List.mem_append_right _ (List.mem_of_getElem? (i := 314) (by decide +kernel)), List.forall_mem_cons.mpr ⟨List.mem_append_right _ (List.mem_of_getElem? (i := 317) (by decide +kernel)), List.forall_mem_cons.mpr ⟨List.mem_append_right _ (List.mem_of_getElem? (i := 318) (by decide +kernel)), List.forall_mem_cons.mpr ⟨List.mem_append_right _ (List.mem_of_getElem? (i := 336) (by decide +kernel)), List.forall_mem_cons.mpr ⟨List.mem_append_right _ (List.mem_of_getElem? (i := 503) (by decide +kernel)), List.forall_mem_cons.mpr ⟨List.mem_append_right _ (List.mem_of_getElem? (i := 506) (by decide +kernel)), List.forall_mem_cons.mpr ⟨List.mem_append_right _ (List.mem_of_getElem? (i := 507) (by decide +kernel)), List.forall_mem_cons.mpr ⟨List.mem_append_right _ (List.mem_of_getElem? (i := 508) (by decide +kernel)), List.forall_mem_cons.mpr ⟨List.mem_append_right _ (List.mem_of_getElem? (i := 509) (by decide +kernel)), List.forall_mem_cons.mpr ⟨List.mem_append_right _ (List.mem_of_getElem? (i := 510) (by decide +kernel)), fun _ z => nomatch z⟩⟩⟩⟩⟩⟩⟩⟩⟩⟩⟩⟩⟩⟩⟩⟩⟩⟩⟩⟩⟩⟩⟩⟩⟩⟩
theorem mt_aoOf {C : String} {args : Array Value} {s : State} (h : (Cond.arrayOver (.object C)).before args s = true) : ∃ cA : ClassId, ArrOfT s cA (.object C) ∧ va_RA s cA (.object C) := by
  obtain ⟨comp, c, k, h1, h2, h3, h4, h5⟩ := Cond.arrayOver_spec h
  exact ⟨c, fun N z => ⟨fun k h => (by cases h), k, h3, comp, h4⟩, k, comp, h3, h4, h1, h5⟩
theorem mt_acOf {ty : FieldType} {args : Array Value} {s : State} (h : (Cond.arrayClass ty).before args s = true) : ∃ cA : ClassId, ArrOfT s cA ty ∧ s.vm.findClass ("[" ++ ty.toString) = some cA := by
  obtain ⟨c, k, comp, h1, h2, h3⟩ := Cond.arrayClass_spec h
  exact ⟨c, fun N z => ⟨fun k h => (by cases h), k, h2, comp, h3⟩, h1⟩
theorem mt_strOf {own tx : String} {k : Nat} {args : Array Value} {s : State} (h1 : (Cond.stringRef own k tx).before args s = true) (h2 : (Cond.exactly (.string own k) "java/lang/String").before args s = true) : ∃ a, vk_R own k tx a s := by
  obtain ⟨a, -, -, -, ha, -⟩ := Cond.exactly_spec h2
  exact ⟨a, vk_R.of h1 ha⟩
set_option maxHeartbeats 4000000 in
set_option maxRecDepth 100000 in
/-- the ghosts, and what is given of the machine at the law's start -/
theorem mt_start {p : Program} {s : State} {m : MethodId} {meth : Method} {c : Code} {b L : Nat} {xs : Nat → Int32} (C0 : lw_At p s m meth c b L xs) : ∃ g : mt_G, g.2.1 = s.heap.size ∧ mt_E g s := by
  obtain ⟨hx, hb, hr, hml, hown, hts0, hX, hbl, hlocks, hgv⟩ := C0
  have hts := mt_htsL hts0
  have hs := flat_of_before _ hgv
  obtain ⟨dXN, iXN, kXN⟩ := u_known (C := RXN) (T := TXN) (N := 7) (n := 7) hts (fun w h => List.mem_cons_of_mem _ (in_XN w h)) (hts _ (List.mem_cons_of_mem _ mw_195))
  obtain ⟨dXT, iXT, kXT⟩ := u_known (C := RXT) (T := TXT) (N := 3) (n := 3) hts (fun w h => List.mem_cons_of_mem _ (in_XT w h)) (hts _ (List.mem_cons_of_mem _ mw_20))
  obtain ⟨dXM, iXM, kXM⟩ := u_known (C := RXM) (T := TXM) (N := 4) (n := 4) hts (fun w h => List.mem_cons_of_mem _ (in_XM w h)) (hts _ (List.mem_cons_of_mem _ mw_380))
  obtain ⟨dXA, iXA, kXA⟩ := u_known (C := RXA) (T := TXA) (N := 3) (n := 3) hts (fun w h => List.mem_cons_of_mem _ (in_XA w h)) (hts _ (List.mem_cons_of_mem _ mw_29))
  obtain ⟨a0, o0⟩ := mt_aoOf (C := "java/lang/Object") (hts0 _ (List.mem_append_right _ (List.mem_of_getElem? (i := 292) (by decide +kernel))))
  obtain ⟨a1, o1⟩ := mt_aoOf (C := "MeldTree$Node") (hts0 _ (List.mem_append_right _ (List.mem_of_getElem? (i := 28) (by decide +kernel))))
  obtain ⟨a2, o2⟩ := mt_acOf (ty := .int) (hts _ (List.mem_cons_of_mem _ mw_399))
  obtain ⟨a3, o3⟩ := mt_acOf (ty := .boolean) (hts _ (List.mem_cons_of_mem _ mw_400))
  obtain ⟨a4, o4⟩ := mt_acOf (ty := .long) (hts _ (List.mem_cons_of_mem _ mw_460))
  obtain ⟨mi, hmi⟩ := va_Mi.of (C := "[Ljava/lang/Object;") (hs (.isRef (.mirror "[Ljava/lang/Object;")) (by decide +kernel))
  have hA : ∀ a : Nat, a < s.heap.size → ¬ (fun q : Nat => s.heap.size ≤ q) a := fun a h z => absurd h (Nat.not_lt.mpr z)
  obtain ⟨t, ht, hT⟩ := va_Tof (tm := .static "java/util/ArrayList" "DEFAULTCAPACITY_EMPTY_ELEMENTDATA" "[Ljava/lang/Object;") (ty := .object "java/lang/Object") (N := 0) (f := fun _ => .null) (by decide) (hs _ (by decide +kernel)) (va_eqt (hs (.eq (.length (.static "java/util/ArrayList" "DEFAULTCAPACITY_EMPTY_ELEMENTDATA" "[Ljava/lang/Object;")) (.int 0)) (by decide +kernel))) (fun j hj => absurd hj (Nat.not_lt_zero _)) hA
  have hZ := va_Zof (v := .ref t) (hts0 _ (List.mem_append_right _ (List.mem_of_getElem? (i := 42) (by decide +kernel)))) (hts _ (List.mem_cons_of_mem _ mw_4)) ht hA
  have hU := vx_Zqof (hts0 _ (List.mem_append_right _ (List.mem_of_getElem? (i := 149) (by decide +kernel)))) (hts _ (List.mem_cons_of_mem _ mw_6)) (hs (.isRef (.static "java/lang/Throwable" "UNASSIGNED_STACK" "[Ljava/lang/StackTraceElement;")) (by decide +kernel)) hA
  have hN := vx_Zqof (hts0 _ (List.mem_append_right _ (List.mem_of_getElem? (i := 151) (by decide +kernel)))) (hts _ (List.mem_cons_of_mem _ mw_6)) (hs (.isRef (.static "java/lang/Throwable" "SUPPRESSED_SENTINEL" "Ljava/util/List;")) (by decide +kernel)) hA
  refine ⟨((fun k => match k with | 0 => dXN | 1 => dXT | 2 => dXM | _ => dXA, fun k => match k with | 0 => iXN | 1 => iXT | 2 => iXM | _ => iXA), s.heap.size, t, fun k => match k with | 0 => a0 | 1 => a1 | 2 => a2 | 3 => a3 | 4 => a4 | _ => mi), rfl, ⟨fun k q hq => ?_, fun k q hq => ?_⟩, fun w hw => va_Nw.of (mt_kind_tab (List.all_eq_true.mp mt_words_kind w hw)) (hts0 w (mt_words_in w hw)), List.forall_mem_cons.mpr ⟨mt_strOf (hts0 _ (List.mem_append_right _ (List.mem_of_getElem? (i := 163) (by decide +kernel)))) (hs (.exactly (.string "MeldTree" 111) "java/lang/String") (by decide +kernel)), List.forall_mem_cons.mpr ⟨mt_strOf (hts0 _ (List.mem_append_right _ (List.mem_of_getElem? (i := 193) (by decide +kernel)))) (hs (.exactly (.string "MeldTree" 113) "java/lang/String") (by decide +kernel)), List.forall_mem_cons.mpr ⟨mt_strOf (hts0 _ (List.mem_append_right _ (List.mem_of_getElem? (i := 207) (by decide +kernel)))) (hs (.exactly (.string "MeldTree" 117) "java/lang/String") (by decide +kernel)), List.forall_mem_cons.mpr ⟨mt_strOf (hts0 _ (List.mem_append_right _ (List.mem_of_getElem? (i := 343) (by decide +kernel)))) (hs (.exactly (.string "MeldTree" 57) "java/lang/String") (by decide +kernel)), List.forall_mem_cons.mpr ⟨mt_strOf (hts0 _ (List.mem_append_right _ (List.mem_of_getElem? (i := 357) (by decide +kernel)))) (hs (.exactly (.string "MeldTree" 64) "java/lang/String") (by decide +kernel)), List.forall_mem_cons.mpr ⟨mt_strOf (hts0 _ (List.mem_append_right _ (List.mem_of_getElem? (i := 372) (by decide +kernel)))) (hs (.exactly (.string "MeldTree" 73) "java/lang/String") (by decide +kernel)), fun _ z => nomatch z⟩⟩⟩⟩⟩⟩, hU, hN, hZ, ⟨_, hT⟩, hmi, va_Dc.of (hts0 _ (List.mem_append_right _ (List.mem_of_getElem? (i := 506) (by decide +kernel)))), va_AO.of (hts0 _ (List.mem_append_right _ (List.mem_of_getElem? (i := 292) (by decide +kernel)))), va_AO.of (hts0 _ (List.mem_append_right _ (List.mem_of_getElem? (i := 28) (by decide +kernel)))), List.forall_mem_cons.mpr ⟨va_Nc.of (hs (.not (.castable "java/lang/IllegalStateException" "java/lang/IndexOutOfBoundsException")) (by decide +kernel)), List.forall_mem_cons.mpr ⟨va_Nc.of (hs (.not (.castable "java/util/NoSuchElementException" "java/lang/IndexOutOfBoundsException")) (by decide +kernel)), List.forall_mem_cons.mpr ⟨va_Nc.of (hs (.not (.castable "java/util/NoSuchElementException" "java/lang/IllegalStateException")) (by decide +kernel)), fun _ z => nomatch z⟩⟩⟩⟩
  · have hk : k < 4 := (List.getElem?_eq_some_iff.mp hq).1
    rcases (show k = 0 ∨ k = 1 ∨ k = 2 ∨ k = 3 by omega) with rfl | rfl | rfl | rfl
    · cases (Option.some.inj hq)
      exact kXN
    · cases (Option.some.inj hq)
      exact kXT
    · cases (Option.some.inj hq)
      exact kXM
    · cases (Option.some.inj hq)
      exact kXA
  · have hk : k < 5 := (List.getElem?_eq_some_iff.mp hq).1
    rcases (show k = 0 ∨ k = 1 ∨ k = 2 ∨ k = 3 ∨ k = 4 by omega) with rfl | rfl | rfl | rfl | rfl
    · cases (Option.some.inj hq)
      exact o0
    · cases (Option.some.inj hq)
      exact o1
    · cases (Option.some.inj hq)
      exact o2
    · cases (Option.some.inj hq)
      exact o3
    · cases (Option.some.inj hq)
      exact o4
