/-! rows of my own over the kit's: a reference that may be null, a top renamed -/
section
variable {p : Program} {l : Launch} {e : Env} {R : Room} {s : State} {m : MethodId} {args : Array Value} {below : List Frame} {meth : Method} {c : Code} {H : Heap} {locs : List Loc} {cells slots : Nat} {Q : State → Prop} {cc : ByteArray} {pc : Nat} {ls : Array Slot} {rest : List Value}
theorem qa_cat (r : Option Nat) : (va_rf r).category = 1 := by cases r <;> rfl
theorem qa_ci (x : Int32) : (Value.int x).category = 1 := rfl
theorem qa_cl (x : Int64) : (Value.long x).category = 2 := rfl
theorem qa_cr (x : Nat) : (Value.ref x).category = 1 := rfl
theorem qa_cn : Value.null.category = 1 := rfl
theorem qa_sl0 : lg_sl [] = [] := rfl
theorem qa_sl1 {v : Value} (h : v.category = 1) (vs : List Value) : lg_sl (v :: vs) = .val v :: lg_sl vs := by
  simp [lg_sl, h]
theorem qa_sl2 {v : Value} (h : v.category = 2) (vs : List Value) : lg_sl (v :: vs) = .val v :: .second :: lg_sl vs := by
  simp [lg_sl, h]
theorem qa_ar1 {v : Value} (h : v.category = 1) (i : Nat) (vs : List Value) : lv_args i (v :: vs) = (i, v) :: lv_args (i + 1) vs := by
  simp [lv_args, h]
theorem qa_ar2 {v : Value} (h : v.category = 2) (i : Nat) (vs : List Value) : lv_args i (v :: vs) = (i, v) :: lv_args (i + 2) vs := by
  simp [lv_args, h]
theorem qa_i {x y : Int32} (h : x = y) (k : W p l e R s m args below meth c H locs cells slots Q (F0 m pc ls (.int y :: rest))) : W p l e R s m args below meth c H locs cells slots Q (F0 m pc ls (.int x :: rest)) := by
  rw [h]
  exact k
theorem qa_l {x y : Int64} (h : x = y) (k : W p l e R s m args below meth c H locs cells slots Q (F0 m pc ls (.long y :: rest))) : W p l e R s m args below meth c H locs cells slots Q (F0 m pc ls (.long x :: rest)) := by
  rw [h]
  exact k
theorem qa_q {x y : Option Nat} (h : x = y) (k : W p l e R s m args below meth c H locs cells slots Q (F0 m pc ls (va_rf y :: rest))) : W p l e R s m args below meth c H locs cells slots Q (F0 m pc ls (va_rf x :: rest)) := by
  rw [h]
  exact k
theorem qa_aload_n (hexec : p.tables.exec = Jvm.exec) (hb : c.code = cc) {k : Fin 4} {i : Nat} {r : Option Nat} (hdg : decode cc pc = .ok (.aload_n k, 1)) (hi : (k : Nat) = i) (hl : ls[i]? = some (.val (va_rf r)))
    (kk : W p l e R s m args below meth c H locs cells slots Q (F0 m (pc + 1) ls (va_rf r :: rest))) : W p l e R s m args below meth c H locs cells slots Q (F0 m pc ls rest) := by
  cases r with
  | none => exact lv_aload_nN hexec hb hdg hi hl kk
  | some a => exact lv_aload_n hexec hb hdg hi hl kk
theorem qa_aload (hexec : p.tables.exec = Jvm.exec) (hb : c.code = cc) {i : Nat} {r : Option Nat} (hdg : decode cc pc = .ok (.aload i, 2)) (hl : ls[i]? = some (.val (va_rf r)))
    (kk : W p l e R s m args below meth c H locs cells slots Q (F0 m (pc + 2) ls (va_rf r :: rest))) : W p l e R s m args below meth c H locs cells slots Q (F0 m pc ls rest) := by
  cases r with
  | none => exact lv_aloadN hexec hb hdg hl kk
  | some a => exact lv_aload hexec hb hdg hl kk
theorem qa_astore_n (hexec : p.tables.exec = Jvm.exec) (hb : c.code = cc) {k : Fin 4} {i nL : Nat} {r : Option Nat} {lv lv' : List (Nat × Value)} (hdg : decode cc pc = .ok (.astore_n k, 1)) (hi : (k : Nat) = i) (h : lv_has ls nL lv) (hn : i < nL) (hl : (i, va_rf r) :: lv.filter (fun q => !(q.1 == i) && !(q.1 + 1 == i && q.2.category == 2)) = lv')
    (kk : ∀ ls' : Array Slot, lv_has ls' nL lv' → W p l e R s m args below meth c H locs cells slots Q (F0 m (pc + 1) ls' rest)) : W p l e R s m args below meth c H locs cells slots Q (F0 m pc ls (va_rf r :: rest)) := by
  cases r with
  | none => exact lv_astore_nN hexec hb hdg hi h hn hl kk
  | some a => exact lv_astore_n hexec hb hdg hi h hn hl kk
theorem qa_astore (hexec : p.tables.exec = Jvm.exec) (hb : c.code = cc) {i nL : Nat} {r : Option Nat} {lv lv' : List (Nat × Value)} (hdg : decode cc pc = .ok (.astore i, 2)) (h : lv_has ls nL lv) (hn : i < nL) (hl : (i, va_rf r) :: lv.filter (fun q => !(q.1 == i) && !(q.1 + 1 == i && q.2.category == 2)) = lv')
    (kk : ∀ ls' : Array Slot, lv_has ls' nL lv' → W p l e R s m args below meth c H locs cells slots Q (F0 m (pc + 2) ls' rest)) : W p l e R s m args below meth c H locs cells slots Q (F0 m pc ls (va_rf r :: rest)) := by
  cases r with
  | none => exact lv_astoreN hexec hb hdg h hn hl kk
  | some a => exact lv_astore hexec hb hdg h hn hl kk
theorem qa_ifnull (hexec : p.tables.exec = Jvm.exec) (hb : c.code = cc) {r : Option Nat} {off : Int} {tgt : Nat} (hdg : decode cc pc = .ok (.ifnull off, 3)) (ht : (pc : Int) + off = (tgt : Int))
    (kt : r = none → W p l e R s m args below meth c H locs cells slots Q (F0 m tgt ls rest)) (kf : ∀ a, r = some a → W p l e R s m args below meth c H locs cells slots Q (F0 m (pc + 3) ls rest)) : W p l e R s m args below meth c H locs cells slots Q (F0 m pc ls (va_rf r :: rest)) := by
  cases r with
  | none => exact lv_ifnullN hexec hb hdg ht (kt rfl)
  | some a => exact lv_ifnull hexec hb hdg (kf a rfl)
theorem qa_ifnonnull (hexec : p.tables.exec = Jvm.exec) (hb : c.code = cc) {r : Option Nat} {off : Int} {tgt : Nat} (hdg : decode cc pc = .ok (.ifnonnull off, 3)) (ht : (pc : Int) + off = (tgt : Int))
    (kt : ∀ a, r = some a → W p l e R s m args below meth c H locs cells slots Q (F0 m tgt ls rest)) (kf : r = none → W p l e R s m args below meth c H locs cells slots Q (F0 m (pc + 3) ls rest)) : W p l e R s m args below meth c H locs cells slots Q (F0 m pc ls (va_rf r :: rest)) := by
  cases r with
  | none => exact lv_ifnonnullN hexec hb hdg (kf rfl)
  | some a => exact lv_ifnonnull hexec hb hdg ht (kt a rfl)
theorem qa_nar (n : String) (r : Option Nat) : narrow (.object n) (va_rf r) = va_rf r := by cases r <;> rfl
theorem qa_fit (n : String) (r : Option Nat) : fits (.object n) (va_rf r) = true := by cases r <;> rfl
end
/-! worlds by their members -/
section
variable {D : va_G} {cl : List vw_C} {A : Nat → Prop} {ws ws' : va_W} {H : Heap}
theorem qa_P (h : va_P D cl ws H) (hs : ∀ q, q ∈ ws' → q ∈ ws) : va_P D cl ws' H := fun k q hk => by
  obtain ⟨i, hi⟩ := List.getElem?_of_mem (hs q (List.mem_of_getElem? hk))
  exact h i q hi
theorem qa_D_iff : va_D A ws ↔ (ws.map Prod.fst).Nodup ∧ ∀ q, q ∈ ws → A q.1 := by
  constructor
  · intro h
    refine ⟨?_, fun q hq => ?_⟩
    · rw [List.nodup_iff_pairwise_ne, List.pairwise_iff_getElem]
      intro i j hi hj hij e
      rw [List.length_map] at hi hj
      have e1 : ws[i]? = some ws[i] := List.getElem?_eq_getElem hi
      have e2 : ws[j]? = some ws[j] := List.getElem?_eq_getElem hj
      have := h.1 i j _ _ e1 e2 (by simpa using e)
      omega
    · obtain ⟨i, hi⟩ := List.getElem?_of_mem hq
      exact h.2 i q hi
  · intro h
    refine ⟨fun i j p q hp hq e => ?_, fun k q hk => h.2 q (List.mem_of_getElem? hk)⟩
    have li : i < ws.length := (List.getElem?_eq_some_iff.mp hp).1
    exact (List.getElem?_inj (by rw [List.length_map]; exact li) h.1).mp (by rw [List.getElem?_map, List.getElem?_map, hp, hq]; simp [e])
/-- two arrays of one type are of one class -/
theorem qa_ty1 {U : State} {t1 t2 : List (ClassId × FieldType)} (h1 : va_K D cl t1 U) (h2 : va_K D cl t2 U) {i j : Nat} {c1 c2 : ClassId} {ty : FieldType} (e1 : t1[i]? = some (c1, ty)) (e2 : t2[j]? = some (c2, ty)) : c1 = c2 := by
  have r1 := (h1.2 i _ e1).2
  have r2 := (h2.2 j _ e2).2
  cases ty with
  | object C =>
    obtain ⟨k1, p1, -, -, -, f1⟩ := r1
    obtain ⟨k2, p2, -, -, -, f2⟩ := r2
    exact Option.some.inj (f1.symm.trans f2)
  | _ =>
    exact Option.some.inj ((show U.vm.findClass _ = some c1 from r1).symm.trans r2)
end
/-! a loop whose heap stays, and one whose heap moves -/
section
variable {p : Program} {l : Launch} {e : Env} {R : Room} {s : State} {m : MethodId} {args : Array Value} {below : List Frame} {meth : Method} {c : Code} {H : Heap} {locs : List Loc} {cells slots : Nat} {Q : State → Prop}
theorem qa_for {V : Type} {pc nL : Nat} {st : List Value} (f : V → Nat) (L : V → List (Nat × Value)) (inv : V → Prop)
    (step : ∀ (v : V) (ls : Array Slot), inv v → lv_has ls nL (L v) → (∀ (v' : V) (ls' : Array Slot), f v' < f v → inv v' → lv_has ls' nL (L v') → W p l e R s m args below meth c H locs cells slots Q (F0 m pc ls' st)) → W p l e R s m args below meth c H locs cells slots Q (F0 m pc ls st))
    (v : V) (ls : Array Slot) (hi : inv v) (hl : lv_has ls nL (L v)) : W p l e R s m args below meth c H locs cells slots Q (F0 m pc ls st) := by
  have key : ∀ (n : Nat) (v : V) (ls : Array Slot), f v = n → inv v → lv_has ls nL (L v) → W p l e R s m args below meth c H locs cells slots Q (F0 m pc ls st) := by
    intro n
    induction n using Nat.strongRecOn with
    | ind n ih =>
      intro v ls hn hi hl
      exact step v ls hi hl (fun v' ls' hlt hi' hl' => ih (f v') (by omega) v' ls' rfl hi' hl')
  exact key (f v) v ls rfl hi hl
theorem qa_forH {V : Type} {pc nL : Nat} {st : List Value} (f : V → Nat) (L : V → List (Nat × Value)) (inv : V → Heap → List Loc → Prop) (cf sf : V → Nat)
    (step : ∀ (v : V) (ls : Array Slot) (H : Heap) (locs : List Loc), inv v H locs → lv_has ls nL (L v) → (∀ (v' : V) (ls' : Array Slot) (H' : Heap) (locs' : List Loc), f v' < f v → inv v' H' locs' → lv_has ls' nL (L v') → W p l e R s m args below meth c H' locs' (cf v') (sf v') Q (F0 m pc ls' st)) → W p l e R s m args below meth c H locs (cf v) (sf v) Q (F0 m pc ls st))
    (v : V) (ls : Array Slot) (H : Heap) (locs : List Loc) (hi : inv v H locs) (hl : lv_has ls nL (L v)) : W p l e R s m args below meth c H locs (cf v) (sf v) Q (F0 m pc ls st) := by
  have key : ∀ (n : Nat) (v : V) (ls : Array Slot) (H : Heap) (locs : List Loc), f v = n → inv v H locs → lv_has ls nL (L v) → W p l e R s m args below meth c H locs (cf v) (sf v) Q (F0 m pc ls st) := by
    intro n
    induction n using Nat.strongRecOn with
    | ind n ih =>
      intro v ls H locs hn hi hl
      exact step v ls H locs hi hl (fun v' ls' H' locs' hlt hi' hl' => ih (f v') (by omega) v' ls' H' locs' rfl hi' hl')
  exact key (f v) v ls H locs rfl hi hl
end
section
variable {p : Program} {l : Launch} {e : Env} {R : Room} {s : State} {m : MethodId} {args : Array Value} {below : List Frame} {meth : Method} {c : Code} {H : Heap} {locs : List Loc} {cells slots : Nat} {Q : State → Prop} {cc : ByteArray} {pc : Nat} {ls : Array Slot} {rest : List Value} {D : va_G} {cl : List vw_C} {A : Nat → Prop} {tys : List (ClassId × FieldType)} {ws : va_W} {H0 : Heap} {a : Nat}
/-- aastore of a reference that may be null -/
theorem qa_astq (hexec : p.tables.exec = Jvm.exec) (hb : c.code = cc) {r' : vw_C} (hK : va_K D cl tys s) (hP : va_P D cl ws H) (hD : va_D A ws) (hS : va_S A H0 H locs) (q0 t0 ci : Nat) {cA : ClassId} {n : Nat} {v : Option Nat} {f : Nat → Option Nat} (ha : ws[q0]? = some (a, .inl (cA, n, .inr (.inr (.inr (.inr f)))))) (ht : tys[t0]? = some (cA, .object r'.1)) (hc : cl[ci]? = some r') (hv : ∀ x, v = some x → ∃ (k : Nat) (vs : List Value), ws[k]? = some (x, .inr (ci, vs))) {i : Int32} (hin : vp_in i n) (hdg : decode cc pc = .ok (.aastore, 1))
    (kk : ∀ (H1 : Heap) (locs1 : List Loc), va_P D cl (ws.set q0 (a, .inl (cA, n, .inr (.inr (.inr (.inr (va_up f i.toNatClampNeg v))))))) H1 → va_D A (ws.set q0 (a, .inl (cA, n, .inr (.inr (.inr (.inr (va_up f i.toNatClampNeg v))))))) → va_S A H0 H1 locs1 → W p l e R s m args below meth c H1 locs1 cells slots Q (F0 m (pc + 1) ls rest)) : W p l e R s m args below meth c H locs cells slots Q (F0 m pc ls (va_rf v :: .int i :: .ref a :: rest)) := by
  cases v with
  | none => exact va_astqN hexec hb hK hP hD hS q0 t0 ha ht hin hdg kk
  | some x =>
    obtain ⟨k, vs, hk⟩ := hv x rfl
    exact va_astq hexec hb hK hP hD hS q0 t0 k ci ha ht hk hc hin hdg kk
end
