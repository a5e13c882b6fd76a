/-! what every contract takes as given of the machine; the world; its moves -/
/-- the ghosts: numbers of classes and slots; where the made cells begin; the empty list's array; the classes of Object[], Node[], int[], boolean[], long[], and (place 5) the Class object of Object[] -/
abbrev mt_G : Type := va_G × Nat × Nat × (Nat → ClassId)
def mt_A (g : mt_G) : Nat → Prop := fun q => g.2.1 ≤ q
def mt_words : List Cond := [(Jvm.Cond.castable "java/lang/IndexOutOfBoundsException" "java/lang/IndexOutOfBoundsException"),
  (Jvm.Cond.declares (⟨"java/lang/RuntimeException", "<init>", "()V"⟩ : MethodName)),
  (Jvm.Cond.declares (⟨"java/lang/RuntimeException", "<init>", "(Ljava/lang/String;)V"⟩ : MethodName)),
  (Jvm.Cond.declares (⟨"java/lang/Exception", "<init>", "()V"⟩ : MethodName)),
  (Jvm.Cond.declares (⟨"java/lang/Exception", "<init>", "(Ljava/lang/String;)V"⟩ : MethodName)),
  (Jvm.Cond.declares (⟨"java/lang/Throwable", "<init>", "()V"⟩ : MethodName)),
  (Jvm.Cond.declares (⟨"java/lang/Throwable", "<init>", "(Ljava/lang/String;)V"⟩ : MethodName)),
  (Jvm.Cond.castable "java/lang/IllegalStateException" "java/lang/IllegalStateException"),
  (Jvm.Cond.methodLinkNest "MeldTree" (36 : Nat) yXN_init "MeldTree"),
  (Jvm.Cond.fieldLinkNest "MeldTree" (150 : Nat) "MeldTree$Node" "height" "I" "MeldTree"),
  (Jvm.Cond.fieldLinkNest "MeldTree" (147 : Nat) "MeldTree$Node" "first" "I" "MeldTree"),
  (Jvm.Cond.fieldLinkNest "MeldTree" (138 : Nat) "MeldTree$Node" "low" "LMeldTree$Node;" "MeldTree"),
  (Jvm.Cond.fieldLinkNest "MeldTree" (142 : Nat) "MeldTree$Node" "high" "LMeldTree$Node;" "MeldTree"),
  (Jvm.Cond.fieldLinkNest "MeldTree" (67 : Nat) "MeldTree$Node" "value" "I" "MeldTree"),
  (Jvm.Cond.fieldLinkNest "MeldTree" (159 : Nat) "MeldTree$Node" "size" "I" "MeldTree"),
  (Jvm.Cond.fieldLinkNest "MeldTree" (161 : Nat) "MeldTree$Node" "total" "J" "MeldTree"),
  (Jvm.Cond.methodLinkNest "MeldTree" (131 : Nat) yXN_init_2 "MeldTree"),
  (Jvm.Cond.methodLinkNest "MeldTree$Node" (33 : Nat) yXT_sizeOf "MeldTree"),
  (Jvm.Cond.methodLinkNest "MeldTree$Node" (39 : Nat) yXT_totalOf "MeldTree"),
  (Jvm.Cond.castable "java/util/NoSuchElementException" "java/util/NoSuchElementException"),
  (Jvm.Cond.castable "MeldTree$Node" "MeldTree$Node"),
  (Jvm.Cond.declares (⟨"java/lang/Object", "getClass", "()Ljava/lang/Class;"⟩ : MethodName)),
  (Jvm.Cond.castable "MeldTree" "java/lang/Object"),
  (Jvm.Cond.castable "MeldTreeModel" "java/lang/Object"),
  (Jvm.Cond.castable "MeldTree$Node" "java/lang/Object"),
  (Jvm.Cond.castable "java/lang/String" "java/lang/Object")]
def mt_strs : List (String × Nat × String) := [("MeldTree", 111, "no such version"), ("MeldTree", 113, "keys are 0 to 255"), ("MeldTree", 117, "there are 600 versions"), ("MeldTree", 57, "the version has not this key"), ("MeldTree", 64, "keys are parted at 0 to 256"), ("MeldTree", 73, "the version has not so many keys")]
def mt_ncs : List (String × String) := [("java/lang/IllegalStateException", "java/lang/IndexOutOfBoundsException"), ("java/util/NoSuchElementException", "java/lang/IndexOutOfBoundsException"), ("java/util/NoSuchElementException", "java/lang/IllegalStateException")]
def mt_kind : Cond → Bool
  | .fieldLinkNest _ _ _ _ _ _ => true
  | .methodLinkNest _ _ _ _ => true
  | .declares _ => true
  | .castable _ _ => true
  | _ => false
theorem mt_kind_warm {w : Cond} (hk : mt_kind w = true) {s U : State} (hW : s.WarmedH U.vm) (h : va_Nw w s) : va_Nw w U := by
  cases w with
  | fieldLinkNest => exact va_Nw.warmF hW h
  | methodLinkNest => exact va_Nw.warmM hW h
  | declares => exact va_Nw.warmD hW h
  | castable => exact va_Nw.warmC hW h
  | _ => cases hk
theorem mt_kind_tab {w : Cond} (hk : mt_kind w = true) : w.onTables = true := by
  cases w with
  | fieldLinkNest => rfl
  | methodLinkNest => rfl
  | declares => rfl
  | castable => rfl
  | _ => cases hk
theorem mt_words_kind : mt_words.all mt_kind = true := by decide +kernel
def mt_tys (g : mt_G) : List (ClassId × FieldType) := [(g.2.2.2 0, .object "java/lang/Object"), (g.2.2.2 1, .object "MeldTree$Node"), (g.2.2.2 2, .int), (g.2.2.2 3, .boolean), (g.2.2.2 4, .long)]
/-- what is given of the machine and of the cells that were there before -/
def mt_E (g : mt_G) (U : State) : Prop :=
  va_K g.1 vwCl (mt_tys g) U ∧ (∀ w ∈ mt_words, va_Nw w U) ∧ (∀ q ∈ mt_strs, ∃ a, vk_R q.1 q.2.1 q.2.2 a U) ∧
  vx_Zq Bundle.tN "UNASSIGNED_STACK" Bundle.steD (mt_A g) U U.heap ∧ vx_Zq Bundle.tN "SUPPRESSED_SENTINEL" Bundle.listD (mt_A g) U U.heap ∧
  va_Z "java/util/ArrayList" "DEFAULTCAPACITY_EMPTY_ELEMENTDATA" "[Ljava/lang/Object;" (.ref g.2.2.1) (mt_A g) U U.heap ∧ (∃ f, va_T (.object "java/lang/Object") g.2.2.1 0 f (mt_A g) U U.heap) ∧
  va_Mi "[Ljava/lang/Object;" (g.2.2.2 5) U ∧ va_Dc U ∧ va_AO "java/lang/Object" U ∧ va_AO "MeldTree$Node" U ∧ ∀ q ∈ mt_ncs, va_Nc q.1 q.2 U
theorem mt_E.k {g : mt_G} {U : State} (h : mt_E g U) : va_K g.1 vwCl [(g.2.2.2 0, .object "java/lang/Object"), (g.2.2.2 1, .object "MeldTree$Node"), (g.2.2.2 2, .int), (g.2.2.2 3, .boolean), (g.2.2.2 4, .long)] U := h.1
theorem mt_E.w {g : mt_G} {U : State} (h : mt_E g U) (w : Cond) (hw : w ∈ mt_words) : va_Nw w U := h.2.1 w hw
theorem mt_E.s {g : mt_G} {U : State} (h : mt_E g U) (R : String) (k : Nat) (tx : String) (hq : (R, k, tx) ∈ mt_strs) : ∃ a, vk_R R k tx a U := h.2.2.1 _ hq
theorem mt_E.u {g : mt_G} {U : State} (h : mt_E g U) : vx_Zq Bundle.tN "UNASSIGNED_STACK" Bundle.steD (mt_A g) U U.heap := h.2.2.2.1
theorem mt_E.n {g : mt_G} {U : State} (h : mt_E g U) : vx_Zq Bundle.tN "SUPPRESSED_SENTINEL" Bundle.listD (mt_A g) U U.heap := h.2.2.2.2.1
theorem mt_E.z {g : mt_G} {U : State} (h : mt_E g U) : va_Z "java/util/ArrayList" "DEFAULTCAPACITY_EMPTY_ELEMENTDATA" "[Ljava/lang/Object;" (.ref g.2.2.1) (mt_A g) U U.heap := h.2.2.2.2.2.1
theorem mt_E.t {g : mt_G} {U : State} (h : mt_E g U) : ∃ f, va_T (.object "java/lang/Object") g.2.2.1 0 f (mt_A g) U U.heap := h.2.2.2.2.2.2.1
theorem mt_E.mi {g : mt_G} {U : State} (h : mt_E g U) : va_Mi "[Ljava/lang/Object;" (g.2.2.2 5) U := h.2.2.2.2.2.2.2.1
theorem mt_E.dc {g : mt_G} {U : State} (h : mt_E g U) : va_Dc U := h.2.2.2.2.2.2.2.2.1
theorem mt_E.ao {g : mt_G} {U : State} (h : mt_E g U) : va_AO "java/lang/Object" U := h.2.2.2.2.2.2.2.2.2.1
theorem mt_E.an {g : mt_G} {U : State} (h : mt_E g U) : va_AO "MeldTree$Node" U := h.2.2.2.2.2.2.2.2.2.2.1
theorem mt_E.nc {g : mt_G} {U : State} (h : mt_E g U) (C T : String) (hq : (C, T) ∈ mt_ncs) : va_Nc C T U := h.2.2.2.2.2.2.2.2.2.2.2 _ hq
theorem mt_E.warm {g : mt_G} {s U : State} (h : mt_E g s) (hW : s.WarmedH U.vm) (hk : ∀ a : Nat, a < s.heap.size → ¬ mt_A g a → U.heap[a]? = s.heap[a]?) : mt_E g U := by
  obtain ⟨h1, h2, h3, h4, h5, h6, ⟨f, h7⟩, h8, h9, h10, h11, h12⟩ := h
  refine ⟨va_K.moved hW.alike h1, fun w hw => mt_kind_warm (List.all_eq_true.mp mt_words_kind w hw) hW (h2 w hw), fun q hq => ?_, vx_Zq.moved hW.alike (h4.kept hk), vx_Zq.moved hW.alike (h5.kept hk), va_Z.moved hW.alike (h6.kept hk), ⟨f, va_T.moved hW.alike (h7.kept hk)⟩, va_Mi.moved hW.alike h8, va_Dc.moved hW.alike h9, va_AO.moved hW.alike h10, va_AO.moved hW.alike h11, fun q hq => va_Nc.moved hW.alike (h12 q hq)⟩
  obtain ⟨a, ha⟩ := h3 q hq
  exact ⟨a, vk_R.warm hW ha⟩
/-- the world ws, and all that is given -/
def mt_I (g : mt_G) (ws : va_W) (U : State) : Prop := mt_E g U ∧ g.2.1 ≤ U.heap.size ∧ va_P g.1 vwCl ws U.heap ∧ va_D (mt_A g) ws
def mt_Pc (g : mt_G) (ws : va_W) (av : List Value) : Array Value → State → Prop := va_Pc av (mt_I g ws)
/-- the world behind a method -/
def mt_B (g : mt_G) (ws : va_W) (t : State) : Prop := va_P g.1 vwCl ws t.heap ∧ va_D (mt_A g) ws
theorem mt_I.calling {g : mt_G} {ws : va_W} {U : State} {f : JFrame} {mk : MethodId} {a : Array Value} (h : mt_I g ws U) : mt_I g ws (U.calling f mk a) := by
  obtain ⟨h1, h2, h3, h4⟩ := h
  exact ⟨h1.warm (U := U.calling f mk a) (State.WarmedH.refl U) (fun _ _ _ => rfl), h2, h3, h4⟩
theorem mt_blind {g : mt_G} {ws : va_W} {av : List Value} : FrameBlind (mt_Pc g ws av) := fun a U f mk h => ⟨h.1, h.2.calling⟩
theorem mt_at {g : mt_G} {ws : va_W} {s U : State} {H : Heap} {locs : List Loc} (hE : mt_E g s) (hz : g.2.1 ≤ s.heap.size) (hS : va_S (mt_A g) s.heap H locs) (hP : va_P g.1 vwCl ws H) (hD : va_D (mt_A g) ws) (hU : U.heap = H) (hW : s.WarmedH U.vm) : mt_I g ws U := by
  subst hU
  exact ⟨hE.warm hW hS.2.1, Nat.le_trans hz hS.1, hP, hD⟩
theorem mt_preS {g : mt_G} {ws : va_W} {s : State} {H : Heap} {locs : List Loc} {As : List Value} (hE : mt_E g s) (hz : g.2.1 ≤ s.heap.size) (hS : va_S (mt_A g) s.heap H locs) (hP : va_P g.1 vwCl ws H) (hD : va_D (mt_A g) ws) : PreS s H (mt_Pc g ws As) As :=
  ⟨mt_blind, fun U hU hW => ⟨rfl, mt_at hE hz hS hP hD hU hW⟩⟩
theorem mt_preV {g : mt_G} {ws : va_W} {s : State} {H : Heap} {locs : List Loc} {As : List Value} {C : String} {b : Addr} (hE : mt_E g s) (hz : g.2.1 ≤ s.heap.size) (hS : va_S (mt_A g) s.heap H locs) (hP : va_P g.1 vwCl ws H) (hD : va_D (mt_A g) ws) (hr : ∃ cell : Cell, H[b]? = some cell ∧ cell.vm.isStatics = false ∧ s.vm.findClass C = some cell.cls) : PreV s H C b (mt_Pc g ws (.ref b :: As)) As :=
  ⟨mt_blind, hr, fun U hU hW => ⟨rfl, mt_at hE hz hS hP hD hU hW⟩⟩
/-- nothing that was there has changed -/
def mt_same (s : State) (H : Heap) : Prop := s.heap.size ≤ H.size ∧ ∀ q : Nat, q < s.heap.size → H[q]? = s.heap[q]?
theorem mt_same.rf {s : State} : mt_same s s.heap := ⟨Nat.le_refl _, fun _ _ => rfl⟩
theorem mt_same.step {s : State} {H H1 : Heap} (h : mt_same s H) (hz : H.size ≤ H1.size) (hk : ∀ q : Nat, q < H.size → ¬ (fun _ : Nat => False) q → H1[q]? = H[q]?) : mt_same s H1 :=
  ⟨Nat.le_trans h.1 hz, fun q hq => (hk q (Nat.lt_of_lt_of_le hq h.1) (fun z => z)).trans (h.2 q hq)⟩
theorem mt_same.F {s t : State} {H : Heap} (h : mt_same s H) (ht : t.heap = H) : va_F (fun _ => False) s t := by
  subst ht
  exact ⟨h.1, fun q hq _ => h.2 q hq⟩
theorem mt_same.ext {s t : State} {H : Heap} (h : mt_same s H) (h1 : H.size ≤ t.heap.size) (h2 : ∀ q : Nat, q < H.size → t.heap[q]? = H[q]?) : va_F (fun _ => False) s t :=
  ⟨Nat.le_trans h.1 h1, fun q hq _ => (h2 q (Nat.lt_of_lt_of_le hq h.1)).trans (h.2 q hq)⟩
theorem mt_keepP {D : va_G} {cl : List vw_C} {ws : va_W} {H H1 : Heap} (hk : ∀ q : Nat, q < H.size → ¬ (fun _ : Nat => False) q → H1[q]? = H[q]?) (hP : va_P D cl ws H) : va_P D cl ws H1 :=
  hP.kept (fun k q hq => hk q.1 (hP k q hq).lt (fun z => z))
def mt_ver (v : Int32) (cn : Nat) : Prop := 0 ≤ v ∧ v < nI cn
def mt_key (k : Int32) : Prop := 0 ≤ k ∧ k < nI 256
theorem mt_ver_nat {v : Int32} {cn : Nat} (hcn : cn ≤ 600) (h : mt_ver v cn) : ∃ j, j < cn ∧ v = nI j := by
  obtain ⟨j, hj, rfl⟩ := nI_of (x := v) (Int32.not_lt.mpr h.1)
  exact ⟨j, (nI_ltI hj (by omega)).mp h.2, rfl⟩
theorem mt_ver_of {v : Int32} {cn j : Nat} (hcn : cn ≤ 600) (hj : j < cn) (e : v = nI j) : mt_ver v cn := by
  subst e
  exact ⟨nI_pos' (by omega), nI_lt hj (by omega)⟩
theorem mt_key_nat {k : Int32} (h : mt_key k) : ∃ i, i < 256 ∧ k = nI i := by
  obtain ⟨i, hi, rfl⟩ := nI_of (x := k) (Int32.not_lt.mpr h.1)
  exact ⟨i, (nI_ltI hi (by omega)).mp h.2, rfl⟩
theorem mt_key_of {k : Int32} {i : Nat} (hi : i < 256) (e : k = nI i) : mt_key k := by
  subst e
  exact ⟨nI_pos' (by omega), nI_lt hi (by omega)⟩
/-- a node's cell -/
abbrev mt_nE (n : mt_N) : va_E := .inr (0, [.int n.1, .int n.2.1, va_rf n.2.2.1, va_rf n.2.2.2.1, .int n.2.2.2.2.1, .int n.2.2.2.2.2.1, .long n.2.2.2.2.2.2])
def mt_pool (ws : va_W) (LP : List Nat) (nf : Nat → mt_N) : Prop := ∀ a, a ∈ LP → ∃ k : Nat, ws[k]? = some (a, mt_nE (nf a))
theorem mt_pool.app {ws : va_W} {LP : List Nat} {nf : Nat → mt_N} (h : mt_pool ws LP nf) (Z : va_W) : mt_pool (ws ++ Z) LP nf := fun a ha => by
  obtain ⟨k, hk⟩ := h a ha
  exact ⟨k, by rw [List.getElem?_append_left (List.getElem?_eq_some_iff.mp hk).1]; exact hk⟩
theorem mt_pool_pl (X : va_W) (LP : List Nat) (nf : Nat → mt_N) : mt_pool (X ++ va_pl LP (fun a => mt_nE (nf a))) LP nf := fun a ha => va_pl_get (f := fun a => mt_nE (nf a)) ha
theorem qa_cmp (x : Int64) : lg_cmp x x = 0 := by simp [lg_cmp]
theorem qa_lastg {α : Type} (l : List α) (a : α) : (l ++ [a])[l.length]? = some a := by simp
theorem qa_lasts {α : Type} (l : List α) (a b : α) : (l ++ [a]).set l.length b = l ++ [b] := by simp
theorem at_66 : ∀ w ∈ (vx_atS RXT 66 "java/lang/IndexOutOfBoundsException" ["java/lang/RuntimeException", "java/lang/Exception"]).filter goodWord, w ∈ mt_all := by decide +kernel
theorem at_119 : ∀ w ∈ (vx_atS RXT 119 "java/lang/IllegalStateException" ["java/lang/RuntimeException", "java/lang/Exception"]).filter goodWord, w ∈ mt_all := by decide +kernel
