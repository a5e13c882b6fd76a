section
/-! ===== BEGIN words of one list among another's, by their places ===== -/
theorem goodIn_r {big : List Cond} (ws : List Cond) (ps : List Nat) (hp : ws = ps.filterMap (fun i => big[i]?)) (h : ws.all goodWord = true) : GoodIn big ws := by
  intro w hw
  have h1 := List.all_eq_true.mp h w hw
  rw [hp] at hw
  obtain ⟨i, -, hi⟩ := List.mem_filterMap.mp hw
  have hm : w ∈ big := by first | exact List.mem_of_getElem? hi | exact List.getElem?_mem hi
  exact ⟨hm, good_of_word h1⟩
theorem goodIn_app {big a b : List Cond} (ha : GoodIn big a) (hb : GoodIn big b) : GoodIn big (a ++ b) := fun w h => (List.mem_append.mp h).elim (ha w) (hb w)
theorem goodIn_ca {big a b : List Cond} {c : Cond} (ha : GoodIn big (c :: a)) (hb : GoodIn big b) : GoodIn big (c :: (a ++ b)) := fun w h => (List.mem_cons.mp h).elim (fun e => ha w (List.mem_cons.mpr (Or.inl e))) (fun h => (List.mem_append.mp h).elim (fun h => ha w (List.mem_cons.mpr (Or.inr h))) (hb w))
theorem goodIn_sub {big ws : List Cond} (hm : ∀ w ∈ ws, w ∈ big) (h : ws.all goodWord = true) : GoodIn big ws := fun w hw => ⟨hm w hw, good_of_word (List.all_eq_true.mp h w hw)⟩
/-! ===== END ===== -/

/-! ===== BEGIN exceptions that leave a method, and their catching by the caller (launches without stack traces) ===== -/
section VXA
/-! The laws vx_back, vx_callV, vx_callS, vx_callSW, vx_throw0, vx_throwS follow proofs of the library, with one case more: JvmDerived/Free/Laws.lean (Back.of_free), Shelf42/LK1.lean (callV, callS), Shelf/KitTraced.lean (throwNew0V, throwNewS). -/
/-- where a method has thrown q: the class by its name, the cell, what was written, the world -/
def vx_T (XC : String → State → State → Prop) (st : State) (q : Addr) (t : State) (mc ms : Nat) (free : Addr → Prop) : Prop :=
  ∃ (E : String) (ce : Cell) (L : List Loc), XC E st t ∧ t.heap[q]? = some ce ∧ ce.vm = .none ∧ st.vm.findClass E = some ce.cls ∧ st.WarmedH t.vm ∧ st.sameButNew ({ t with vm := st.vm } : State) L mc ms ∧ ∀ z ∈ L, free z.base
def vx_Q (Qc : Array Value → State → Outcome → State → Prop) (XC : String → State → State → Prop) (mc ms : Nat) (free : Addr → Prop) : Array Value → State → Outcome → State → Prop := fun a st o t =>
  (Qc a st o t ∧ ∃ L, FrameEnd st o t L mc ms ∧ ∀ q ∈ L, free q.base) ∨ ∃ q, o = .threw q ∧ vx_T XC st q t mc ms free
/-- a callee that returns or throws -/
def vx_Met (l : Launch) (y : MethodName) (ws : List Cond) (rm : Room) (Pc : Array Value → State → Prop) (Qc : Array Value → State → Outcome → State → Prop) (XC : String → State → State → Prop) (mc ms : Nat) (free : Addr → Prop) : Prop :=
  MetFree l y (headSpec ws rm) Pc (fun _ _ _ _ _ => True) (vx_Q Qc XC mc ms free)
def vx_Post (XC : String → State → State → Prop) (mc ms : Nat) (free : Addr → Prop) : Pt → Array Value → Addr → Pt → Prop := fun A a q B =>
  ∃ (g : JFrame) (mk : MethodId) (t : State) (L : List Loc) (E : String) (ce : Cell), B.U.heap = t.heap ∧ B.U.vm = t.vm ∧ XC E (A.U.calling g mk a) t ∧ t.heap[q]? = some ce ∧ ce.vm = .none ∧ A.U.vm.findClass E = some ce.cls ∧ B.locs = A.locs ++ L ∧ (∀ z ∈ L, free z.base) ∧ B.cells = A.cells + mc ∧ B.slots = A.slots + ms
def vx_Back (l : Launch) (R : Room) (p : Program) (e : Env) (below : List Frame) (s : State) (sargs : Array Value) (y : MethodName) (len W9 : Nat)
    (Pre : Pt → Array Value → Prop) (Post : Pt → Array Value → Option Value → Pt → Prop) (PostX : Pt → Array Value → Addr → Pt → Prop) : Prop :=
  ∀ (m : MethodId) (meth : Method) (c : Code) (A : Pt) (g : JFrame) (ig : Instr) (mk : MethodId) (a : Array Value),
    Stand p l e R s m sargs below meth c A.U A.locs A.cells A.slots → g.method = m → g.locals.size = c.maxLocals → decode c.code g.pc = .ok (ig, len) →
    2 * g.monitorRoom + (g.stack.map fun v => v.category).sum ≤ W9 → A.U.methodNamed? y = some mk → Pre A a →
    (∃ (v : Option Value) (B : Pt), Stand p l e R s m sargs below meth c B.U B.locs B.cells B.slots ∧ Post A a v B ∧
      Steps p.tables e below (doInvoke e (A.U.setTop g) [] mk a).1 (B.U.setTop { g with pc := g.pc + len, stack := v.toList ++ g.stack })) ∨
    (∃ (q : Addr) (B : Pt), Stand p l e R s m sargs below meth c B.U B.locs B.cells B.slots ∧ PostX A a q B ∧
      Steps p.tables e below (doInvoke e (A.U.setTop g) [] mk a).1 ((B.U.setTop g).pushFrame (.throwing q)))
section Payer
variable {l : Launch} {R : Room} {p : Program} {e : Env} {below : List Frame} {s : State} {sargs : Array Value} {y : MethodName} {len W9 : Nat}
theorem vx_back {ws : List Cond} {rm : Room} {Pc : Array Value → State → Prop} {Qc : Array Value → State → Outcome → State → Prop} {XC : String → State → State → Prop} {mc ms : Nat} {free : Addr → Prop} {bytes : ByteArray} {maxL : Nat} {ret : Option FieldType}
    (hM : vx_Met l y ws rm Pc Qc XC mc ms free) (hblind : FrameBlind Pc) (hrc : rm.cells = mc) (hrs : rm.slots = ms)
    (hframes : rm.frames + 1 ≤ R.frames) (hlocals : W9 + (maxL + 11) + rm.locals ≤ R.locals)
    (hws : ∀ w ∈ ws, ∀ a' U, s.WarmedH U.vm → w.before a' U = true) (hcode : Cond.code y bytes maxL ret ∈ ws) (hinit : ∀ a' U, s.WarmedH U.vm → (Cond.initialized y.cls).before a' U = true) :
    vx_Back l R p e below s sargs y len W9 (PreOf R mc ms Pc) (PostOf Qc mc ms free) (vx_Post XC mc ms free) := by
  intro m meth c A g ig mk a X hg hsize hdg hW hn hp
  have h1 : (headSpec ws rm).pre.before a A.U = true := atoms_intro fun w hw => hws w hw _ _ X.warmed
  have h2 : (Cond.code y bytes maxL ret).before a A.U = true := hws _ hcode _ _ X.warmed
  have h3 : (Cond.initialized y.cls).before a A.U = true := hinit _ _ X.warmed
  have h4 : A.cells + (headSpec ws rm).room.cells ≤ R.cells := by rw [show (headSpec ws rm).room.cells = mc from hrc]; exact hp.1
  have h5 : A.slots + (headSpec ws rm).room.slots ≤ R.slots := by rw [show (headSpec ws rm).room.slots = ms from hrs]; exact hp.2.1
  have hPc : Pc a (A.U.calling g mk a) := hblind _ _ _ _ hp.2.2
  obtain ⟨U, Ls, c0, s0⟩ := A
  dsimp only [Pt.U, Pt.locs, Pt.cells, Pt.slots] at h1 h2 h3 h4 h5 X hn hPc ⊢
  obtain ⟨methY, cY, hmY, hcY, -, hlY, -, -, -, -⟩ := Cond.code_spec hn h2
  obtain ⟨kY, hkY, -⟩ := className_of_methodNamed hn
  have hinitY : kY.init = .initialized := Cond.initialized_spec (findClass_of_methodNamed hn) hkY h3
  have h : At U g.method c below := by rw [hg]; exact X.here
  have hlocals9 : W9 + (maxL + 11) + (headSpec ws rm).room.locals ≤ R.locals := hlocals
  have happ : (headSpec ws rm).appliesLoose y e.platform (U.calling g mk a) = true :=
    Spec.appliesLoose_calling (g := g) h hdg hn hkY hinitY
      (X.room_calling (g := g) (R' := (headSpec ws rm).room) hsize hmY hcY hframes (by rw [hlY]; omega) h4 h5) h1
  obtain ⟨mid, hmid⟩ := h.above
  have hfr : (U.setTop g).frames = (.java g :: mid) ++ below := by rw [State.frames_setTop' g h.top, hmid]; rfl
  obtain ⟨o, s₂, hsteps, -, hend, hq⟩ := Steps.callFree hM p X.admits X.cas X.clock (acts := []) hfr happ hPc trivial
  have hq' : vx_Q Qc XC mc ms free a (U.calling g mk a) o s₂ := hq
  rw [State.frames_setTop' g h.top] at hend
  obtain ⟨g₀, hg0⟩ := Option.isSome_iff_exists.mp h.top
  obtain ⟨r, hr⟩ := State.topJava?_eq_some.mp hg0
  have hr' : (({ U with heap := s₂.heap, slotsUsed := s₂.slotsUsed } : State).setVm s₂.vm).frames = .java g₀ :: r := hr
  rcases hq' with ⟨hqc, L, hfe, hL⟩ | ⟨q, rfl, E, ce, L, hx, hce, hcv, hcl, hW₂, hsm, hL⟩
  · obtain ⟨⟨v, rfl⟩, hW₂, e2, q2, q3, q4, q5, q6⟩ := id hfe
    have e3 : s₂ = ({ (U.calling g mk a).setFrames s₂.frames with heap := s₂.heap, slotsUsed := s₂.slotsUsed } : State).setVm s₂.vm := by
      have : s₂ = ({ s₂ with vm := (U.calling g mk a).vm } : State).setVm s₂.vm := rfl
      rw [e2] at this
      exact this
    obtain ⟨c₂, i₂, len₂, hc₂, hd₂, hf₂⟩ := hend
    have hW' : U.WarmedH s₂.vm := hW₂
    have hcc : c₂ = c := by
      have h1 : s₂.code? g.method = U.code? g.method := by
        rw [State.code?_eq, State.code?_eq, hW'.alike.method?]
      exact Option.some.inj (hc₂.symm.trans (h1.trans h.code))
    subst hcc
    have hlen : len₂ = len := by rw [hdg] at hd₂; cases hd₂; rfl
    subst hlen
    have hs₂ : s₂ = (({ U with heap := s₂.heap, slotsUsed := s₂.slotsUsed } : State).setVm s₂.vm).setTop { g with pc := g.pc + len₂, stack := v.toList ++ g.stack } := by
      refine e3.trans ?_
      rw [hf₂, State.calling_eq h.top, State.setFrames_setFrames, State.setTop_of_frames _ hr', hr]
      rfl
    have hsame : U.sameButNew ({ U with heap := s₂.heap, slotsUsed := s₂.slotsUsed } : State) L mc ms := by
      refine ⟨?_, q2, q3, q4, q5, q6⟩
      obtain ⟨t, ht, -⟩ := State.frames_cons hr
      show ({ U with heap := s₂.heap, slotsUsed := s₂.slotsUsed } : State) = { U.setFrames U.frames with heap := s₂.heap, slotsUsed := s₂.slotsUsed }
      rw [State.setFrames_self ht]
    subst hg
    refine Or.inl ⟨v, ⟨(({ U with heap := s₂.heap, slotsUsed := s₂.slotsUsed } : State).setVm s₂.vm), Ls ++ L, c0 + mc, s0 + ms⟩,
      ⟨X.admits, X.cas, X.clock, X.frames, X.room, X.hears, X.method, X.code, (X.here.setHeapUsed s₂.heap s₂.slotsUsed).setVm hW'.alike, X.tail, State.WarmedH.trans X.warmed hW', X.limits, X.bytes, X.same.trans (hsame.setVm s.vm)⟩,
      ⟨g, mk, s₂, L, rfl, rfl, hqc, rfl, hL, rfl, rfl⟩, ?_⟩
    show Steps p.tables e below _ ((({ U with heap := s₂.heap, slotsUsed := s₂.slotsUsed } : State).setVm s₂.vm).setTop { g with pc := g.pc + len₂, stack := v.toList ++ g.stack })
    rw [← hs₂]
    exact hsteps
  · obtain ⟨e2, q2, q3, q4, q5, q6⟩ := id hsm
    have e3 : s₂ = ({ (U.calling g mk a).setFrames s₂.frames with heap := s₂.heap, slotsUsed := s₂.slotsUsed } : State).setVm s₂.vm := by
      have : s₂ = ({ s₂ with vm := (U.calling g mk a).vm } : State).setVm s₂.vm := rfl
      rw [e2] at this
      exact this
    have hf₂ : s₂.frames = .throwing q :: .java g :: U.frames.tail := hend
    have hW' : U.WarmedH s₂.vm := hW₂
    have hs₂ : s₂ = ((({ U with heap := s₂.heap, slotsUsed := s₂.slotsUsed } : State).setVm s₂.vm).setTop g).pushFrame (.throwing q) := by
      refine e3.trans ?_
      rw [hf₂, State.calling_eq h.top, State.setFrames_setFrames, State.pushFrame, State.frames_setTop _ hr', State.setTop_of_frames _ hr', State.setFrames_setFrames, hr]
      rfl
    have hsame : U.sameButNew ({ U with heap := s₂.heap, slotsUsed := s₂.slotsUsed } : State) L mc ms := by
      refine ⟨?_, q2, q3, q4, q5, q6⟩
      obtain ⟨t, ht, -⟩ := State.frames_cons hr
      show ({ U with heap := s₂.heap, slotsUsed := s₂.slotsUsed } : State) = { U.setFrames U.frames with heap := s₂.heap, slotsUsed := s₂.slotsUsed }
      rw [State.setFrames_self ht]
    subst hg
    refine Or.inr ⟨q, ⟨(({ U with heap := s₂.heap, slotsUsed := s₂.slotsUsed } : State).setVm s₂.vm), Ls ++ L, c0 + mc, s0 + ms⟩,
      ⟨X.admits, X.cas, X.clock, X.frames, X.room, X.hears, X.method, X.code, (X.here.setHeapUsed s₂.heap s₂.slotsUsed).setVm hW'.alike, X.tail, State.WarmedH.trans X.warmed hW', X.limits, X.bytes, X.same.trans (hsame.setVm s.vm)⟩,
      ⟨g, mk, s₂, L, E, ce, rfl, rfl, hx, hce, hcv, hcl, rfl, hL, rfl, rfl⟩, ?_⟩
    show Steps p.tables e below _ (((({ U with heap := s₂.heap, slotsUsed := s₂.slotsUsed } : State).setVm s₂.vm).setTop g).pushFrame (.throwing q))
    rw [← hs₂]
    exact hsteps
end Payer
section Calls
variable {p : Program} {l : Launch} {e : Env} {R : Room} {s : State} {m : MethodId} {args : Array Value} {below : List Frame} {meth : Method} {c : Code} {T : State} {locs : List Loc} {cells slots : Nat}
theorem vx_callV (X : Stand p l e R s m args below meth c T locs cells slots) (hexec : p.tables.exec = Jvm.exec) {own C : String} {index : Nat} {y : MethodName} {bytes : ByteArray} {maxL : Nat} {ret : Option FieldType}
    (hown : s.vm.findClass own = some m.cls) (hlink : (Cond.methodLink own index y).before args s = true) (hinst : (Cond.instanceMethod y).before args s = true) (hsel : (Cond.selects C y y).before args s = true)
    (hcode : (Cond.code y bytes maxL ret).before args s = true) (hy : y.cls ≠ "java/lang/invoke/MethodHandle" ∧ y.cls ≠ "java/lang/invoke/VarHandle")
    {W9 : Nat} {Pre : Pt → Array Value → Prop} {Post : Pt → Array Value → Option Value → Pt → Prop} {PostX : Pt → Array Value → Addr → Pt → Prop} (hK : vx_Back l R p e below s args y 3 W9 Pre Post PostX)
    {b : Addr} {cellB : Cell} (hcell : T.heap[b]? = some cellB) (hobj : cellB.vm.isStatics = false) (hcls : s.vm.findClass C = some cellB.cls)
    {g : JFrame} (hg : g.method = m) (hsize : g.locals.size = c.maxLocals) {argsL rest : List Value} (hlen : ∀ sig, parseMethodDescriptor y.desc = some sig → argsL.length = sig.parameters.length)
    (hstack : g.stack = argsL.reverse ++ .ref b :: rest) (hW : 2 * g.monitorRoom + (rest.map fun v => v.category).sum ≤ W9) (hdg : decode c.code g.pc = .ok (.invokevirtual index, 3))
    (hpre : ∀ vm₁, s.WarmedH vm₁ → Pre ⟨T.setVm vm₁, locs, cells, slots⟩ (Value.ref b :: argsL).toArray) :
    (∃ (v : Option Value) (vm₁ : Vm) (B : Pt), s.WarmedH vm₁ ∧ Stand p l e R s m args below meth c B.U B.locs B.cells B.slots ∧ Post ⟨T.setVm vm₁, locs, cells, slots⟩ (Value.ref b :: argsL).toArray v B ∧
      ∀ target, Steps p.tables e below (B.U.setTop { g with pc := g.pc + 3, stack := v.toList ++ rest }) target → Steps p.tables e below (T.setTop g) target) ∨
    (∃ (q : Addr) (vm₁ : Vm) (B : Pt), s.WarmedH vm₁ ∧ Stand p l e R s m args below meth c B.U B.locs B.cells B.slots ∧ PostX ⟨T.setVm vm₁, locs, cells, slots⟩ (Value.ref b :: argsL).toArray q B ∧
      Steps p.tables e below (T.setTop g) ((B.U.setTop { g with stack := rest }).pushFrame (.throwing q))) := by
  obtain ⟨mk, methM, hnamed, hmethM, hstM, habM⟩ := Cond.instanceMethod_spec hinst
  obtain ⟨methM', cM, hmethM', -, -, -, -, -, -, hsigM⟩ := Cond.code_spec hnamed hcode
  cases hmethM.symm.trans hmethM'
  obtain ⟨c2, r2, m2, q1, q2, q3, q4, kP, hkP, hkPi⟩ := Cond.selects_spec hsel
  cases hcls.symm.trans q1
  cases (State.methodFound?_of_named hnamed hy).symm.trans q2
  cases hnamed.symm.trans q3
  have hselP : selectMethod e.platform s.vm cellB.cls mk = .method mk := by rw [Launch.admits_selectMethod X.admits]; exact q4
  obtain ⟨vm₁, X₁, hstep₁⟩ := X.invokevirtual hexec hown hlink hnamed hmethM hstM hkP hkPi hy (a := b) (cell := cellB) hcell
    (fun z h => by rw [h] at hobj; cases hobj) hselP hmethM habM hkP hkPi (g := g) hg (argsL := argsL) (rest := rest) (hlen _ hsigM) hstack hdg
  rcases hK m meth c ⟨T.setVm vm₁, locs, cells, slots⟩ { g with stack := rest } (.invokevirtual index) mk (Value.ref b :: argsL).toArray X₁ hg hsize hdg hW (X₁.named hnamed) (hpre vm₁ X₁.warmed) with ⟨v, B, X', hpost, hsteps⟩ | ⟨q, B, X', hpost, hsteps⟩
  · exact Or.inl ⟨v, vm₁, B, X₁.warmed, X', hpost, fun target h => hstep₁ _ fun acts => by rw [doInvoke_state]; exact hsteps.trans h⟩
  · exact Or.inr ⟨q, vm₁, B, X₁.warmed, X', hpost, hstep₁ _ fun acts => by rw [doInvoke_state]; exact hsteps⟩
theorem vx_callS (X : Stand p l e R s m args below meth c T locs cells slots) (hexec : p.tables.exec = Jvm.exec) {own : String} {index : Nat} {y : MethodName} {bytes : ByteArray} {maxL : Nat} {ret : Option FieldType}
    (hown : s.vm.findClass own = some m.cls) (hlink : (Cond.methodLink own index y).before args s = true) (hstat : (Cond.static y).before args s = true) (hinit : (Cond.initialized y.cls).before args s = true)
    (hcode : (Cond.code y bytes maxL ret).before args s = true) (hy : y.cls ≠ "java/lang/invoke/MethodHandle" ∧ y.cls ≠ "java/lang/invoke/VarHandle")
    {W9 : Nat} {Pre : Pt → Array Value → Prop} {Post : Pt → Array Value → Option Value → Pt → Prop} {PostX : Pt → Array Value → Addr → Pt → Prop} (hK : vx_Back l R p e below s args y 3 W9 Pre Post PostX)
    {g : JFrame} (hg : g.method = m) (hsize : g.locals.size = c.maxLocals) {argsL rest : List Value} (hlen : ∀ sig, parseMethodDescriptor y.desc = some sig → argsL.length = sig.parameters.length)
    (hstack : g.stack = argsL.reverse ++ rest) (hW : 2 * g.monitorRoom + (rest.map fun v => v.category).sum ≤ W9) (hdg : decode c.code g.pc = .ok (.invokestatic index, 3))
    (hpre : ∀ vm₁, s.WarmedH vm₁ → Pre ⟨T.setVm vm₁, locs, cells, slots⟩ argsL.toArray) :
    (∃ (v : Option Value) (vm₁ : Vm) (B : Pt), s.WarmedH vm₁ ∧ Stand p l e R s m args below meth c B.U B.locs B.cells B.slots ∧ Post ⟨T.setVm vm₁, locs, cells, slots⟩ argsL.toArray v B ∧
      ∀ target, Steps p.tables e below (B.U.setTop { g with pc := g.pc + 3, stack := v.toList ++ rest }) target → Steps p.tables e below (T.setTop g) target) ∨
    (∃ (q : Addr) (vm₁ : Vm) (B : Pt), s.WarmedH vm₁ ∧ Stand p l e R s m args below meth c B.U B.locs B.cells B.slots ∧ PostX ⟨T.setVm vm₁, locs, cells, slots⟩ argsL.toArray q B ∧
      Steps p.tables e below (T.setTop g) ((B.U.setTop { g with stack := rest }).pushFrame (.throwing q))) := by
  obtain ⟨mk, hnamed⟩ := Cond.code_named hcode
  obtain ⟨methM, cM, hmethM, -, -, -, -, -, -, hsigM⟩ := Cond.code_spec hnamed hcode
  have hstatic : methM.isStatic = true := Cond.static_spec hnamed hmethM hstat
  obtain ⟨kP, hkP, -⟩ := className_of_methodNamed hnamed
  have hinitP : kP.init = .initialized := Cond.initialized_spec (findClass_of_methodNamed hnamed) hkP hinit
  obtain ⟨vm₁, X₁, hstep₁⟩ := X.invokestatic hexec hown hlink hnamed hmethM hstatic hkP hinitP hy (g := g) hg (argsL := argsL) (rest := rest) (hlen _ hsigM) hstack hdg
  rcases hK m meth c ⟨T.setVm vm₁, locs, cells, slots⟩ { g with stack := rest } (.invokestatic index) mk argsL.toArray X₁ hg hsize hdg hW (X₁.named hnamed) (hpre vm₁ X₁.warmed) with ⟨v, B, X', hpost, hsteps⟩ | ⟨q, B, X', hpost, hsteps⟩
  · exact Or.inl ⟨v, vm₁, B, X₁.warmed, X', hpost, fun target h => hstep₁ _ fun acts => by rw [doInvoke_state]; exact hsteps.trans h⟩
  · exact Or.inr ⟨q, vm₁, B, X₁.warmed, X', hpost, hstep₁ _ fun acts => by rw [doInvoke_state]; exact hsteps⟩
end Calls
theorem vx_cls {s : State} {T : State} {vm₁ : Vm} {E : String} {k : ClassId} (hW : s.WarmedH vm₁) (h : (T.setVm vm₁).vm.findClass E = some k) : s.vm.findClass E = some k := by
  have h1 : vm₁.findClass E = some k := h
  rw [hW.alike.findClass] at h1
  exact h1
/-- the method's frame g, with q thrown over it -/
def vx_W (p : Program) (l : Launch) (e : Env) (R : Room) (s : State) (m : MethodId) (args : Array Value) (below : List Frame) (meth : Method) (c : Code) (H : Heap) (locs : List Loc) (cells slots : Nat) (Q : State → Prop) (g : JFrame) (q : Addr) : Prop :=
  ∀ T : State, T.heap = H → Stand p l e R s m args below meth c T locs cells slots → ∃ t, Steps p.tables e below ((T.setTop g).pushFrame (.throwing q)) t ∧ Q t
def vx_Run (p : Program) (l : Launch) (e : Env) (R : Room) (s : State) (m : MethodId) (args : Array Value) (below : List Frame) (meth : Method) (c : Code) (H : Heap) (locs : List Loc) (cells slots mc ms : Nat) (g : JFrame) (rest : List Value) (Qa : State → Outcome → State → Prop) (XC : String → State → State → Prop) (free : Addr → Prop) : Prop :=
  ∀ T : State, T.heap = H → Stand p l e R s m args below meth c T locs cells slots →
    (∃ (v : Option Value) (st₀ t T' : State) (L : List Loc), st₀.heap = H ∧ Stand p l e R s m args below meth c T' (locs ++ L) (cells + mc) (slots + ms) ∧ (∀ q ∈ L, free q.base) ∧ T'.heap = t.heap ∧ T'.vm = t.vm ∧ Qa st₀ (.returned v) t ∧
      Goes p e below T g T' { g with pc := g.pc + 3, stack := v.toList ++ rest }) ∨
    (∃ (q : Addr) (st₀ t T' : State) (L : List Loc) (E : String) (ce : Cell), st₀.heap = H ∧ Stand p l e R s m args below meth c T' (locs ++ L) (cells + mc) (slots + ms) ∧ (∀ z ∈ L, free z.base) ∧ T'.heap = t.heap ∧ T'.vm = t.vm ∧ XC E st₀ t ∧ t.heap[q]? = some ce ∧ ce.vm = .none ∧ s.vm.findClass E = some ce.cls ∧
      Steps p.tables e below (T.setTop g) ((T'.setTop { g with stack := rest }).pushFrame (.throwing q)))
def vx_X {S : Type} (px : S → Prop) (B : String → S → State → Prop) (A : Nat → Prop) : String → State → State → Prop := fun E st t => ∃ u : S, px u ∧ B E u t ∧ va_F A st t
section Runs
variable {p : Program} {l : Launch} {e : Env} {R : Room} {s : State} {m : MethodId} {args : Array Value} {below : List Frame} {meth : Method} {c : Code} {H : Heap} {locs : List Loc} {cells slots : Nat}
variable {y : MethodName} {bytes cc : ByteArray} {maxL nL mc ms n index : Nat} {ret : Option FieldType} {ws : List Cond} {rm : Room} {Pc : Array Value → State → Prop} {Qc : Array Value → State → Outcome → State → Prop} {XC : String → State → State → Prop} {free : Addr → Prop} {Ts : List Cond} {own C : String} {b : Addr} {As rest : List Value} {g : JFrame}
theorem vx_callBack (cb : CallB R s args own index y bytes maxL ret ws rm mc ms n) (hM : vx_Met l y ws rm Pc Qc XC mc ms free) (hbl : FrameBlind Pc) : vx_Back l R p e below s args y 3 8 (PreOf R mc ms Pc) (PostOf Qc mc ms free) (vx_Post XC mc ms free) := by
  obtain ⟨hrc, hrs, hfr, hlo, hws, hcw, -, hini, -⟩ := cb
  exact vx_back (bytes := bytes) (maxL := maxL) (ret := ret) hM hbl hrc hrs hfr hlo hws hcw (fun a' U hW => word_at hW (Or.inl (by first | rfl | simp [Cond.onTables, Cond.keeps, Cond.steady])) hini)
theorem vx_runV (S : CallFix p m c cc nL s args Ts own) (hM : vx_Met l y ws rm Pc Qc XC mc ms free) (cw : CallW R s args own C index y bytes maxL ret ws rm mc ms n) (hp : PreV s H C b Pc As)
    (hg : g.method = m) (hn : As.length = n) (hsize : g.locals.size = nL) (hstack : g.stack = As.reverse ++ .ref b :: rest) (hW : 2 * g.monitorRoom + (rest.map fun v => v.category).sum ≤ 8) (hdg : decode cc g.pc = .ok (.invokevirtual index, 3)) (hf : cells + mc ≤ R.cells ∧ slots + ms ≤ R.slots) :
    vx_Run p l e R s m args below meth c H locs cells slots mc ms g rest (Qc (Value.ref b :: As).toArray) XC free := by
  have hK : vx_Back l R p e below s args y 3 8 (PreOf R mc ms Pc) (PostOf Qc mc ms free) (vx_Post XC mc ms free) := vx_callBack cw.1 hM hp.1
  obtain ⟨⟨-, -, -, -, -, -, hcode, -, hy, hlen, hl⟩, hin, hse⟩ := cw
  obtain ⟨hx, hb, hml, ho, -⟩ := S
  obtain ⟨-, ⟨cellB, hcB, hoB, hclB⟩, hPc⟩ := hp
  intro T hT X
  rcases vx_callV X hx (C := C) (bytes := bytes) (maxL := maxL) (ret := ret) ho hl hin hse hcode hy hK (by rw [hT]; exact hcB) hoB hclB hg (hsize.trans hml.symm) (argsL := As) (rest := rest) (fun sig h => hn.trans (hlen sig h)) hstack hW (by rw [hb]; exact hdg)
    (fun vm₁ hW₁ => ⟨hf.1, hf.2, hPc (T.setVm vm₁) hT hW₁⟩) with ⟨v, vm₁, ⟨U', l2, c2, s2⟩, hW₁, X', ⟨g', mk, t, L, e1, e2, hq, h1, hL, h2, h3⟩, st⟩ | ⟨q, vm₁, ⟨U', l2, c2, s2⟩, hW₁, X', ⟨g', mk, t, L, E, ce, e1, e2, hq, hce, hcv, hcl, h1, hL, h2, h3⟩, st⟩
  · dsimp only [Pt.U, Pt.locs, Pt.cells, Pt.slots] at X' e1 e2 h1 h2 h3 st
    subst h1; subst h2; subst h3
    exact Or.inl ⟨v, (T.setVm vm₁).calling g' mk (Value.ref b :: As).toArray, t, U', L, hT, X', hL, e1, e2, hq, st⟩
  · dsimp only [Pt.U, Pt.locs, Pt.cells, Pt.slots] at X' e1 e2 h1 h2 h3 st hcl
    subst h1; subst h2; subst h3
    exact Or.inr ⟨q, (T.setVm vm₁).calling g' mk (Value.ref b :: As).toArray, t, U', L, E, ce, hT, X', hL, e1, e2, hq, hce, hcv, vx_cls hW₁ hcl, st⟩
theorem vx_runS (S : CallFix p m c cc nL s args Ts own) (hM : vx_Met l y ws rm Pc Qc XC mc ms free) (cw : CallB R s args own index y bytes maxL ret ws rm mc ms n ∧ (Cond.static y).before args s = true) (hp : PreS s H Pc As)
    (hg : g.method = m) (hn : As.length = n) (hsize : g.locals.size = nL) (hstack : g.stack = As.reverse ++ rest) (hW : 2 * g.monitorRoom + (rest.map fun v => v.category).sum ≤ 8) (hdg : decode cc g.pc = .ok (.invokestatic index, 3)) (hf : cells + mc ≤ R.cells ∧ slots + ms ≤ R.slots) :
    vx_Run p l e R s m args below meth c H locs cells slots mc ms g rest (Qc As.toArray) XC free := by
  have hK : vx_Back l R p e below s args y 3 8 (PreOf R mc ms Pc) (PostOf Qc mc ms free) (vx_Post XC mc ms free) := vx_callBack cw.1 hM hp.1
  obtain ⟨⟨-, -, -, -, -, -, hcode, hini, hy, hlen, hl⟩, hstt⟩ := cw
  obtain ⟨hx, hb, hml, ho, -⟩ := S
  intro T hT X
  rcases vx_callS X hx (bytes := bytes) (maxL := maxL) (ret := ret) ho hl hstt hini hcode hy hK hg (hsize.trans hml.symm) (argsL := As) (rest := rest) (fun sig h => hn.trans (hlen sig h)) hstack hW (by rw [hb]; exact hdg)
    (fun vm₁ hW₁ => ⟨hf.1, hf.2, hp.2 (T.setVm vm₁) hT hW₁⟩) with ⟨v, vm₁, ⟨U', l2, c2, s2⟩, hW₁, X', ⟨g', mk, t, L, e1, e2, hq, h1, hL, h2, h3⟩, st⟩ | ⟨q, vm₁, ⟨U', l2, c2, s2⟩, hW₁, X', ⟨g', mk, t, L, E, ce, e1, e2, hq, hce, hcv, hcl, h1, hL, h2, h3⟩, st⟩
  · dsimp only [Pt.U, Pt.locs, Pt.cells, Pt.slots] at X' e1 e2 h1 h2 h3 st
    subst h1; subst h2; subst h3
    exact Or.inl ⟨v, (T.setVm vm₁).calling g' mk As.toArray, t, U', L, hT, X', hL, e1, e2, hq, st⟩
  · dsimp only [Pt.U, Pt.locs, Pt.cells, Pt.slots] at X' e1 e2 h1 h2 h3 st hcl
    subst h1; subst h2; subst h3
    exact Or.inr ⟨q, (T.setVm vm₁).calling g' mk As.toArray, t, U', L, E, ce, hT, X', hL, e1, e2, hq, hce, hcv, vx_cls hW₁ hcl, st⟩
end Runs
section Rows
variable {p : Program} {l : Launch} {e : Env} {R : Room} {s : State} {m : MethodId} {args : Array Value} {below : List Frame} {meth : Method} {c : Code} {H : Heap} {locs : List Loc} {cells slots : Nat} {Q : State → Prop}
variable {mc ms : Nat} {free : Addr → Prop} {A0 A1 : Nat → Prop} {H0 : Heap} {a : Array Value} {pc : Nat} {ls : Array Slot} {st0 rest : List Value}
theorem vx_keep {st₀ t T' : State} {L : List Loc} (h0 : st₀.heap = H) (e1 : T'.heap = t.heap) (hS : va_S A0 H0 H locs) (hA : ∀ q, q < H.size → A1 q → A0 q) (hf : ∀ q, free q → A0 q) (hL : ∀ q ∈ L, free q.base) (hF : va_F A1 st₀ t) :
    H.size ≤ T'.heap.size ∧ (∀ q : Nat, q < H.size → ¬ A1 q → T'.heap[q]? = H[q]?) ∧ va_S A0 H0 T'.heap (locs ++ L) := by
  obtain ⟨hz, hk⟩ := hF
  rw [h0] at hz hk
  exact ⟨by rw [e1]; exact hz, fun q h1 h2 => by rw [e1]; exact hk q h1 h2,
    ⟨Nat.le_trans hS.1 (by rw [e1]; exact hz), fun q h1 h2 => by rw [e1, hk q (Nat.lt_of_lt_of_le h1 hS.1) (fun z => h2 (hA q (Nat.lt_of_lt_of_le h1 hS.1) z))]; exact hS.2.1 q h1 h2, fun q hq => by
      rcases List.mem_append.mp hq with h | h
      · exact hS.2.2 q h
      · exact hf _ (hL q h)⟩⟩
theorem vx_calli {S SX : Type} {post : Int32 → S → Prop} {px : SX → Prop} {B : S → State → Prop} {BX : String → SX → State → Prop} {AX : Nat → Prop} (hr : vx_Run p l e R s m args below meth c H locs cells slots mc ms (F0 m pc ls st0) rest (va_Qi post B A1 a) (vx_X px BX AX) free) (hS : va_S A0 H0 H locs) (hA : ∀ q, q < H.size → A1 q → A0 q) (hf : ∀ q, free q → A0 q) (hAX : ∀ q, q < H.size → AX q → A0 q)
    (kx : ∀ (E : String) (ce : Cell) (q9 : Addr) (u : SX) (t : State) (H1 : Heap) (locs1 : List Loc), t.heap = H1 → s.vm.Alike t.vm → px u → BX E u t → H.size ≤ H1.size → (∀ q : Nat, q < H.size → ¬ AX q → H1[q]? = H[q]?) → va_S A0 H0 H1 locs1 → H1[q9]? = some ce → ce.vm = .none → s.vm.findClass E = some ce.cls → vx_W p l e R s m args below meth c H1 locs1 (cells + mc) (slots + ms) Q (F0 m pc ls rest) q9)
    (kk : ∀ (r : Int32) (u : S) (t : State) (H1 : Heap) (locs1 : List Loc), t.heap = H1 → s.vm.Alike t.vm → post r u → B u t → H.size ≤ H1.size → (∀ q : Nat, q < H.size → ¬ A1 q → H1[q]? = H[q]?) → va_S A0 H0 H1 locs1 → W p l e R s m args below meth c H1 locs1 (cells + mc) (slots + ms) Q (F0 m (pc + 3) ls (.int r :: rest))) : W p l e R s m args below meth c H locs cells slots Q (F0 m pc ls st0) := by
  intro T hT X
  rcases hr T hT X with ⟨v, st₀, t, T', L, h0, X', hL, e1, e2, ⟨⟨r, u, hv, hp, hb⟩, hF⟩, st⟩ | ⟨q, st₀, t, T', L, E, ce, h0, X', hL, e1, e2, ⟨u, hp, hb, hF⟩, hce, hcv, hcl, st⟩
  · cases hv
    obtain ⟨k1, k2, k3⟩ := vx_keep h0 e1 hS hA hf hL hF
    obtain ⟨t2, a1, b1⟩ := kk r u t T'.heap (locs ++ L) e1.symm (by rw [← e2]; exact X'.warmed.alike) hp hb k1 k2 k3 T' rfl X'
    exact ⟨t2, st t2 a1, b1⟩
  · obtain ⟨k1, k2, k3⟩ := vx_keep h0 e1 hS hAX hf hL hF
    obtain ⟨t2, a1, b1⟩ := kx E ce q u t T'.heap (locs ++ L) e1.symm (by rw [← e2]; exact X'.warmed.alike) hp hb k1 k2 k3 (by rw [e1]; exact hce) hcv hcl T' rfl X'
    exact ⟨t2, st.trans a1, b1⟩
theorem vx_calll {S SX : Type} {post : Int64 → S → Prop} {px : SX → Prop} {B : S → State → Prop} {BX : String → SX → State → Prop} {AX : Nat → Prop} (hr : vx_Run p l e R s m args below meth c H locs cells slots mc ms (F0 m pc ls st0) rest (va_Ql post B A1 a) (vx_X px BX AX) free) (hS : va_S A0 H0 H locs) (hA : ∀ q, q < H.size → A1 q → A0 q) (hf : ∀ q, free q → A0 q) (hAX : ∀ q, q < H.size → AX q → A0 q)
    (kx : ∀ (E : String) (ce : Cell) (q9 : Addr) (u : SX) (t : State) (H1 : Heap) (locs1 : List Loc), t.heap = H1 → s.vm.Alike t.vm → px u → BX E u t → H.size ≤ H1.size → (∀ q : Nat, q < H.size → ¬ AX q → H1[q]? = H[q]?) → va_S A0 H0 H1 locs1 → H1[q9]? = some ce → ce.vm = .none → s.vm.findClass E = some ce.cls → vx_W p l e R s m args below meth c H1 locs1 (cells + mc) (slots + ms) Q (F0 m pc ls rest) q9)
    (kk : ∀ (r : Int64) (u : S) (t : State) (H1 : Heap) (locs1 : List Loc), t.heap = H1 → s.vm.Alike t.vm → post r u → B u t → H.size ≤ H1.size → (∀ q : Nat, q < H.size → ¬ A1 q → H1[q]? = H[q]?) → va_S A0 H0 H1 locs1 → W p l e R s m args below meth c H1 locs1 (cells + mc) (slots + ms) Q (F0 m (pc + 3) ls (.long r :: rest))) : W p l e R s m args below meth c H locs cells slots Q (F0 m pc ls st0) := by
  intro T hT X
  rcases hr T hT X with ⟨v, st₀, t, T', L, h0, X', hL, e1, e2, ⟨⟨r, u, hv, hp, hb⟩, hF⟩, st⟩ | ⟨q, st₀, t, T', L, E, ce, h0, X', hL, e1, e2, ⟨u, hp, hb, hF⟩, hce, hcv, hcl, st⟩
  · cases hv
    obtain ⟨k1, k2, k3⟩ := vx_keep h0 e1 hS hA hf hL hF
    obtain ⟨t2, a1, b1⟩ := kk r u t T'.heap (locs ++ L) e1.symm (by rw [← e2]; exact X'.warmed.alike) hp hb k1 k2 k3 T' rfl X'
    exact ⟨t2, st t2 a1, b1⟩
  · obtain ⟨k1, k2, k3⟩ := vx_keep h0 e1 hS hAX hf hL hF
    obtain ⟨t2, a1, b1⟩ := kx E ce q u t T'.heap (locs ++ L) e1.symm (by rw [← e2]; exact X'.warmed.alike) hp hb k1 k2 k3 (by rw [e1]; exact hce) hcv hcl T' rfl X'
    exact ⟨t2, st.trans a1, b1⟩
theorem vx_callf {S SX : Type} {post : UInt32 → S → Prop} {px : SX → Prop} {B : S → State → Prop} {BX : String → SX → State → Prop} {AX : Nat → Prop} (hr : vx_Run p l e R s m args below meth c H locs cells slots mc ms (F0 m pc ls st0) rest (va_Qf post B A1 a) (vx_X px BX AX) free) (hS : va_S A0 H0 H locs) (hA : ∀ q, q < H.size → A1 q → A0 q) (hf : ∀ q, free q → A0 q) (hAX : ∀ q, q < H.size → AX q → A0 q)
    (kx : ∀ (E : String) (ce : Cell) (q9 : Addr) (u : SX) (t : State) (H1 : Heap) (locs1 : List Loc), t.heap = H1 → s.vm.Alike t.vm → px u → BX E u t → H.size ≤ H1.size → (∀ q : Nat, q < H.size → ¬ AX q → H1[q]? = H[q]?) → va_S A0 H0 H1 locs1 → H1[q9]? = some ce → ce.vm = .none → s.vm.findClass E = some ce.cls → vx_W p l e R s m args below meth c H1 locs1 (cells + mc) (slots + ms) Q (F0 m pc ls rest) q9)
    (kk : ∀ (r : UInt32) (u : S) (t : State) (H1 : Heap) (locs1 : List Loc), t.heap = H1 → s.vm.Alike t.vm → post r u → B u t → H.size ≤ H1.size → (∀ q : Nat, q < H.size → ¬ A1 q → H1[q]? = H[q]?) → va_S A0 H0 H1 locs1 → W p l e R s m args below meth c H1 locs1 (cells + mc) (slots + ms) Q (F0 m (pc + 3) ls (.float r :: rest))) : W p l e R s m args below meth c H locs cells slots Q (F0 m pc ls st0) := by
  intro T hT X
  rcases hr T hT X with ⟨v, st₀, t, T', L, h0, X', hL, e1, e2, ⟨⟨r, u, hv, hp, hb⟩, hF⟩, st⟩ | ⟨q, st₀, t, T', L, E, ce, h0, X', hL, e1, e2, ⟨u, hp, hb, hF⟩, hce, hcv, hcl, st⟩
  · cases hv
    obtain ⟨k1, k2, k3⟩ := vx_keep h0 e1 hS hA hf hL hF
    obtain ⟨t2, a1, b1⟩ := kk r u t T'.heap (locs ++ L) e1.symm (by rw [← e2]; exact X'.warmed.alike) hp hb k1 k2 k3 T' rfl X'
    exact ⟨t2, st t2 a1, b1⟩
  · obtain ⟨k1, k2, k3⟩ := vx_keep h0 e1 hS hAX hf hL hF
    obtain ⟨t2, a1, b1⟩ := kx E ce q u t T'.heap (locs ++ L) e1.symm (by rw [← e2]; exact X'.warmed.alike) hp hb k1 k2 k3 (by rw [e1]; exact hce) hcv hcl T' rfl X'
    exact ⟨t2, st.trans a1, b1⟩
theorem vx_calld {S SX : Type} {post : UInt64 → S → Prop} {px : SX → Prop} {B : S → State → Prop} {BX : String → SX → State → Prop} {AX : Nat → Prop} (hr : vx_Run p l e R s m args below meth c H locs cells slots mc ms (F0 m pc ls st0) rest (va_Qd post B A1 a) (vx_X px BX AX) free) (hS : va_S A0 H0 H locs) (hA : ∀ q, q < H.size → A1 q → A0 q) (hf : ∀ q, free q → A0 q) (hAX : ∀ q, q < H.size → AX q → A0 q)
    (kx : ∀ (E : String) (ce : Cell) (q9 : Addr) (u : SX) (t : State) (H1 : Heap) (locs1 : List Loc), t.heap = H1 → s.vm.Alike t.vm → px u → BX E u t → H.size ≤ H1.size → (∀ q : Nat, q < H.size → ¬ AX q → H1[q]? = H[q]?) → va_S A0 H0 H1 locs1 → H1[q9]? = some ce → ce.vm = .none → s.vm.findClass E = some ce.cls → vx_W p l e R s m args below meth c H1 locs1 (cells + mc) (slots + ms) Q (F0 m pc ls rest) q9)
    (kk : ∀ (r : UInt64) (u : S) (t : State) (H1 : Heap) (locs1 : List Loc), t.heap = H1 → s.vm.Alike t.vm → post r u → B u t → H.size ≤ H1.size → (∀ q : Nat, q < H.size → ¬ A1 q → H1[q]? = H[q]?) → va_S A0 H0 H1 locs1 → W p l e R s m args below meth c H1 locs1 (cells + mc) (slots + ms) Q (F0 m (pc + 3) ls (.double r :: rest))) : W p l e R s m args below meth c H locs cells slots Q (F0 m pc ls st0) := by
  intro T hT X
  rcases hr T hT X with ⟨v, st₀, t, T', L, h0, X', hL, e1, e2, ⟨⟨r, u, hv, hp, hb⟩, hF⟩, st⟩ | ⟨q, st₀, t, T', L, E, ce, h0, X', hL, e1, e2, ⟨u, hp, hb, hF⟩, hce, hcv, hcl, st⟩
  · cases hv
    obtain ⟨k1, k2, k3⟩ := vx_keep h0 e1 hS hA hf hL hF
    obtain ⟨t2, a1, b1⟩ := kk r u t T'.heap (locs ++ L) e1.symm (by rw [← e2]; exact X'.warmed.alike) hp hb k1 k2 k3 T' rfl X'
    exact ⟨t2, st t2 a1, b1⟩
  · obtain ⟨k1, k2, k3⟩ := vx_keep h0 e1 hS hAX hf hL hF
    obtain ⟨t2, a1, b1⟩ := kx E ce q u t T'.heap (locs ++ L) e1.symm (by rw [← e2]; exact X'.warmed.alike) hp hb k1 k2 k3 (by rw [e1]; exact hce) hcv hcl T' rfl X'
    exact ⟨t2, st.trans a1, b1⟩
theorem vx_callv {S SX : Type} {post : S → Prop} {px : SX → Prop} {B : S → State → Prop} {BX : String → SX → State → Prop} {AX : Nat → Prop} (hr : vx_Run p l e R s m args below meth c H locs cells slots mc ms (F0 m pc ls st0) rest (va_Qv post B A1 a) (vx_X px BX AX) free) (hS : va_S A0 H0 H locs) (hA : ∀ q, q < H.size → A1 q → A0 q) (hf : ∀ q, free q → A0 q) (hAX : ∀ q, q < H.size → AX q → A0 q)
    (kx : ∀ (E : String) (ce : Cell) (q9 : Addr) (u : SX) (t : State) (H1 : Heap) (locs1 : List Loc), t.heap = H1 → s.vm.Alike t.vm → px u → BX E u t → H.size ≤ H1.size → (∀ q : Nat, q < H.size → ¬ AX q → H1[q]? = H[q]?) → va_S A0 H0 H1 locs1 → H1[q9]? = some ce → ce.vm = .none → s.vm.findClass E = some ce.cls → vx_W p l e R s m args below meth c H1 locs1 (cells + mc) (slots + ms) Q (F0 m pc ls rest) q9)
    (kk : ∀ (u : S) (t : State) (H1 : Heap) (locs1 : List Loc), t.heap = H1 → s.vm.Alike t.vm → post u → B u t → H.size ≤ H1.size → (∀ q : Nat, q < H.size → ¬ A1 q → H1[q]? = H[q]?) → va_S A0 H0 H1 locs1 → W p l e R s m args below meth c H1 locs1 (cells + mc) (slots + ms) Q (F0 m (pc + 3) ls (rest))) : W p l e R s m args below meth c H locs cells slots Q (F0 m pc ls st0) := by
  intro T hT X
  rcases hr T hT X with ⟨v, st₀, t, T', L, h0, X', hL, e1, e2, ⟨⟨u, hv, hp, hb⟩, hF⟩, st⟩ | ⟨q, st₀, t, T', L, E, ce, h0, X', hL, e1, e2, ⟨u, hp, hb, hF⟩, hce, hcv, hcl, st⟩
  · cases hv
    obtain ⟨k1, k2, k3⟩ := vx_keep h0 e1 hS hA hf hL hF
    obtain ⟨t2, a1, b1⟩ := kk u t T'.heap (locs ++ L) e1.symm (by rw [← e2]; exact X'.warmed.alike) hp hb k1 k2 k3 T' rfl X'
    exact ⟨t2, st t2 a1, b1⟩
  · obtain ⟨k1, k2, k3⟩ := vx_keep h0 e1 hS hAX hf hL hF
    obtain ⟨t2, a1, b1⟩ := kx E ce q u t T'.heap (locs ++ L) e1.symm (by rw [← e2]; exact X'.warmed.alike) hp hb k1 k2 k3 (by rw [e1]; exact hce) hcv hcl T' rfl X'
    exact ⟨t2, st.trans a1, b1⟩
/-- caught by the row x of this method's table; the rows ahead don't take it -/
theorem vx_catch {own name : String} {E : String} {ce : Cell} {q : Addr} (hown : s.vm.findClass own = some m.cls) (pre : List ExceptionTableEntry) (x : ExceptionTableEntry) (suf : List ExceptionTableEntry) (hsplit : c.exceptionTable.toList = pre ++ x :: suf)
    (hpass : ∀ z ∈ pre, covers z pc = false ∨ (z.catchType ≠ 0 ∧ ∃ nm : String, (Cond.classLink own z.catchType nm).before args s = true ∧ va_Nc E nm s)) (hx : covers x pc = true) (h0 : x.catchType ≠ 0)
    (hlink : (Cond.classLink own x.catchType name).before args s = true) (hcast : (Cond.castable E name).before args s = true) (hcell : H[q]? = some ce) (hv : ce.vm = .none) (hcl : s.vm.findClass E = some ce.cls)
    (kk : W p l e R s m args below meth c H locs cells slots Q (F0 m x.handlerPc ls [.ref q])) : vx_W p l e R s m args below meth c H locs cells slots Q (F0 m pc ls rest) q := by
  intro T hT X
  have hpl : e.platform.magicAccessors = ({} : Platform).magicAccessors := by rw [X.admits.platform]
  obtain ⟨c3, c4, hc3, hc4, hasg⟩ := Cond.castable_spec hcast
  cases Option.some.inj (hc3.symm.trans hcl)
  obtain ⟨c5, hc5, hcl5⟩ := Cond.classLink_spec hown hlink e.platform hpl
  cases Option.some.inj (hc4.symm.trans hc5)
  obtain ⟨vm', X', st⟩ := X.thenCaughtThrough q (g := F0 m pc ls rest) rfl (Steps.refl _) (by rw [hT]; exact hcell) (by rw [hv]; rfl) (by obtain ⟨k9, h9, -⟩ := Vm.findClass_spec hcl; exact ⟨k9, h9⟩) pre x suf hsplit
    (fun z hz => by
      rcases hpass z hz with h | ⟨hz0, nm, hl1, hn1⟩
      · exact Or.inl h
      · obtain ⟨c6, hc6, hcl6⟩ := Cond.classLink_spec hown hl1 e.platform hpl
        obtain ⟨a8, b8, h1, h2, h3⟩ := hn1
        cases Option.some.inj (h1.symm.trans hcl)
        cases Option.some.inj (h2.symm.trans hc6)
        exact Or.inr ⟨hz0, _, hcl6, h3⟩) hx (Or.inr ⟨h0, c4, hcl5, hasg⟩)
  obtain ⟨t, a1, b1⟩ := kk (T.setVm vm') hT X'
  exact ⟨t, st.trans a1, b1⟩
end Rows
section Ends
variable {p : Program} {l : Launch} {e : Env} {R : Room} {s : State} {m : MethodId} {args : Array Value} {below : List Frame} {meth : Method} {c : Code} {H : Heap} {locs : List Loc} {cells slots : Nat} {Q : State → Prop}
variable {mc ms : Nat} {free : Addr → Prop} {A0 A1 : Nat → Prop} {H0 : Heap} {a : Array Value} {ls : Array Slot} {st0 rest : List Value}
variable {Qc : Array Value → State → Outcome → State → Prop} {XC : String → State → State → Prop}
/-- what a body that may throw owes at its end -/
def vx_MQ (below : List Frame) (Qc : Array Value → State → Outcome → State → Prop) (XC : String → State → State → Prop) (a : Array Value) (s : State) (mc ms : Nat) (free : Addr → Prop) : State → Prop := fun t =>
  ∃ o, t.status = .running ∧ Ended t below o ∧ vx_Q Qc XC mc ms free a s o t
theorem vx_ret {g : JFrame} {mc ms : Nat} (k : W p l e R s m args below meth c H locs cells slots (MQ below Qc args s mc ms free) g) : W p l e R s m args below meth c H locs cells slots (vx_MQ below Qc XC args s mc ms free) g := by
  intro T hT X
  obtain ⟨t, a1, o, b1, b2, b3, b4⟩ := k T hT X
  exact ⟨t, a1, o, b1, b2, Or.inl ⟨b3, b4⟩⟩
/-- not caught here: it goes on to the caller -/
theorem vx_widen {g : JFrame} {q : Addr} {k n : Nat} (h1 : cells ≤ k) (h2 : slots ≤ n) (kk : vx_W p l e R s m args below meth c H locs k n Q g q) : vx_W p l e R s m args below meth c H locs cells slots Q g q := fun T hT X => kk T hT (stand_widen X h1 h2)
theorem vx_out {pc : Nat} {E : String} {ce : Cell} {q : Addr} {mc ms : Nat} (hout : ∀ x ∈ c.exceptionTable.toList, covers x pc = false) (hlocks : meth.locks = false) (hcell : H[q]? = some ce) (hv : ce.vm = .none) (hcl : s.vm.findClass E = some ce.cls)
    (hx : ∀ t : State, t.heap = H → s.vm.Alike t.vm → XC E s t) (hf : ∀ z ∈ locs, free z.base) (hc : cells ≤ mc) (hs : slots ≤ ms) :
    vx_W p l e R s m args below meth c H locs cells slots (vx_MQ below Qc XC args s mc ms free) (F0 m pc ls rest) q := by
  intro T hT X
  obtain ⟨st1, hrun, hend, hW, hsm⟩ := X.leaveThrown q (g := F0 m pc ls rest) rfl rfl rfl hout hlocks
  have hcell9 : (T.setFrames (.throwing q :: below)).heap[q]? = some ce := by
    show T.heap[q]? = some ce
    rw [hT]; exact hcell
  exact ⟨_, st1, .threw q, hrun, hend, Or.inr ⟨q, rfl, E, ce, locs, hx _ hT hW.alike, hcell9, hv, hcl, hW, hsm.mono hc hs, hf⟩⟩
theorem vx_frame {U : State} {k n : Nat} (h : s.sameButNew ({ U with vm := s.vm } : State) locs k n) : s.heap.size ≤ U.heap.size ∧ ∀ q : Nat, q < s.heap.size → (∀ z ∈ locs, z.base ≠ q) → U.heap[q]? = s.heap[q]? := by
  obtain ⟨-, h2, -, -, -, h6⟩ := h
  refine ⟨h2, fun q hq hz => ?_⟩
  obtain ⟨c9, e1, e2, e3, e4⟩ := h6 q _ (Array.getElem?_eq_getElem hq)
  have hs : c9.slots = (s.heap[q]).slots := Array.ext_getElem? fun i => e4 i fun hm => hz _ hm rfl
  have h9 : c9 = s.heap[q] := by
    rw [hs] at e2
    exact e2
  have e5 : U.heap[q]? = some c9 := e1
  rw [e5, h9, Array.getElem?_eq_getElem hq]
/-- the words of a throw but the four that speak of the heap -/
def vx_no (w : Cond) : Bool := decide (w ≠ .isRef (.static Bundle.tN "UNASSIGNED_STACK" Bundle.steD)) && decide (w ≠ .isRef (.static Bundle.tN "SUPPRESSED_SENTINEL" Bundle.listD)) && decide (w ≠ .laysStatic Bundle.tN "UNASSIGNED_STACK" Bundle.steD) && decide (w ≠ .laysStatic Bundle.tN "SUPPRESSED_SENTINEL" Bundle.listD)
def vx_at0 (own : String) (ic : Nat) (X : String) (names : List String) : List Cond := (Bundle.ownAtoms0 own ic X names).filter vx_no
def vx_atS (own : String) (ic : Nat) (X : String) (names : List String) : List Cond := (Bundle.ownAtoms own ic X names).filter vx_no
/-- a word that the tables alone decide, or a good one -/
def vx_ot (w : Cond) : Bool := w.onTables || goodWord w
theorem vx_ot_at {args a' : Array Value} {s U : State} {w : Cond} (hW : s.WarmedH U.vm) (hvm : s.vm = U.vm) (hg : vx_ot w = true) (h : w.before args s = true) : w.before a' U = true := by
  simp only [vx_ot, Bool.or_eq_true] at hg
  rcases hg with hg | hg
  · exact va_tabs hg hvm h
  · exact word_at hW (good_of_word hg) h
/-- a list's words: the good ones out of the method's own list, the others by premises of their own -/
theorem vx_hat {args : Array Value} {s : State} {L B : List Cond} (h1 : ∀ w ∈ L.filter goodWord, w.before args s = true) (h2 : ∀ w ∈ L.filter (fun w => !goodWord w), w ∈ B) (h3 : ∀ w ∈ B, w.before args s = true) : ∀ w ∈ L, w.before args s = true := by
  intro w hw
  by_cases g : goodWord w = true
  · exact h1 w (List.mem_filter.mpr ⟨hw, g⟩)
  · refine h3 w (h2 w (List.mem_filter.mpr ⟨hw, ?_⟩))
    show (!goodWord w) = true
    cases hgw : goodWord w
    · rfl
    · exact absurd hgw g
theorem vx_c {args : Array Value} {s : State} {w : Cond} {B : List Cond} (h : w.before args s = true) (t : ∀ w ∈ B, w.before args s = true) : ∀ w' ∈ w :: B, w'.before args s = true := fun w' h' => (List.mem_cons.mp h').elim (fun e => by rw [e]; exact h) (t w')
theorem vx_n {args : Array Value} {s : State} : ∀ w ∈ ([] : List Cond), w.before args s = true := fun _ h => nomatch h
theorem vx_own {args : Array Value} {s : State} {L : List Cond} (h1 : ∀ w ∈ L.filter vx_no, w.before args s = true)
    (hU : (Cond.isRef (.static Bundle.tN "UNASSIGNED_STACK" Bundle.steD)).before args s = true) (hN : (Cond.isRef (.static Bundle.tN "SUPPRESSED_SENTINEL" Bundle.listD)).before args s = true)
    (lU : (Cond.laysStatic Bundle.tN "UNASSIGNED_STACK" Bundle.steD).before args s = true) (lN : (Cond.laysStatic Bundle.tN "SUPPRESSED_SENTINEL" Bundle.listD).before args s = true) : ∀ w ∈ L, w.before args s = true := by
  intro w hw
  by_cases e1 : w = .isRef (.static Bundle.tN "UNASSIGNED_STACK" Bundle.steD)
  · rw [e1]; exact hU
  · by_cases e2 : w = .isRef (.static Bundle.tN "SUPPRESSED_SENTINEL" Bundle.listD)
    · rw [e2]; exact hN
    · by_cases e3 : w = .laysStatic Bundle.tN "UNASSIGNED_STACK" Bundle.steD
      · rw [e3]; exact lU
      · by_cases e4 : w = .laysStatic Bundle.tN "SUPPRESSED_SENTINEL" Bundle.listD
        · rw [e4]; exact lN
        · exact h1 w (List.mem_filter.mpr ⟨hw, by unfold vx_no; rw [decide_eq_true e1, decide_eq_true e2, decide_eq_true e3, decide_eq_true e4]; rfl⟩)
/-- where a static field lies, its class's statics cell in H -/
def vx_L (C n d : String) (A : Nat → Prop) (U : State) (H : Heap) : Prop := ∃ (c : ClassId) (k : Class) (i : Nat) (f : Field) (a : Nat) (cell : Cell), U.vm.findClass C = some c ∧ U.fieldFound? C n d = some (c, k, i, f) ∧ f.isStatic = true ∧ k.statics = some a ∧ H[a]? = some cell ∧ cell.vm.isStatics = true ∧ cell.cls = c ∧ f.slot < cell.slots.size ∧ k.staticTypes[f.slot]? = some f.type ∧ ¬ A a
theorem vx_L.moved {C n d : String} {A : Nat → Prop} {u U : State} {H : Heap} (hvm : u.vm.Alike U.vm) (h : vx_L C n d A u H) : vx_L C n d A U H := by
  obtain ⟨c, k, i, f, a, cell, h1, h2, h3, h4, h5, h6, h7, h8, h9, h10⟩ := h
  obtain ⟨k', hi', he⟩ := State.fieldFound?_setVm hvm h2
  exact ⟨c, k', i, f, a, cell, by rw [hvm.findClass]; exact h1, hi', h3, by rw [he]; exact h4, h5, h6, h7, h8, by rw [he]; exact h9, h10⟩
theorem vx_L.kept {C n d : String} {A : Nat → Prop} {U : State} {H H1 : Heap} (h : vx_L C n d A U H) (hq : ∀ a : Nat, a < H.size → ¬ A a → H1[a]? = H[a]?) : vx_L C n d A U H1 := by
  obtain ⟨c, k, i, f, a, cell, h1, h2, h3, h4, h5, h6, h7, h8, h9, h10⟩ := h
  exact ⟨c, k, i, f, a, cell, h1, h2, h3, h4, by rw [hq a (Array.getElem?_eq_some_iff.mp h5).1 h10]; exact h5, h6, h7, h8, h9, h10⟩
theorem vx_L.narrow {C n d : String} {A B : Nat → Prop} {U : State} {H : Heap} (h : vx_L C n d A U H) (hAB : ∀ q, B q → A q) : vx_L C n d B U H := by
  obtain ⟨c, k, i, f, a, cell, h1, h2, h3, h4, h5, h6, h7, h8, h9, h10⟩ := h
  exact ⟨c, k, i, f, a, cell, h1, h2, h3, h4, h5, h6, h7, h8, h9, fun z => h10 (hAB _ z)⟩
theorem vx_L.word {C n d : String} {A : Nat → Prop} {s : State} {args : Array Value} (h : vx_L C n d A s s.heap) : (Cond.laysStatic C n d).before args s = true := by
  obtain ⟨c, k, i, f, a, cell, h1, h2, h3, h4, h5, h6, h7, h8, h9, -⟩ := h
  show (Cond.laysStatic C n d).holds args s none s [] = true
  exact Cond.laysStatic_of h1 h2 h3 h4 h5 h6 h7 h8 h9
/-- .. and what it holds: null or some reference -/
def vx_Zq (C n d : String) (A : Nat → Prop) (U : State) (H : Heap) : Prop := va_Zq C n d A U H ∧ vx_L C n d A U H
theorem vx_Zq.moved {C n d : String} {A : Nat → Prop} {u U : State} {H : Heap} (hvm : u.vm.Alike U.vm) (h : vx_Zq C n d A u H) : vx_Zq C n d A U H := ⟨va_Zq.moved hvm h.1, vx_L.moved hvm h.2⟩
theorem vx_Zq.kept {C n d : String} {A : Nat → Prop} {U : State} {H H1 : Heap} (h : vx_Zq C n d A U H) (hq : ∀ a : Nat, a < H.size → ¬ A a → H1[a]? = H[a]?) : vx_Zq C n d A U H1 := ⟨va_Zq.kept h.1 hq, vx_L.kept h.2 hq⟩
theorem vx_Zq.narrow {C n d : String} {A B : Nat → Prop} {U : State} {H : Heap} (h : vx_Zq C n d A U H) (hAB : ∀ q, B q → A q) : vx_Zq C n d B U H := ⟨va_Zq.narrow h.1 hAB, vx_L.narrow h.2 hAB⟩
theorem vx_Zqof {args : Array Value} {s : State} {C n d : String} {A : Nat → Prop} (hl : (Cond.laysStatic C n d).before args s = true) (hini : (Cond.initialized C).before args s = true) (h : (Cond.isRef (.static C n d)).before args s = true) (hA : ∀ a : Nat, a < s.heap.size → ¬ A a) : vx_Zq C n d A s s.heap := by
  refine ⟨va_Zqof hl hini h hA, ?_⟩
  obtain ⟨c, k, i, f, a, cell, h1, h2, h3, h4, h5, h6, h7, h8, h9⟩ := Cond.laysStatic_spec hl
  exact ⟨c, k, i, f, a, cell, h1, h2, h3, h4, h5, h6, h7, h8, h9, hA a (Array.getElem?_eq_some_iff.mp h5).1⟩
theorem vx_isRef {C n d : String} {v : Value} {A : Nat → Prop} {s : State} {args : Array Value} (h : va_Z C n d v A s s.heap) (hv : v.isRef = true) : (Cond.isRef (.static C n d)).before args s = true := by
  obtain ⟨cf, kf, fi, f, a, cell, h1, h2, h3, h4, h5, h6, h7, -⟩ := h
  have he : (Term.static C n d).eval args s none [] s = some v := by
    simp [Term.eval, State.fieldNamed?, h1, h2, h4, h5, h6, h7]
  simp only [Cond.before, Cond.holds, Cond.value, he]
  cases v <;> simp_all [Value.isRef]
theorem vx_isRefq {C n d : String} {A : Nat → Prop} {s : State} {args : Array Value} (h : va_Zq C n d A s s.heap) : (Cond.isRef (.static C n d)).before args s = true := by
  rcases h with h | ⟨t, h⟩
  · exact vx_isRef h rfl
  · exact vx_isRef h rfl
/-- the same frame, seen from here: as if the method were called anew in this heap -/
theorem vx_rebase {T : State} (X : Stand p l e R s m args below meth c T locs cells slots) {R' : Room} (hf : R'.frames ≤ R.frames) (hl : R'.locals ≤ R.locals) (hc : cells + R'.cells ≤ R.cells) (hs : slots + R'.slots ≤ R.slots) :
    Stand p l e R' ((T.setVm s.vm).setFrames (.invoking m args :: below)) m args below meth c T [] 0 0 := by
  have htop : (T.setVm s.vm).topJava?.isSome := X.here.top
  have hF : ((T.setVm s.vm).setFrames (.invoking m args :: below)).frames = .invoking m args :: below := State.frames_setFrames _ (State.cur_lt_of_top htop)
  obtain ⟨g₀, hg0⟩ := Option.isSome_iff_exists.mp htop
  obtain ⟨r, hr⟩ := State.topJava?_eq_some.mp hg0
  have hl9 : e.platform.stackLimits (T.setVm s.vm).me = e.platform.stackLimits s.me := X.limits
  have hb9 : (T.setVm s.vm).me.stackBytes = s.me.stackBytes := X.bytes
  refine ⟨X.admits, X.cas, X.clock, hF, ?_, X.hears, X.method, X.code, X.here, X.tail, X.warmed, ?_, ?_, ?_⟩
  · have h := X.room
    have hU : ((T.setVm s.vm).setFrames (.invoking m args :: below)).localsInUse = s.localsInUse := by
      rw [State.localsInUse_invoking hF (meth := meth) (c := c) X.method X.code, State.localsInUse_invoking X.frames X.method X.code]
    simp only [State.hasRoom, Bool.and_eq_true, decide_eq_true_eq] at h ⊢
    obtain ⟨⟨⟨⟨h1, h2, h3, h4, h5, h6⟩, h7⟩, h8⟩, h9⟩ := h
    rw [X.frames, List.length_cons] at h2 h3
    have q1 := X.heapSize
    have q2 := X.used
    simp only [hF, hU, List.length_cons, State.stackLimits_setFrames, State.stackBytes_setFrames, hl9, hb9]
    refine ⟨⟨⟨⟨by omega, by omega, by omega, by omega, by omega, h6⟩, ?_⟩, ?_⟩, X.book⟩
    · show T.heap.size + R'.cells ≤ e.platform.maxCells
      omega
    · show T.slotsUsed + R'.slots ≤ e.platform.maxSlots
      omega
  · rw [State.stackLimits_setFrames]; rfl
  · rw [State.stackBytes_setFrames]; rfl
  · refine ⟨?_, Nat.le_refl _, Nat.le_refl _, ?_, ?_, fun a c9 h9 => ⟨c9, h9, rfl, rfl, fun _ _ => rfl⟩⟩
    · obtain ⟨t, ht, -⟩ := State.frames_cons hr
      show T.setVm s.vm = { ((T.setVm s.vm).setFrames (.invoking m args :: below)).setFrames (T.setVm s.vm).frames with heap := T.heap, slotsUsed := T.slotsUsed }
      rw [State.setFrames_setFrames, State.setFrames_self ht]
      rfl
    · show T.slotsUsed = T.slotsUsed + ((T.heap.toList.drop T.heap.size).map (·.slots.size)).sum
      rw [List.drop_eq_nil_of_le (Nat.le_of_eq Array.length_toList)]
      rfl
    · show ((T.heap.toList.drop T.heap.size).map (·.slots.size)).sum ≤ 0
      rw [List.drop_eq_nil_of_le (Nat.le_of_eq Array.length_toList)]
      exact Nat.le_refl _
/-- 'throw new E()': new; dup; invokespecial; athrow -/
theorem vx_throw0 {cc : ByteArray} {pc : Nat} (hexec : p.tables.exec = Jvm.exec) (hb : c.code = cc) (hl : l.stackTraces = false) {own cls : String} {names : List String} {ik ic mc ms : Nat} {A : Nat → Prop}
    (hown : s.vm.findClass own = some m.cls) (hcls : Bundle.fit cls = true) (hnames : ∀ n ∈ names, Bundle.fit n = true)
    (hk : (Cond.classLink own ik cls).before args s = true) (hini : (Cond.initialized cls).before args s = true) (hat : ∀ w ∈ vx_at0 own ic cls names, w.before args s = true)
    (hgood : ∀ w ∈ Cond.classLink own ik cls :: Cond.initialized cls :: vx_at0 own ic cls names, vx_ot w = true)
    (hU : vx_Zq Bundle.tN "UNASSIGNED_STACK" Bundle.steD A s s.heap) (hN : vx_Zq Bundle.tN "SUPPRESSED_SENTINEL" Bundle.listD A s s.heap) (hS : va_S A s.heap H locs) (hsize : ls.size = c.maxLocals)
    (d0 : decode cc pc = .ok (.new ik, 3)) (d3 : decode cc (pc + 3) = .ok (.dup, 1)) (d4 : decode cc (pc + 4) = .ok (.invokespecial ic, 3)) (d7 : decode cc (pc + 7) = .ok (.athrow, 1))
    (hout : ∀ x ∈ c.exceptionTable.toList, covers x (pc + 7) = false)
    (hRframes : names.length + 3 < R.frames) (hRlocals : (rest.map fun v => v.category).sum + (13 * (names.length + 1) + 42) ≤ R.locals) (hRcells : cells + 1 ≤ R.cells) (hRslots : slots + 6 ≤ R.slots) (hlocks : meth.locks = false)
    (hx : ∀ t : State, s.vm.Alike t.vm → H.size ≤ t.heap.size → (∀ q : Nat, q < H.size → t.heap[q]? = H[q]?) → XC cls s t)
    (hf : ∀ z ∈ locs, free z.base) (hc : cells + 1 ≤ mc) (hs : slots + 6 ≤ ms) :
    W p l e R s m args below meth c H locs cells slots (vx_MQ below Qc XC args s mc ms free) (F0 m pc ls rest) := by
  intro T hT X
  have htr : e.platform.stackTraces = false := (show e.platform.stackTraces = l.stackTraces by rw [X.admits.platform]).trans hl
  have Y := vx_rebase X (R' := { frames := R.frames, locals := R.locals, cells := 1, slots := 6 }) (Nat.le_refl _) (Nat.le_refl _) hRcells hRslots
  obtain ⟨s', hA⟩ : ∃ z, z = (T.setVm s.vm).setFrames (.invoking m args :: below) := ⟨_, rfl⟩
  rw [← hA] at Y
  have hvm : s'.vm = s.vm := by rw [hA]; rfl
  have hhp : s'.heap = H := by rw [hA]; exact hT
  have hW0 : s.WarmedH s'.vm := by rw [hvm]; exact State.WarmedH.refl s
  have hat' : ∀ w ∈ vx_at0 own ic cls names, w.before args s' = true := fun w hw => vx_ot_at hW0 hvm.symm (hgood w (List.mem_cons_of_mem _ (List.mem_cons_of_mem _ hw))) (hat w hw)
  have hk' : (Cond.classLink own ik cls).before args s' = true := vx_ot_at hW0 hvm.symm (hgood _ List.mem_cons_self) hk
  have hini' : (Cond.initialized cls).before args s' = true := vx_ot_at hW0 hvm.symm (hgood _ (List.mem_cons_of_mem _ List.mem_cons_self)) hini
  have hU' : vx_Zq Bundle.tN "UNASSIGNED_STACK" Bundle.steD A s' s'.heap := by rw [hhp]; exact vx_Zq.moved hW0.alike (hU.kept hS.2.1)
  have hN' : vx_Zq Bundle.tN "SUPPRESSED_SENTINEL" Bundle.listD A s' s'.heap := by rw [hhp]; exact vx_Zq.moved hW0.alike (hN.kept hS.2.1)
  have h : ∀ w ∈ Bundle.ownAtoms0 own ic cls names, w.before args s' = true := vx_own hat' (vx_isRefq hU'.1) (vx_isRefq hN'.1) hU'.2.word hN'.2.word
  have hown' : s'.vm.findClass own = some m.cls := by rw [hvm]; exact hown
  have hins : (Cond.instantiable cls 6).before args s' = true := h _ (by simp [Bundle.ownAtoms0])
  obtain ⟨vm₁, cX, kX, hfX, hkX, -, -, X₁, st1⟩ := Y.newCold hexec (own := own) (C := cls) (index := ik) (n := 6) hown' hk' hins hini'
    (g := F0 m pc ls rest) rfl (by rw [hb]; exact d0) (Nat.le_refl _) (Nat.le_refl _)
  generalize hT1 : (T.setVm vm₁).pushCell { cls := cX, slots := kX.instanceTypes.map defaultValue, vm := .none } = T1 at X₁ st1
  have hcat : (Value.ref T.heap.size).category = 1 := rfl
  have hcellA : T1.heap[T.heap.size]? = some (freshCell cX kX) := by rw [← hT1]; exact State.heap_pushCell_size _ _
  have d3' : decode c.code (pc + 3) = .ok (.dup, 1) := by rw [hb]; exact d3
  obtain ⟨U, hsteps, hrun, hend, hW, hsame, ce, hce, hO⟩ := X₁.ctorThrow0 hexec htr (own := own) (cls := cls) (names := names) (ic := ic) hown' hcls hnames h (fun x hx => nomatch hx) hfX hkX hcellA (by rw [hhp, hT]; exact Nat.le_refl _)
    (g := { method := m, pc := pc + 4, locals := ls, stack := .ref T.heap.size :: .ref T.heap.size :: rest, locked := none }) rfl hsize rfl rfl (rest := rest) rfl
    (by rw [hb]; exact d4) (by rw [hb]; exact d7) hout hRframes (by simp only [List.map_cons, List.sum_cons, hcat]; omega) hlocks
  obtain ⟨f1, f2⟩ := vx_frame hsame
  rw [hhp] at f1 f2
  have hWs : s.WarmedH U.vm := State.WarmedH.trans hW0 hW
  have hcl : s.vm.findClass cls = some ce.cls := by
    have h9 := hO.cls
    rw [hvm] at h9
    exact h9
  have hall : s.sameButNew ({ U with vm := s.vm } : State) locs mc ms := by
    subst hA
    obtain ⟨e1, e2⟩ := hsame
    rw [State.setFrames_setFrames] at e1
    have h2 : (T.setVm s.vm).sameButNew ({ U with vm := s.vm } : State) [] (0 + 1) (0 + 6) := ⟨e1, e2⟩
    have h3 := X.same.trans h2
    rw [List.append_nil] at h3
    exact h3.mono hc hs
  refine ⟨U, ?_, .threw T.heap.size, hrun, hend, Or.inr ⟨T.heap.size, rfl, cls, ce, locs, hx U hWs.alike f1 (fun q hq => f2 q hq (fun z hz => nomatch hz)), hce, hO.vm, hcl, hWs, hall, hf⟩⟩
  refine st1 _ ?_
  show Steps p.tables e below (T1.setTop { method := m, pc := pc + 3, locals := ls, stack := .ref T.heap.size :: rest, locked := none }) _
  jvm_step X₁.here [X₁.here.top, hexec, d3', Value.category]
  exact hsteps
/-- 'throw new E("text")': new; dup; ldc; invokespecial; athrow -/
theorem vx_throwS {cc : ByteArray} {pc : Nat} (hexec : p.tables.exec = Jvm.exec) (hb : c.code = cc) (hl : l.stackTraces = false) {own cls text : String} {names : List String} {ik is ic mc ms sa : Nat} {A : Nat → Prop}
    (hown : s.vm.findClass own = some m.cls) (hcls : Bundle.fit cls = true) (hnames : ∀ n ∈ names, Bundle.fit n = true)
    (hk : (Cond.classLink own ik cls).before args s = true) (hini : (Cond.initialized cls).before args s = true) (hstr : vk_R own is text sa s) (hat : ∀ w ∈ vx_atS own ic cls names, w.before args s = true)
    (hgood : ∀ w ∈ Cond.classLink own ik cls :: Cond.initialized cls :: vx_atS own ic cls names, vx_ot w = true)
    (hU : vx_Zq Bundle.tN "UNASSIGNED_STACK" Bundle.steD A s s.heap) (hN : vx_Zq Bundle.tN "SUPPRESSED_SENTINEL" Bundle.listD A s s.heap) (hS : va_S A s.heap H locs) (hsize : ls.size = c.maxLocals)
    (d0 : decode cc pc = .ok (.new ik, 3)) (d3 : decode cc (pc + 3) = .ok (.dup, 1)) (d4 : decode cc (pc + 4) = .ok (.ldc is, 2)) (d6 : decode cc (pc + 6) = .ok (.invokespecial ic, 3)) (d9 : decode cc (pc + 9) = .ok (.athrow, 1))
    (hout : ∀ x ∈ c.exceptionTable.toList, covers x (pc + 9) = false)
    (hRframes : names.length + 3 < R.frames) (hRlocals : (rest.map fun v => v.category).sum + (13 * (names.length + 1) + 43) ≤ R.locals) (hRcells : cells + 1 ≤ R.cells) (hRslots : slots + 6 ≤ R.slots) (hlocks : meth.locks = false)
    (hx : ∀ t : State, s.vm.Alike t.vm → H.size ≤ t.heap.size → (∀ q : Nat, q < H.size → t.heap[q]? = H[q]?) → XC cls s t)
    (hf : ∀ z ∈ locs, free z.base) (hc : cells + 1 ≤ mc) (hs : slots + 6 ≤ ms) :
    W p l e R s m args below meth c H locs cells slots (vx_MQ below Qc XC args s mc ms free) (F0 m pc ls rest) := by
  intro T hT X
  have htr : e.platform.stackTraces = false := (show e.platform.stackTraces = l.stackTraces by rw [X.admits.platform]).trans hl
  have Y := vx_rebase X (R' := { frames := R.frames, locals := R.locals, cells := 1, slots := 6 }) (Nat.le_refl _) (Nat.le_refl _) hRcells hRslots
  obtain ⟨s', hA⟩ : ∃ z, z = (T.setVm s.vm).setFrames (.invoking m args :: below) := ⟨_, rfl⟩
  rw [← hA] at Y
  have hvm : s'.vm = s.vm := by rw [hA]; rfl
  have hhp : s'.heap = H := by rw [hA]; exact hT
  have hW0 : s.WarmedH s'.vm := by rw [hvm]; exact State.WarmedH.refl s
  have hat' : ∀ w ∈ vx_atS own ic cls names, w.before args s' = true := fun w hw => vx_ot_at hW0 hvm.symm (hgood w (List.mem_cons_of_mem _ (List.mem_cons_of_mem _ hw))) (hat w hw)
  have hk' : (Cond.classLink own ik cls).before args s' = true := vx_ot_at hW0 hvm.symm (hgood _ List.mem_cons_self) hk
  have hini' : (Cond.initialized cls).before args s' = true := vx_ot_at hW0 hvm.symm (hgood _ (List.mem_cons_of_mem _ List.mem_cons_self)) hini
  have hU' : vx_Zq Bundle.tN "UNASSIGNED_STACK" Bundle.steD A s' s'.heap := by rw [hhp]; exact vx_Zq.moved hW0.alike (hU.kept hS.2.1)
  have hN' : vx_Zq Bundle.tN "SUPPRESSED_SENTINEL" Bundle.listD A s' s'.heap := by rw [hhp]; exact vx_Zq.moved hW0.alike (hN.kept hS.2.1)
  have h : ∀ w ∈ Bundle.ownAtoms own ic cls names, w.before args s' = true := vx_own hat' (vx_isRefq hU'.1) (vx_isRefq hN'.1) hU'.2.word hN'.2.word
  have hown' : s'.vm.findClass own = some m.cls := by rw [hvm]; exact hown
  have hins : (Cond.instantiable cls 6).before args s' = true := h _ (by simp [Bundle.ownAtoms])
  obtain ⟨vm₁, cX, kX, hfX, hkX, -, -, X₁, st1⟩ := Y.newCold hexec (own := own) (C := cls) (index := ik) (n := 6) hown' hk' hins hini'
    (g := F0 m pc ls rest) rfl (by rw [hb]; exact d0) (Nat.le_refl _) (Nat.le_refl _)
  generalize hT1 : (T.setVm vm₁).pushCell { cls := cX, slots := kX.instanceTypes.map defaultValue, vm := .none } = T1 at X₁ st1
  have hcat : (Value.ref T.heap.size).category = 1 := rfl
  have hcellA : T1.heap[T.heap.size]? = some (freshCell cX kX) := by rw [← hT1]; exact State.heap_pushCell_size _ _
  have d3' : decode c.code (pc + 3) = .ok (.dup, 1) := by rw [hb]; exact d3
  have d4' : decode c.code (pc + 4) = .ok (.ldc is, 2) := by rw [hb]; exact d4
  have hstr' : vk_R own is text sa s' := vk_R.warm hW0 hstr
  obtain ⟨U, hsteps, hrun, hend, hW, hsame, ce, hce, hO⟩ := X₁.ctorThrowS hexec htr (own := own) (cls := cls) (names := names) (ic := ic) hown' hcls hnames h (fun x hx => nomatch hx) hfX hkX hcellA (by rw [hhp, hT]; exact Nat.le_refl _) (msg := .ref sa) rfl
    (g := { method := m, pc := pc + 6, locals := ls, stack := .ref sa :: .ref T.heap.size :: .ref T.heap.size :: rest, locked := none }) rfl hsize rfl rfl (rest := rest) rfl
    (by rw [hb]; exact d6) (by rw [hb]; exact d9) hout hRframes (by simp only [List.map_cons, List.sum_cons, hcat]; omega) hlocks
  obtain ⟨f1, f2⟩ := vx_frame hsame
  rw [hhp] at f1 f2
  have hWs : s.WarmedH U.vm := State.WarmedH.trans hW0 hW
  have hcl : s.vm.findClass cls = some ce.cls := by
    have h9 := hO.cls
    rw [hvm] at h9
    exact h9
  have hall : s.sameButNew ({ U with vm := s.vm } : State) locs mc ms := by
    subst hA
    obtain ⟨e1, e2⟩ := hsame
    rw [State.setFrames_setFrames] at e1
    have h2 : (T.setVm s.vm).sameButNew ({ U with vm := s.vm } : State) [] (0 + 1) (0 + 6) := ⟨e1, e2⟩
    have h3 := X.same.trans h2
    rw [List.append_nil] at h3
    exact h3.mono hc hs
  refine ⟨U, ?_, .threw T.heap.size, hrun, hend, Or.inr ⟨T.heap.size, rfl, cls, ce, locs, hx U hWs.alike f1 (fun q hq => f2 q hq (fun z hz => nomatch hz)), hce, hO.vm, hcl, hWs, hall, hf⟩⟩
  refine st1 _ ?_
  show Steps p.tables e below (T1.setTop { method := m, pc := pc + 3, locals := ls, stack := .ref T.heap.size :: rest, locked := none }) _
  jvm_step X₁.here [X₁.here.top, hexec, d3', Value.category]
  exact X₁.ldcString hexec (own := own) (text := text) (index := is) (a := sa) hown' hstr'.1 hstr'.2
    (g := { method := m, pc := pc + 4, locals := ls, stack := .ref T.heap.size :: .ref T.heap.size :: rest, locked := none }) rfl d4' _ hsteps
/-- 'throw new E("text")', the text by a wide index -/
theorem vx_throwSW {cc : ByteArray} {pc : Nat} (hexec : p.tables.exec = Jvm.exec) (hb : c.code = cc) (hl : l.stackTraces = false) {own cls text : String} {names : List String} {ik is ic mc ms sa : Nat} {A : Nat → Prop}
    (hown : s.vm.findClass own = some m.cls) (hcls : Bundle.fit cls = true) (hnames : ∀ n ∈ names, Bundle.fit n = true)
    (hk : (Cond.classLink own ik cls).before args s = true) (hini : (Cond.initialized cls).before args s = true) (hstr : vk_R own is text sa s) (hat : ∀ w ∈ vx_atS own ic cls names, w.before args s = true)
    (hgood : ∀ w ∈ Cond.classLink own ik cls :: Cond.initialized cls :: vx_atS own ic cls names, vx_ot w = true)
    (hU : vx_Zq Bundle.tN "UNASSIGNED_STACK" Bundle.steD A s s.heap) (hN : vx_Zq Bundle.tN "SUPPRESSED_SENTINEL" Bundle.listD A s s.heap) (hS : va_S A s.heap H locs) (hsize : ls.size = c.maxLocals)
    (d0 : decode cc pc = .ok (.new ik, 3)) (d3 : decode cc (pc + 3) = .ok (.dup, 1)) (d4 : decode cc (pc + 4) = .ok (.ldc_w is, 3)) (d7 : decode cc (pc + 7) = .ok (.invokespecial ic, 3)) (d10 : decode cc (pc + 10) = .ok (.athrow, 1))
    (hout : ∀ x ∈ c.exceptionTable.toList, covers x (pc + 10) = false)
    (hRframes : names.length + 3 < R.frames) (hRlocals : (rest.map fun v => v.category).sum + (13 * (names.length + 1) + 43) ≤ R.locals) (hRcells : cells + 1 ≤ R.cells) (hRslots : slots + 6 ≤ R.slots) (hlocks : meth.locks = false)
    (hx : ∀ t : State, s.vm.Alike t.vm → H.size ≤ t.heap.size → (∀ q : Nat, q < H.size → t.heap[q]? = H[q]?) → XC cls s t)
    (hf : ∀ z ∈ locs, free z.base) (hc : cells + 1 ≤ mc) (hs : slots + 6 ≤ ms) :
    W p l e R s m args below meth c H locs cells slots (vx_MQ below Qc XC args s mc ms free) (F0 m pc ls rest) := by
  intro T hT X
  have htr : e.platform.stackTraces = false := (show e.platform.stackTraces = l.stackTraces by rw [X.admits.platform]).trans hl
  have Y := vx_rebase X (R' := { frames := R.frames, locals := R.locals, cells := 1, slots := 6 }) (Nat.le_refl _) (Nat.le_refl _) hRcells hRslots
  obtain ⟨s', hA⟩ : ∃ z, z = (T.setVm s.vm).setFrames (.invoking m args :: below) := ⟨_, rfl⟩
  rw [← hA] at Y
  have hvm : s'.vm = s.vm := by rw [hA]; rfl
  have hhp : s'.heap = H := by rw [hA]; exact hT
  have hW0 : s.WarmedH s'.vm := by rw [hvm]; exact State.WarmedH.refl s
  have hat' : ∀ w ∈ vx_atS own ic cls names, w.before args s' = true := fun w hw => vx_ot_at hW0 hvm.symm (hgood w (List.mem_cons_of_mem _ (List.mem_cons_of_mem _ hw))) (hat w hw)
  have hk' : (Cond.classLink own ik cls).before args s' = true := vx_ot_at hW0 hvm.symm (hgood _ List.mem_cons_self) hk
  have hini' : (Cond.initialized cls).before args s' = true := vx_ot_at hW0 hvm.symm (hgood _ (List.mem_cons_of_mem _ List.mem_cons_self)) hini
  have hU' : vx_Zq Bundle.tN "UNASSIGNED_STACK" Bundle.steD A s' s'.heap := by rw [hhp]; exact vx_Zq.moved hW0.alike (hU.kept hS.2.1)
  have hN' : vx_Zq Bundle.tN "SUPPRESSED_SENTINEL" Bundle.listD A s' s'.heap := by rw [hhp]; exact vx_Zq.moved hW0.alike (hN.kept hS.2.1)
  have h : ∀ w ∈ Bundle.ownAtoms own ic cls names, w.before args s' = true := vx_own hat' (vx_isRefq hU'.1) (vx_isRefq hN'.1) hU'.2.word hN'.2.word
  have hown' : s'.vm.findClass own = some m.cls := by rw [hvm]; exact hown
  have hins : (Cond.instantiable cls 6).before args s' = true := h _ (by simp [Bundle.ownAtoms])
  obtain ⟨vm₁, cX, kX, hfX, hkX, -, -, X₁, st1⟩ := Y.newCold hexec (own := own) (C := cls) (index := ik) (n := 6) hown' hk' hins hini'
    (g := F0 m pc ls rest) rfl (by rw [hb]; exact d0) (Nat.le_refl _) (Nat.le_refl _)
  generalize hT1 : (T.setVm vm₁).pushCell { cls := cX, slots := kX.instanceTypes.map defaultValue, vm := .none } = T1 at X₁ st1
  have hcat : (Value.ref T.heap.size).category = 1 := rfl
  have hcellA : T1.heap[T.heap.size]? = some (freshCell cX kX) := by rw [← hT1]; exact State.heap_pushCell_size _ _
  have d3' : decode c.code (pc + 3) = .ok (.dup, 1) := by rw [hb]; exact d3
  have d4' : decode c.code (pc + 4) = .ok (.ldc_w is, 3) := by rw [hb]; exact d4
  have hstr' : vk_R own is text sa s' := vk_R.warm hW0 hstr
  obtain ⟨U, hsteps, hrun, hend, hW, hsame, ce, hce, hO⟩ := X₁.ctorThrowS hexec htr (own := own) (cls := cls) (names := names) (ic := ic) hown' hcls hnames h (fun x hx => nomatch hx) hfX hkX hcellA (by rw [hhp, hT]; exact Nat.le_refl _) (msg := .ref sa) rfl
    (g := { method := m, pc := pc + 7, locals := ls, stack := .ref sa :: .ref T.heap.size :: .ref T.heap.size :: rest, locked := none }) rfl hsize rfl rfl (rest := rest) rfl
    (by rw [hb]; exact d7) (by rw [hb]; exact d10) hout hRframes (by simp only [List.map_cons, List.sum_cons, hcat]; omega) hlocks
  obtain ⟨f1, f2⟩ := vx_frame hsame
  rw [hhp] at f1 f2
  have hWs : s.WarmedH U.vm := State.WarmedH.trans hW0 hW
  have hcl : s.vm.findClass cls = some ce.cls := by
    have h9 := hO.cls
    rw [hvm] at h9
    exact h9
  have hall : s.sameButNew ({ U with vm := s.vm } : State) locs mc ms := by
    subst hA
    obtain ⟨e1, e2⟩ := hsame
    rw [State.setFrames_setFrames] at e1
    have h2 : (T.setVm s.vm).sameButNew ({ U with vm := s.vm } : State) [] (0 + 1) (0 + 6) := ⟨e1, e2⟩
    have h3 := X.same.trans h2
    rw [List.append_nil] at h3
    exact h3.mono hc hs
  refine ⟨U, ?_, .threw T.heap.size, hrun, hend, Or.inr ⟨T.heap.size, rfl, cls, ce, locs, hx U hWs.alike f1 (fun q hq => f2 q hq (fun z hz => nomatch hz)), hce, hO.vm, hcl, hWs, hall, hf⟩⟩
  refine st1 _ ?_
  show Steps p.tables e below (T1.setTop { method := m, pc := pc + 3, locals := ls, stack := .ref T.heap.size :: rest, locked := none }) _
  jvm_step X₁.here [X₁.here.top, hexec, d3', Value.category]
  exact X₁.ldcStringW hexec (own := own) (text := text) (index := is) (a := sa) hown' hstr'.1 hstr'.2
    (g := { method := m, pc := pc + 4, locals := ls, stack := .ref T.heap.size :: .ref T.heap.size :: rest, locked := none }) rfl d4' _ hsteps
end Ends
section Bodies
variable {l : Launch}
theorem vx_ofW {y : MethodName} {ws ws' : List Cond} {rm : Room} {Pc : Array Value → State → Prop} {Qc : Array Value → State → Outcome → State → Prop} {XC : String → State → State → Prop} {mc ms : Nat} {free : Addr → Prop} {cc : ByteArray} {maxL : Nat} {ret : Option FieldType}
    (hy : plainName y.cls = true) (hw : ws = Cond.code y cc maxL ret :: ws')
    (body : ∀ p e s m args below meth c s₁, BodyLoose p l y (headSpec ws rm) cc maxL ret e s m args below meth c s₁ → c.maxLocals = maxL → (∀ x ∈ c.exceptionTable.toList, False) → Pc args s →
      W p l e (headSpec ws rm).room s m args below meth c s.heap [] 0 0 (vx_MQ below Qc XC args s mc ms free) (entryFrame m args maxL)) : vx_Met l y ws rm Pc Qc XC mc ms free := by
  refine MetFree.of_bodyS (code := cc) (maxLocals := maxL) (ret := ret) hy ?_ ?_
  · intro args s m h hn
    obtain ⟨meth, c, h1, h2, h3, h4, h5, h6, -, -⟩ := Cond.code_spec hn (atoms_spec (ws := ws) h _ (by rw [hw]; exact List.mem_cons_self))
    exact ⟨meth, c, h1, h2, h3, h4, h5, h6⟩
  · intro p e s m args below meth c s₁ B hml hP _
    have hh0 : s₁.heap = s.heap := by rw [B.state]; rfl
    have ht : ∀ x ∈ c.exceptionTable.toList, False := by
      obtain ⟨meth9, c9, h1, h2, -, -, -, -, h7, -⟩ := Cond.code_spec B.named (atoms_spec (ws := ws) B.pre _ (by rw [hw]; exact List.mem_cons_self))
      cases Option.some.inj (h1.symm.trans B.method)
      cases Option.some.inj (h2.symm.trans (Stand.of_body B).code)
      intro x hx
      rw [Array.isEmpty_iff.mp h7] at hx
      cases hx
    obtain ⟨t, a1, o, b1, b2, b3⟩ := body p e s m args below meth c s₁ B hml ht hP s₁ hh0 (Stand.of_body B)
    exact ⟨t, o, a1, b1, b2, b3⟩
/-- the table of a body with handlers -/
theorem vx_table {p : Program} {x y : MethodName} {S : Spec} {cc bytes : ByteArray} {maxL maxL' : Nat} {ret ret' : Option FieldType} {e : Env} {s s₁ : State} {m : MethodId} {args : Array Value} {below : List Frame} {meth : Method} {c : Code} {hh : List (Nat × Nat × Nat × Nat)}
    (B : BodyLoose p l y S cc maxL ret e s m args below meth c s₁) (h : (Cond.codeWith y bytes maxL' ret' hh).before args s = true) : c.exceptionTable.toList = tableOf hh := by
  obtain ⟨m9, meth9, c9, hn9, h1, h2, -, -, h6, -⟩ := Cond.codeWith_spec h
  cases Option.some.inj (hn9.symm.trans B.named)
  cases Option.some.inj (h1.symm.trans B.method)
  cases Option.some.inj (h2.symm.trans (Stand.of_body B).code)
  rw [← h6, table_eq]
end Bodies
end VXA
/-! ===== END ===== -/
/-! ===== BEGIN a static call of a method with an exception table ===== -/
section VXS
variable {p : Program} {l : Launch} {e : Env} {R : Room} {s : State} {m : MethodId} {args : Array Value} {below : List Frame} {meth : Method} {c : Code} {T : State} {H : Heap} {locs : List Loc} {cells slots : Nat}
abbrev vx_CSW (R : Room) (s : State) (args : Array Value) (own : String) (index : Nat) (y : MethodName) (bytes : ByteArray) (maxL : Nat) (ret : Option FieldType) (hh : List (Nat × Nat × Nat × Nat)) (ws : List Cond) (rm : Room) (mc ms n : Nat) : Prop :=
  (rm.cells = mc ∧ rm.slots = ms ∧ rm.frames + 1 ≤ R.frames ∧ 8 + (maxL + 11) + rm.locals ≤ R.locals ∧ (∀ w ∈ ws, ∀ (a' : Array Value) (U : State), s.WarmedH U.vm → w.before a' U = true) ∧ Cond.codeWith y bytes maxL ret hh ∈ ws) ∧
  (Cond.codeWith y bytes maxL ret hh).before args s = true ∧ (Cond.initialized y.cls).before args s = true ∧ (y.cls ≠ "java/lang/invoke/MethodHandle" ∧ y.cls ≠ "java/lang/invoke/VarHandle") ∧
  (∀ sig, parseMethodDescriptor y.desc = some sig → n = sig.parameters.length) ∧ (Cond.methodLink own index y).before args s = true ∧ (Cond.static y).before args s = true
theorem vx_cwSW {own : String} {index maxL mc ms : Nat} {y : MethodName} {bytes : ByteArray} {ret : Option FieldType} {hh : List (Nat × Nat × Nat × Nat)} {Ts ws ws' : List Cond} {rm : Room} (n : Nat) (ht : ∀ w ∈ Ts, w.before args s = true) (hT : GoodIn Ts (va_wsS own index y ws)) (hw : ws = Cond.codeWith y bytes maxL ret hh :: ws') (hrc : rm.cells = mc) (hrs : rm.slots = ms)
    (hd : y.cls ≠ "java/lang/invoke/MethodHandle" ∧ y.cls ≠ "java/lang/invoke/VarHandle" ∧ (parseMethodDescriptor y.desc).map (fun d => d.parameters.length) = some n) (hR : rm.frames + 1 ≤ R.frames ∧ 8 + (maxL + 11) + rm.locals ≤ R.locals) :
    vx_CSW R s args own index y bytes maxL ret hh ws rm mc ms n := by
  have ok : ∀ w ∈ va_wsS own index y ws, w.before args s = true := fun w h => ht w (hT w h).1
  have hG : GoodIn Ts ws := fun w h => hT w (by unfold va_wsS; exact List.mem_append_right _ h)
  have hc : Cond.codeWith y bytes maxL ret hh ∈ ws := by rw [hw]; exact List.mem_cons_self
  refine ⟨⟨hrc, hrs, hR.1, hR.2, pay_in ht hG, hc⟩, ht _ (hG _ hc).1, ok _ (by simp [va_wsS]), ⟨hd.1, hd.2.1⟩, fun sig h => ?_, ok _ (by simp [va_wsS]), ok _ (by simp [va_wsS])⟩
  have h2 := hd.2.2
  rw [h] at h2
  exact (Option.some.inj h2).symm
theorem vx_callSW (X : Stand p l e R s m args below meth c T locs cells slots) (hexec : p.tables.exec = Jvm.exec) {own : String} {index : Nat} {y : MethodName} {bytes : ByteArray} {maxL : Nat} {ret : Option FieldType} {hh : List (Nat × Nat × Nat × Nat)}
    (hown : s.vm.findClass own = some m.cls) (hlink : (Cond.methodLink own index y).before args s = true) (hstat : (Cond.static y).before args s = true) (hinit : (Cond.initialized y.cls).before args s = true)
    (hcode : (Cond.codeWith y bytes maxL ret hh).before args s = true) (hy : y.cls ≠ "java/lang/invoke/MethodHandle" ∧ y.cls ≠ "java/lang/invoke/VarHandle")
    {W9 : Nat} {Pre : Pt → Array Value → Prop} {Post : Pt → Array Value → Option Value → Pt → Prop} (hK : Back l R p e below s args y 3 W9 Pre Post)
    {g : JFrame} (hg : g.method = m) (hsize : g.locals.size = c.maxLocals) {argsL rest : List Value} (hlen : ∀ sig, parseMethodDescriptor y.desc = some sig → argsL.length = sig.parameters.length)
    (hstack : g.stack = argsL.reverse ++ rest) (hW : 2 * g.monitorRoom + (rest.map fun v => v.category).sum ≤ W9) (hdg : decode c.code g.pc = .ok (.invokestatic index, 3))
    (hpre : ∀ vm₁, s.WarmedH vm₁ → Pre ⟨T.setVm vm₁, locs, cells, slots⟩ argsL.toArray) :
    ∃ (v : Option Value) (vm₁ : Vm) (B : Pt), s.WarmedH vm₁ ∧ Stand p l e R s m args below meth c B.U B.locs B.cells B.slots ∧ Post ⟨T.setVm vm₁, locs, cells, slots⟩ argsL.toArray v B ∧
      ∀ target, Steps p.tables e below (B.U.setTop { g with pc := g.pc + 3, stack := v.toList ++ rest }) target → Steps p.tables e below (T.setTop g) target := by
  obtain ⟨mk, methM, cM, hnamed, hmethM, -, -, -, -, -, -, hsigM⟩ := Cond.codeWith_spec hcode
  have hstatic : methM.isStatic = true := Cond.static_spec hnamed hmethM hstat
  obtain ⟨kP, hkP, -⟩ := className_of_methodNamed hnamed
  have hinitP : kP.init = .initialized := Cond.initialized_spec (findClass_of_methodNamed hnamed) hkP hinit
  obtain ⟨vm₁, X₁, hstep₁⟩ := X.invokestatic hexec hown hlink hnamed hmethM hstatic hkP hinitP hy (g := g) hg (argsL := argsL) (rest := rest) (hlen _ hsigM) hstack hdg
  obtain ⟨v, B, X', hpost, hsteps⟩ := hK m meth c ⟨T.setVm vm₁, locs, cells, slots⟩ { g with stack := rest } (.invokestatic index) mk argsL.toArray X₁ hg hsize hdg hW (X₁.named hnamed) (hpre vm₁ X₁.warmed)
  exact ⟨v, vm₁, B, X₁.warmed, X', hpost, fun target h => hstep₁ _ fun acts => by rw [doInvoke_state]; exact hsteps.trans h⟩
theorem vx_runSW {y : MethodName} {bytes cc : ByteArray} {maxL nL mc ms n index : Nat} {ret : Option FieldType} {hh : List (Nat × Nat × Nat × Nat)} {ws : List Cond} {rm : Room} {Pc : Array Value → State → Prop} {Qc : Array Value → State → Outcome → State → Prop} {free : Addr → Prop} {Ts : List Cond} {own : String} {As rest : List Value} {g : JFrame}
    (S : CallFix p m c cc nL s args Ts own) (hM : Met l y ws rm Pc Qc mc ms free) (cw : vx_CSW R s args own index y bytes maxL ret hh ws rm mc ms n) (hp : PreS s H Pc As)
    (hg : g.method = m) (hn : As.length = n) (hsize : g.locals.size = nL) (hstack : g.stack = As.reverse ++ rest) (hW : 2 * g.monitorRoom + (rest.map fun v => v.category).sum ≤ 8) (hdg : decode cc g.pc = .ok (.invokestatic index, 3)) (hf : cells + mc ≤ R.cells ∧ slots + ms ≤ R.slots) :
    va_Run p l e R s m args below meth c H locs cells slots mc ms g rest (Qc As.toArray) (free) := by
  obtain ⟨⟨hrc, hrs, hfr, hlo, hws, hcw⟩, hcode, hini, hy, hlen, hl, hstt⟩ := cw
  have hK : Back l R p e below s args y 3 8 (PreOf R mc ms Pc) (PostOf Qc mc ms free) := va_backW (hh := hh) (bytes := bytes) (maxL := maxL) (ret := ret) hM hp.1 hrc hrs hfr hlo hws hcw (fun a' U hW => word_at hW (Or.inl (by first | rfl | simp [Cond.onTables, Cond.keeps, Cond.steady])) hini)
  obtain ⟨hx, hb, hml, ho, -⟩ := S
  intro T hT X
  obtain ⟨v, vm₁, ⟨U', l2, c2, s2⟩, hW₁, X', ⟨g', mk, t, L, e1, e2, hq, h1, hL, h2, h3⟩, st⟩ := vx_callSW X hx (hh := hh) (bytes := bytes) (maxL := maxL) (ret := ret) ho hl hstt hini hcode hy hK hg (hsize.trans hml.symm) (argsL := As) (rest := rest) (fun sig h => hn.trans (hlen sig h)) hstack hW (by rw [hb]; exact hdg)
    (fun vm₁ hW₁ => ⟨hf.1, hf.2, hp.2 (T.setVm vm₁) hT hW₁⟩)
  dsimp only [Pt.U, Pt.locs, Pt.cells, Pt.slots] at X' e1 e2 h1 h2 h3 st
  subst h1; subst h2; subst h3
  exact ⟨v, (T.setVm vm₁).calling g' mk As.toArray, t, U', L, hT, X', hL, e1, e2, hq, st⟩
/-- not caught here, past rows that name other classes: it goes on to the caller -/
theorem vx_outP {p : Program} {l : Launch} {e : Env} {R : Room} {s : State} {m : MethodId} {args : Array Value} {below : List Frame} {meth : Method} {c : Code} {H : Heap} {locs : List Loc} {cells slots : Nat} {free : Addr → Prop} {ls : Array Slot} {rest : List Value} {Qc : Array Value → State → Outcome → State → Prop} {XC : String → State → State → Prop}
    {pc : Nat} {own E : String} {ce : Cell} {q : Addr} {mc ms : Nat} (hown : s.vm.findClass own = some m.cls) (hlocks : meth.locks = false)
    (hpass : ∀ z ∈ c.exceptionTable.toList, covers z pc = false ∨ (z.catchType ≠ 0 ∧ ∃ nm : String, (Cond.classLink own z.catchType nm).before args s = true ∧ va_Nc E nm s)) (hcell : H[q]? = some ce) (hv : ce.vm = .none) (hcl : s.vm.findClass E = some ce.cls)
    (hx : ∀ t : State, t.heap = H → s.vm.Alike t.vm → XC E s t) (hf : ∀ z ∈ locs, free z.base) (hc : cells ≤ mc) (hs : slots ≤ ms) :
    vx_W p l e R s m args below meth c H locs cells slots (vx_MQ below Qc XC args s mc ms free) (F0 m pc ls rest) q := by
  intro T hT X
  have hpl : e.platform.magicAccessors = ({} : Platform).magicAccessors := by rw [X.admits.platform]
  obtain ⟨vm', hW', X', st⟩ := X.outThrough hlocks q (g := F0 m pc ls rest) rfl rfl rfl (cell := ce) (by rw [hT]; exact hcell) (by rw [hv]; rfl)
    (by obtain ⟨k9, h9, -⟩ := Vm.findClass_spec hcl; exact ⟨k9, h9⟩) (fun z hz => by
      rcases hpass z hz with h | ⟨hz0, nm, hl1, hn1⟩
      · exact Or.inl h
      · obtain ⟨c6, hc6, hcl6⟩ := Cond.classLink_spec hown hl1 e.platform hpl
        obtain ⟨a8, b8, h1, h2, h3⟩ := hn1
        cases Option.some.inj (h1.symm.trans hcl)
        cases Option.some.inj (h2.symm.trans hc6)
        exact Or.inr ⟨hz0, _, hcl6, h3⟩)
  obtain ⟨g₀, hfr⟩ := X'.frames_eq
  have hcell9 : ((T.setVm vm').setFrames (.throwing q :: below)).heap[q]? = some ce := by
    show T.heap[q]? = some ce
    rw [hT]; exact hcell
  have hend : Ended ((T.setVm vm').setFrames (.throwing q :: below)) below (.threw q) := State.frames_setFrames _ (State.cur_lt_of_frames hfr)
  refine ⟨(T.setVm vm').setFrames (.throwing q :: below), ?_, .threw q, X'.here.running, hend, Or.inr ⟨q, rfl, E, ce, locs, hx _ hT (X'.ends _).1.alike, hcell9, hv, hcl, (X'.ends _).1, (X'.ends _).2.mono hc hs, hf⟩⟩
  rw [X.pushThrowing_eq]
  exact st
/-- a thing of a world lies in the heap -/
theorem vx_lt {D : va_G} {cl : List vw_C} {ws : va_W} {H1 : Heap} (h : va_P D cl ws H1) {k : Nat} {q : Nat × va_E} (hk : ws[k]? = some q) : q.1 < H1.size := (h k q hk).lt
end VXS
/-! ===== END ===== -/
/-! ===== BEGIN methods with a table of their own: called by a name, returning or throwing ===== -/
section VXH
/-! vx_backW, vx_callVX, vx_callSX, vx_callVW, vx_runVW, vx_runVX, vx_runSX, vx_ofWH follow the same proofs as their sisters above (Free/Laws.lean, Shelf42/LK1.lean); vx_outP calls Shelf42/NT130.lean (outThrough). -/
section
variable {l : Launch} {R : Room} {p : Program} {e : Env} {below : List Frame} {s : State} {sargs : Array Value} {y : MethodName} {len W9 : Nat}
theorem vx_backW {ws : List Cond} {rm : Room} {Pc : Array Value → State → Prop} {Qc : Array Value → State → Outcome → State → Prop} {XC : String → State → State → Prop} {mc ms : Nat} {free : Addr → Prop} {bytes : ByteArray} {maxL : Nat} {ret : Option FieldType} {hh : List (Nat × Nat × Nat × Nat)}
    (hM : vx_Met l y ws rm Pc Qc XC mc ms free) (hblind : FrameBlind Pc) (hrc : rm.cells = mc) (hrs : rm.slots = ms)
    (hframes : rm.frames + 1 ≤ R.frames) (hlocals : W9 + (maxL + 11) + rm.locals ≤ R.locals)
    (hws : ∀ w ∈ ws, ∀ a' U, s.WarmedH U.vm → w.before a' U = true) (hcode : Cond.codeWith y bytes maxL ret hh ∈ ws) (hinit : ∀ a' U, s.WarmedH U.vm → (Cond.initialized y.cls).before a' U = true) :
    vx_Back l R p e below s sargs y len W9 (PreOf R mc ms Pc) (PostOf Qc mc ms free) (vx_Post XC mc ms free) := by
  intro m meth c A g ig mk a X hg hsize hdg hW hn hp
  have h1 : (headSpec ws rm).pre.before a A.U = true := atoms_intro fun w hw => hws w hw _ _ X.warmed
  have h2 : (Cond.codeWith y bytes maxL ret hh).before a A.U = true := hws _ hcode _ _ X.warmed
  have h3 : (Cond.initialized y.cls).before a A.U = true := hinit _ _ X.warmed
  have h4 : A.cells + (headSpec ws rm).room.cells ≤ R.cells := by rw [show (headSpec ws rm).room.cells = mc from hrc]; exact hp.1
  have h5 : A.slots + (headSpec ws rm).room.slots ≤ R.slots := by rw [show (headSpec ws rm).room.slots = ms from hrs]; exact hp.2.1
  have hPc : Pc a (A.U.calling g mk a) := hblind _ _ _ _ hp.2.2
  obtain ⟨U, Ls, c0, s0⟩ := A
  dsimp only [Pt.U, Pt.locs, Pt.cells, Pt.slots] at h1 h2 h3 h4 h5 X hn hPc ⊢
  obtain ⟨m9, methY, cY, hn9, hmY, hcY, -, hlY, -⟩ := Cond.codeWith_spec h2
  cases Option.some.inj (hn9.symm.trans hn)
  obtain ⟨kY, hkY, -⟩ := className_of_methodNamed hn
  have hinitY : kY.init = .initialized := Cond.initialized_spec (findClass_of_methodNamed hn) hkY h3
  have h : At U g.method c below := by rw [hg]; exact X.here
  have hlocals9 : W9 + (maxL + 11) + (headSpec ws rm).room.locals ≤ R.locals := hlocals
  have happ : (headSpec ws rm).appliesLoose y e.platform (U.calling g mk a) = true :=
    Spec.appliesLoose_calling (g := g) h hdg hn hkY hinitY
      (X.room_calling (g := g) (R' := (headSpec ws rm).room) hsize hmY hcY hframes (by rw [hlY]; omega) h4 h5) h1
  obtain ⟨mid, hmid⟩ := h.above
  have hfr : (U.setTop g).frames = (.java g :: mid) ++ below := by rw [State.frames_setTop' g h.top, hmid]; rfl
  obtain ⟨o, s₂, hsteps, -, hend, hq⟩ := Steps.callFree hM p X.admits X.cas X.clock (acts := []) hfr happ hPc trivial
  have hq' : vx_Q Qc XC mc ms free a (U.calling g mk a) o s₂ := hq
  rw [State.frames_setTop' g h.top] at hend
  obtain ⟨g₀, hg0⟩ := Option.isSome_iff_exists.mp h.top
  obtain ⟨r, hr⟩ := State.topJava?_eq_some.mp hg0
  have hr' : (({ U with heap := s₂.heap, slotsUsed := s₂.slotsUsed } : State).setVm s₂.vm).frames = .java g₀ :: r := hr
  rcases hq' with ⟨hqc, L, hfe, hL⟩ | ⟨q, rfl, E, ce, L, hx, hce, hcv, hcl, hW₂, hsm, hL⟩
  · obtain ⟨⟨v, rfl⟩, hW₂, e2, q2, q3, q4, q5, q6⟩ := id hfe
    have e3 : s₂ = ({ (U.calling g mk a).setFrames s₂.frames with heap := s₂.heap, slotsUsed := s₂.slotsUsed } : State).setVm s₂.vm := by
      have : s₂ = ({ s₂ with vm := (U.calling g mk a).vm } : State).setVm s₂.vm := rfl
      rw [e2] at this
      exact this
    obtain ⟨c₂, i₂, len₂, hc₂, hd₂, hf₂⟩ := hend
    have hW' : U.WarmedH s₂.vm := hW₂
    have hcc : c₂ = c := by
      have h1 : s₂.code? g.method = U.code? g.method := by
        rw [State.code?_eq, State.code?_eq, hW'.alike.method?]
      exact Option.some.inj (hc₂.symm.trans (h1.trans h.code))
    subst hcc
    have hlen : len₂ = len := by rw [hdg] at hd₂; cases hd₂; rfl
    subst hlen
    have hs₂ : s₂ = (({ U with heap := s₂.heap, slotsUsed := s₂.slotsUsed } : State).setVm s₂.vm).setTop { g with pc := g.pc + len₂, stack := v.toList ++ g.stack } := by
      refine e3.trans ?_
      rw [hf₂, State.calling_eq h.top, State.setFrames_setFrames, State.setTop_of_frames _ hr', hr]
      rfl
    have hsame : U.sameButNew ({ U with heap := s₂.heap, slotsUsed := s₂.slotsUsed } : State) L mc ms := by
      refine ⟨?_, q2, q3, q4, q5, q6⟩
      obtain ⟨t, ht, -⟩ := State.frames_cons hr
      show ({ U with heap := s₂.heap, slotsUsed := s₂.slotsUsed } : State) = { U.setFrames U.frames with heap := s₂.heap, slotsUsed := s₂.slotsUsed }
      rw [State.setFrames_self ht]
    subst hg
    refine Or.inl ⟨v, ⟨(({ U with heap := s₂.heap, slotsUsed := s₂.slotsUsed } : State).setVm s₂.vm), Ls ++ L, c0 + mc, s0 + ms⟩,
      ⟨X.admits, X.cas, X.clock, X.frames, X.room, X.hears, X.method, X.code, (X.here.setHeapUsed s₂.heap s₂.slotsUsed).setVm hW'.alike, X.tail, State.WarmedH.trans X.warmed hW', X.limits, X.bytes, X.same.trans (hsame.setVm s.vm)⟩,
      ⟨g, mk, s₂, L, rfl, rfl, hqc, rfl, hL, rfl, rfl⟩, ?_⟩
    show Steps p.tables e below _ ((({ U with heap := s₂.heap, slotsUsed := s₂.slotsUsed } : State).setVm s₂.vm).setTop { g with pc := g.pc + len₂, stack := v.toList ++ g.stack })
    rw [← hs₂]
    exact hsteps
  · obtain ⟨e2, q2, q3, q4, q5, q6⟩ := id hsm
    have e3 : s₂ = ({ (U.calling g mk a).setFrames s₂.frames with heap := s₂.heap, slotsUsed := s₂.slotsUsed } : State).setVm s₂.vm := by
      have : s₂ = ({ s₂ with vm := (U.calling g mk a).vm } : State).setVm s₂.vm := rfl
      rw [e2] at this
      exact this
    have hf₂ : s₂.frames = .throwing q :: .java g :: U.frames.tail := hend
    have hW' : U.WarmedH s₂.vm := hW₂
    have hs₂ : s₂ = ((({ U with heap := s₂.heap, slotsUsed := s₂.slotsUsed } : State).setVm s₂.vm).setTop g).pushFrame (.throwing q) := by
      refine e3.trans ?_
      rw [hf₂, State.calling_eq h.top, State.setFrames_setFrames, State.pushFrame, State.frames_setTop _ hr', State.setTop_of_frames _ hr', State.setFrames_setFrames, hr]
      rfl
    have hsame : U.sameButNew ({ U with heap := s₂.heap, slotsUsed := s₂.slotsUsed } : State) L mc ms := by
      refine ⟨?_, q2, q3, q4, q5, q6⟩
      obtain ⟨t, ht, -⟩ := State.frames_cons hr
      show ({ U with heap := s₂.heap, slotsUsed := s₂.slotsUsed } : State) = { U.setFrames U.frames with heap := s₂.heap, slotsUsed := s₂.slotsUsed }
      rw [State.setFrames_self ht]
    subst hg
    refine Or.inr ⟨q, ⟨(({ U with heap := s₂.heap, slotsUsed := s₂.slotsUsed } : State).setVm s₂.vm), Ls ++ L, c0 + mc, s0 + ms⟩,
      ⟨X.admits, X.cas, X.clock, X.frames, X.room, X.hears, X.method, X.code, (X.here.setHeapUsed s₂.heap s₂.slotsUsed).setVm hW'.alike, X.tail, State.WarmedH.trans X.warmed hW', X.limits, X.bytes, X.same.trans (hsame.setVm s.vm)⟩,
      ⟨g, mk, s₂, L, E, ce, rfl, rfl, hx, hce, hcv, hcl, rfl, hL, rfl, rfl⟩, ?_⟩
    show Steps p.tables e below _ (((({ U with heap := s₂.heap, slotsUsed := s₂.slotsUsed } : State).setVm s₂.vm).setTop g).pushFrame (.throwing q))
    rw [← hs₂]
    exact hsteps
end
variable {p : Program} {l : Launch} {e : Env} {R : Room} {s : State} {m : MethodId} {args : Array Value} {below : List Frame} {meth : Method} {c : Code} {T : State} {H : Heap} {locs : List Loc} {cells slots : Nat}
theorem vx_callVX (X : Stand p l e R s m args below meth c T locs cells slots) (hexec : p.tables.exec = Jvm.exec) {own C : String} {index : Nat} {y : MethodName} {bytes : ByteArray} {maxL : Nat} {ret : Option FieldType} {hh : List (Nat × Nat × Nat × Nat)}
    (hown : s.vm.findClass own = some m.cls) (hlink : (Cond.methodLink own index y).before args s = true) (hinst : (Cond.instanceMethod y).before args s = true) (hsel : (Cond.selects C y y).before args s = true)
    (hcode : (Cond.codeWith y bytes maxL ret hh).before args s = true) (hy : y.cls ≠ "java/lang/invoke/MethodHandle" ∧ y.cls ≠ "java/lang/invoke/VarHandle")
    {W9 : Nat} {Pre : Pt → Array Value → Prop} {Post : Pt → Array Value → Option Value → Pt → Prop} {PostX : Pt → Array Value → Addr → Pt → Prop} (hK : vx_Back l R p e below s args y 3 W9 Pre Post PostX)
    {b : Addr} {cellB : Cell} (hcell : T.heap[b]? = some cellB) (hobj : cellB.vm.isStatics = false) (hcls : s.vm.findClass C = some cellB.cls)
    {g : JFrame} (hg : g.method = m) (hsize : g.locals.size = c.maxLocals) {argsL rest : List Value} (hlen : ∀ sig, parseMethodDescriptor y.desc = some sig → argsL.length = sig.parameters.length)
    (hstack : g.stack = argsL.reverse ++ .ref b :: rest) (hW : 2 * g.monitorRoom + (rest.map fun v => v.category).sum ≤ W9) (hdg : decode c.code g.pc = .ok (.invokevirtual index, 3))
    (hpre : ∀ vm₁, s.WarmedH vm₁ → Pre ⟨T.setVm vm₁, locs, cells, slots⟩ (Value.ref b :: argsL).toArray) :
    (∃ (v : Option Value) (vm₁ : Vm) (B : Pt), s.WarmedH vm₁ ∧ Stand p l e R s m args below meth c B.U B.locs B.cells B.slots ∧ Post ⟨T.setVm vm₁, locs, cells, slots⟩ (Value.ref b :: argsL).toArray v B ∧
      ∀ target, Steps p.tables e below (B.U.setTop { g with pc := g.pc + 3, stack := v.toList ++ rest }) target → Steps p.tables e below (T.setTop g) target) ∨
    (∃ (q : Addr) (vm₁ : Vm) (B : Pt), s.WarmedH vm₁ ∧ Stand p l e R s m args below meth c B.U B.locs B.cells B.slots ∧ PostX ⟨T.setVm vm₁, locs, cells, slots⟩ (Value.ref b :: argsL).toArray q B ∧
      Steps p.tables e below (T.setTop g) ((B.U.setTop { g with stack := rest }).pushFrame (.throwing q))) := by
  obtain ⟨mk, methM, hnamed, hmethM, hstM, habM⟩ := Cond.instanceMethod_spec hinst
  obtain ⟨m8, methM', cM, hn8, hmethM', -, -, -, -, -, -, hsigM⟩ := Cond.codeWith_spec hcode
  cases Option.some.inj (hn8.symm.trans hnamed)
  cases hmethM.symm.trans hmethM'
  obtain ⟨c2, r2, m2, q1, q2, q3, q4, kP, hkP, hkPi⟩ := Cond.selects_spec hsel
  cases hcls.symm.trans q1
  cases (State.methodFound?_of_named hnamed hy).symm.trans q2
  cases hnamed.symm.trans q3
  have hselP : selectMethod e.platform s.vm cellB.cls mk = .method mk := by rw [Launch.admits_selectMethod X.admits]; exact q4
  obtain ⟨vm₁, X₁, hstep₁⟩ := X.invokevirtual hexec hown hlink hnamed hmethM hstM hkP hkPi hy (a := b) (cell := cellB) hcell
    (fun z h => by rw [h] at hobj; cases hobj) hselP hmethM habM hkP hkPi (g := g) hg (argsL := argsL) (rest := rest) (hlen _ hsigM) hstack hdg
  rcases hK m meth c ⟨T.setVm vm₁, locs, cells, slots⟩ { g with stack := rest } (.invokevirtual index) mk (Value.ref b :: argsL).toArray X₁ hg hsize hdg hW (X₁.named hnamed) (hpre vm₁ X₁.warmed) with ⟨v, B, X', hpost, hsteps⟩ | ⟨q, B, X', hpost, hsteps⟩
  · exact Or.inl ⟨v, vm₁, B, X₁.warmed, X', hpost, fun target h => hstep₁ _ fun acts => by rw [doInvoke_state]; exact hsteps.trans h⟩
  · exact Or.inr ⟨q, vm₁, B, X₁.warmed, X', hpost, hstep₁ _ fun acts => by rw [doInvoke_state]; exact hsteps⟩
theorem vx_callSX (X : Stand p l e R s m args below meth c T locs cells slots) (hexec : p.tables.exec = Jvm.exec) {own : String} {index : Nat} {y : MethodName} {bytes : ByteArray} {maxL : Nat} {ret : Option FieldType} {hh : List (Nat × Nat × Nat × Nat)}
    (hown : s.vm.findClass own = some m.cls) (hlink : (Cond.methodLink own index y).before args s = true) (hstat : (Cond.static y).before args s = true) (hinit : (Cond.initialized y.cls).before args s = true)
    (hcode : (Cond.codeWith y bytes maxL ret hh).before args s = true) (hy : y.cls ≠ "java/lang/invoke/MethodHandle" ∧ y.cls ≠ "java/lang/invoke/VarHandle")
    {W9 : Nat} {Pre : Pt → Array Value → Prop} {Post : Pt → Array Value → Option Value → Pt → Prop} {PostX : Pt → Array Value → Addr → Pt → Prop} (hK : vx_Back l R p e below s args y 3 W9 Pre Post PostX)
    {g : JFrame} (hg : g.method = m) (hsize : g.locals.size = c.maxLocals) {argsL rest : List Value} (hlen : ∀ sig, parseMethodDescriptor y.desc = some sig → argsL.length = sig.parameters.length)
    (hstack : g.stack = argsL.reverse ++ rest) (hW : 2 * g.monitorRoom + (rest.map fun v => v.category).sum ≤ W9) (hdg : decode c.code g.pc = .ok (.invokestatic index, 3))
    (hpre : ∀ vm₁, s.WarmedH vm₁ → Pre ⟨T.setVm vm₁, locs, cells, slots⟩ argsL.toArray) :
    (∃ (v : Option Value) (vm₁ : Vm) (B : Pt), s.WarmedH vm₁ ∧ Stand p l e R s m args below meth c B.U B.locs B.cells B.slots ∧ Post ⟨T.setVm vm₁, locs, cells, slots⟩ argsL.toArray v B ∧
      ∀ target, Steps p.tables e below (B.U.setTop { g with pc := g.pc + 3, stack := v.toList ++ rest }) target → Steps p.tables e below (T.setTop g) target) ∨
    (∃ (q : Addr) (vm₁ : Vm) (B : Pt), s.WarmedH vm₁ ∧ Stand p l e R s m args below meth c B.U B.locs B.cells B.slots ∧ PostX ⟨T.setVm vm₁, locs, cells, slots⟩ argsL.toArray q B ∧
      Steps p.tables e below (T.setTop g) ((B.U.setTop { g with stack := rest }).pushFrame (.throwing q))) := by
  obtain ⟨mk, methM, cM, hnamed, hmethM, -, -, -, -, -, -, hsigM⟩ := Cond.codeWith_spec hcode
  have hstatic : methM.isStatic = true := Cond.static_spec hnamed hmethM hstat
  obtain ⟨kP, hkP, -⟩ := className_of_methodNamed hnamed
  have hinitP : kP.init = .initialized := Cond.initialized_spec (findClass_of_methodNamed hnamed) hkP hinit
  obtain ⟨vm₁, X₁, hstep₁⟩ := X.invokestatic hexec hown hlink hnamed hmethM hstatic hkP hinitP hy (g := g) hg (argsL := argsL) (rest := rest) (hlen _ hsigM) hstack hdg
  rcases hK m meth c ⟨T.setVm vm₁, locs, cells, slots⟩ { g with stack := rest } (.invokestatic index) mk argsL.toArray X₁ hg hsize hdg hW (X₁.named hnamed) (hpre vm₁ X₁.warmed) with ⟨v, B, X', hpost, hsteps⟩ | ⟨q, B, X', hpost, hsteps⟩
  · exact Or.inl ⟨v, vm₁, B, X₁.warmed, X', hpost, fun target h => hstep₁ _ fun acts => by rw [doInvoke_state]; exact hsteps.trans h⟩
  · exact Or.inr ⟨q, vm₁, B, X₁.warmed, X', hpost, hstep₁ _ fun acts => by rw [doInvoke_state]; exact hsteps⟩
theorem vx_callVW (X : Stand p l e R s m args below meth c T locs cells slots) (hexec : p.tables.exec = Jvm.exec) {own C : String} {index : Nat} {y : MethodName} {bytes : ByteArray} {maxL : Nat} {ret : Option FieldType} {hh : List (Nat × Nat × Nat × Nat)}
    (hown : s.vm.findClass own = some m.cls) (hlink : (Cond.methodLink own index y).before args s = true) (hinst : (Cond.instanceMethod y).before args s = true) (hsel : (Cond.selects C y y).before args s = true)
    (hcode : (Cond.codeWith y bytes maxL ret hh).before args s = true) (hy : y.cls ≠ "java/lang/invoke/MethodHandle" ∧ y.cls ≠ "java/lang/invoke/VarHandle")
    {W9 : Nat} {Pre : Pt → Array Value → Prop} {Post : Pt → Array Value → Option Value → Pt → Prop} (hK : Back l R p e below s args y 3 W9 Pre Post)
    {b : Addr} {cellB : Cell} (hcell : T.heap[b]? = some cellB) (hobj : cellB.vm.isStatics = false) (hcls : s.vm.findClass C = some cellB.cls)
    {g : JFrame} (hg : g.method = m) (hsize : g.locals.size = c.maxLocals) {argsL rest : List Value} (hlen : ∀ sig, parseMethodDescriptor y.desc = some sig → argsL.length = sig.parameters.length)
    (hstack : g.stack = argsL.reverse ++ .ref b :: rest) (hW : 2 * g.monitorRoom + (rest.map fun v => v.category).sum ≤ W9) (hdg : decode c.code g.pc = .ok (.invokevirtual index, 3))
    (hpre : ∀ vm₁, s.WarmedH vm₁ → Pre ⟨T.setVm vm₁, locs, cells, slots⟩ (Value.ref b :: argsL).toArray) :
    ∃ (v : Option Value) (vm₁ : Vm) (B : Pt), s.WarmedH vm₁ ∧ Stand p l e R s m args below meth c B.U B.locs B.cells B.slots ∧ Post ⟨T.setVm vm₁, locs, cells, slots⟩ (Value.ref b :: argsL).toArray v B ∧
      ∀ target, Steps p.tables e below (B.U.setTop { g with pc := g.pc + 3, stack := v.toList ++ rest }) target → Steps p.tables e below (T.setTop g) target := by
  obtain ⟨mk, methM, hnamed, hmethM, hstM, habM⟩ := Cond.instanceMethod_spec hinst
  obtain ⟨m8, methM', cM, hn8, hmethM', -, -, -, -, -, -, hsigM⟩ := Cond.codeWith_spec hcode
  cases Option.some.inj (hn8.symm.trans hnamed)
  cases hmethM.symm.trans hmethM'
  obtain ⟨c2, r2, m2, q1, q2, q3, q4, kP, hkP, hkPi⟩ := Cond.selects_spec hsel
  cases hcls.symm.trans q1
  cases (State.methodFound?_of_named hnamed hy).symm.trans q2
  cases hnamed.symm.trans q3
  have hselP : selectMethod e.platform s.vm cellB.cls mk = .method mk := by rw [Launch.admits_selectMethod X.admits]; exact q4
  obtain ⟨vm₁, X₁, hstep₁⟩ := X.invokevirtual hexec hown hlink hnamed hmethM hstM hkP hkPi hy (a := b) (cell := cellB) hcell
    (fun z h => by rw [h] at hobj; cases hobj) hselP hmethM habM hkP hkPi (g := g) hg (argsL := argsL) (rest := rest) (hlen _ hsigM) hstack hdg
  obtain ⟨v, B, X', hpost, hsteps⟩ := hK m meth c ⟨T.setVm vm₁, locs, cells, slots⟩ { g with stack := rest } (.invokevirtual index) mk (Value.ref b :: argsL).toArray X₁ hg hsize hdg hW (X₁.named hnamed) (hpre vm₁ X₁.warmed)
  exact ⟨v, vm₁, B, X₁.warmed, X', hpost, fun target h => hstep₁ _ fun acts => by rw [doInvoke_state]; exact hsteps.trans h⟩
abbrev vx_CVW (R : Room) (s : State) (args : Array Value) (own C : String) (index : Nat) (y : MethodName) (bytes : ByteArray) (maxL : Nat) (ret : Option FieldType) (hh : List (Nat × Nat × Nat × Nat)) (ws : List Cond) (rm : Room) (mc ms n : Nat) : Prop :=
  (rm.cells = mc ∧ rm.slots = ms ∧ rm.frames + 1 ≤ R.frames ∧ 8 + (maxL + 11) + rm.locals ≤ R.locals ∧ (∀ w ∈ ws, ∀ (a' : Array Value) (U : State), s.WarmedH U.vm → w.before a' U = true) ∧ Cond.codeWith y bytes maxL ret hh ∈ ws) ∧
  (Cond.codeWith y bytes maxL ret hh).before args s = true ∧ (Cond.initialized y.cls).before args s = true ∧ (y.cls ≠ "java/lang/invoke/MethodHandle" ∧ y.cls ≠ "java/lang/invoke/VarHandle") ∧
  (∀ sig, parseMethodDescriptor y.desc = some sig → n = sig.parameters.length) ∧ (Cond.methodLink own index y).before args s = true ∧ (Cond.instanceMethod y).before args s = true ∧ (Cond.selects C y y).before args s = true
theorem vx_cwVW {own C : String} {index maxL mc ms : Nat} {y : MethodName} {bytes : ByteArray} {ret : Option FieldType} {hh : List (Nat × Nat × Nat × Nat)} {Ts ws ws' : List Cond} {rm : Room} (n : Nat) (ht : ∀ w ∈ Ts, w.before args s = true) (hT : GoodIn Ts (wsV own index C y ws)) (hw : ws = Cond.codeWith y bytes maxL ret hh :: ws') (hrc : rm.cells = mc) (hrs : rm.slots = ms)
    (hd : y.cls = C ∧ y.cls ≠ "java/lang/invoke/MethodHandle" ∧ y.cls ≠ "java/lang/invoke/VarHandle" ∧ (parseMethodDescriptor y.desc).map (fun d => d.parameters.length) = some n) (hR : rm.frames + 1 ≤ R.frames ∧ 8 + (maxL + 11) + rm.locals ≤ R.locals) :
    vx_CVW R s args own C index y bytes maxL ret hh ws rm mc ms n := by
  obtain ⟨hC, hd⟩ := hd
  subst hC
  have ok : ∀ w ∈ wsV own index y.cls y ws, w.before args s = true := fun w h => ht w (hT w h).1
  have hG : GoodIn Ts ws := fun w h => hT w (by unfold wsV; exact List.mem_append_right _ h)
  have hc : Cond.codeWith y bytes maxL ret hh ∈ ws := by rw [hw]; exact List.mem_cons_self
  refine ⟨⟨hrc, hrs, hR.1, hR.2, pay_in ht hG, hc⟩, ht _ (hG _ hc).1, ok _ (by simp [wsV]), ⟨hd.1, hd.2.1⟩, fun sig h => ?_, ok _ (by simp [wsV]), ok _ (by simp [wsV]), ok _ (by simp [wsV])⟩
  have h2 := hd.2.2
  rw [h] at h2
  exact (Option.some.inj h2).symm
theorem vx_runVW {y : MethodName} {bytes cc : ByteArray} {maxL nL mc ms n index : Nat} {ret : Option FieldType} {hh : List (Nat × Nat × Nat × Nat)} {ws : List Cond} {rm : Room} {Pc : Array Value → State → Prop} {Qc : Array Value → State → Outcome → State → Prop} {free : Addr → Prop} {Ts : List Cond} {own C : String} {b : Addr} {As rest : List Value} {g : JFrame}
    (S : CallFix p m c cc nL s args Ts own) (hM : Met l y ws rm Pc Qc mc ms free) (cw : vx_CVW R s args own C index y bytes maxL ret hh ws rm mc ms n) (hp : PreV s H C b Pc As)
    (hg : g.method = m) (hn : As.length = n) (hsize : g.locals.size = nL) (hstack : g.stack = As.reverse ++ .ref b :: rest) (hW : 2 * g.monitorRoom + (rest.map fun v => v.category).sum ≤ 8) (hdg : decode cc g.pc = .ok (.invokevirtual index, 3)) (hf : cells + mc ≤ R.cells ∧ slots + ms ≤ R.slots) :
    va_Run p l e R s m args below meth c H locs cells slots mc ms g rest (Qc (Value.ref b :: As).toArray) free := by
  obtain ⟨⟨hrc, hrs, hfr, hlo, hws, hcw⟩, hcode, hini, hy, hlen, hl, hin, hse⟩ := cw
  have hK : Back l R p e below s args y 3 8 (PreOf R mc ms Pc) (PostOf Qc mc ms free) := va_backW (hh := hh) (bytes := bytes) (maxL := maxL) (ret := ret) hM hp.1 hrc hrs hfr hlo hws hcw (fun a' U hW => word_at hW (Or.inl (by first | rfl | simp [Cond.onTables, Cond.keeps, Cond.steady])) hini)
  obtain ⟨hx, hb, hml, ho, -⟩ := S
  obtain ⟨-, ⟨cellB, hcB, hoB, hclB⟩, hPc⟩ := hp
  intro T hT X
  obtain ⟨v, vm₁, ⟨U', l2, c2, s2⟩, hW₁, X', ⟨g', mk, t, L, e1, e2, hq, h1, hL, h2, h3⟩, st⟩ := vx_callVW X hx (C := C) (hh := hh) (bytes := bytes) (maxL := maxL) (ret := ret) ho hl hin hse hcode hy hK (by rw [hT]; exact hcB) hoB hclB hg (hsize.trans hml.symm) (argsL := As) (rest := rest) (fun sig h => hn.trans (hlen sig h)) hstack hW (by rw [hb]; exact hdg)
    (fun vm₁ hW₁ => ⟨hf.1, hf.2, hPc (T.setVm vm₁) hT hW₁⟩)
  dsimp only [Pt.U, Pt.locs, Pt.cells, Pt.slots] at X' e1 e2 h1 h2 h3 st
  subst h1; subst h2; subst h3
  exact ⟨v, (T.setVm vm₁).calling g' mk (Value.ref b :: As).toArray, t, U', L, hT, X', hL, e1, e2, hq, st⟩
section
variable {y : MethodName} {bytes cc : ByteArray} {maxL nL mc ms n index : Nat} {ret : Option FieldType} {ws : List Cond} {rm : Room} {Pc : Array Value → State → Prop} {Qc : Array Value → State → Outcome → State → Prop} {XC : String → State → State → Prop} {free : Addr → Prop} {Ts : List Cond} {own C : String} {b : Addr} {As rest : List Value} {g : JFrame}
theorem vx_runVX {hh : List (Nat × Nat × Nat × Nat)} (S : CallFix p m c cc nL s args Ts own) (hM : vx_Met l y ws rm Pc Qc XC mc ms free) (cw : vx_CVW R s args own C index y bytes maxL ret hh ws rm mc ms n) (hp : PreV s H C b Pc As)
    (hg : g.method = m) (hn : As.length = n) (hsize : g.locals.size = nL) (hstack : g.stack = As.reverse ++ .ref b :: rest) (hW : 2 * g.monitorRoom + (rest.map fun v => v.category).sum ≤ 8) (hdg : decode cc g.pc = .ok (.invokevirtual index, 3)) (hf : cells + mc ≤ R.cells ∧ slots + ms ≤ R.slots) :
    vx_Run p l e R s m args below meth c H locs cells slots mc ms g rest (Qc (Value.ref b :: As).toArray) XC free := by
  obtain ⟨⟨hrc, hrs, hfr, hlo, hws, hcw⟩, hcode, hini, hy, hlen, hl, hin, hse⟩ := cw
  have hK : vx_Back l R p e below s args y 3 8 (PreOf R mc ms Pc) (PostOf Qc mc ms free) (vx_Post XC mc ms free) := vx_backW (hh := hh) (bytes := bytes) (maxL := maxL) (ret := ret) hM hp.1 hrc hrs hfr hlo hws hcw (fun a' U hW => word_at hW (Or.inl (by first | rfl | simp [Cond.onTables, Cond.keeps, Cond.steady])) hini)
  obtain ⟨hx, hb, hml, ho, -⟩ := S
  obtain ⟨-, ⟨cellB, hcB, hoB, hclB⟩, hPc⟩ := hp
  intro T hT X
  rcases vx_callVX X hx (C := C) (hh := hh) (bytes := bytes) (maxL := maxL) (ret := ret) ho hl hin hse hcode hy hK (by rw [hT]; exact hcB) hoB hclB hg (hsize.trans hml.symm) (argsL := As) (rest := rest) (fun sig h => hn.trans (hlen sig h)) hstack hW (by rw [hb]; exact hdg)
    (fun vm₁ hW₁ => ⟨hf.1, hf.2, hPc (T.setVm vm₁) hT hW₁⟩) with ⟨v, vm₁, ⟨U', l2, c2, s2⟩, hW₁, X', ⟨g', mk, t, L, e1, e2, hq, h1, hL, h2, h3⟩, st⟩ | ⟨q, vm₁, ⟨U', l2, c2, s2⟩, hW₁, X', ⟨g', mk, t, L, E, ce, e1, e2, hq, hce, hcv, hcl, h1, hL, h2, h3⟩, st⟩
  · dsimp only [Pt.U, Pt.locs, Pt.cells, Pt.slots] at X' e1 e2 h1 h2 h3 st
    subst h1; subst h2; subst h3
    exact Or.inl ⟨v, (T.setVm vm₁).calling g' mk (Value.ref b :: As).toArray, t, U', L, hT, X', hL, e1, e2, hq, st⟩
  · dsimp only [Pt.U, Pt.locs, Pt.cells, Pt.slots] at X' e1 e2 h1 h2 h3 st hcl
    subst h1; subst h2; subst h3
    exact Or.inr ⟨q, (T.setVm vm₁).calling g' mk (Value.ref b :: As).toArray, t, U', L, E, ce, hT, X', hL, e1, e2, hq, hce, hcv, vx_cls hW₁ hcl, st⟩
theorem vx_runSX {hh : List (Nat × Nat × Nat × Nat)} (S : CallFix p m c cc nL s args Ts own) (hM : vx_Met l y ws rm Pc Qc XC mc ms free) (cw : vx_CSW R s args own index y bytes maxL ret hh ws rm mc ms n) (hp : PreS s H Pc As)
    (hg : g.method = m) (hn : As.length = n) (hsize : g.locals.size = nL) (hstack : g.stack = As.reverse ++ rest) (hW : 2 * g.monitorRoom + (rest.map fun v => v.category).sum ≤ 8) (hdg : decode cc g.pc = .ok (.invokestatic index, 3)) (hf : cells + mc ≤ R.cells ∧ slots + ms ≤ R.slots) :
    vx_Run p l e R s m args below meth c H locs cells slots mc ms g rest (Qc As.toArray) XC free := by
  obtain ⟨⟨hrc, hrs, hfr, hlo, hws, hcw⟩, hcode, hini, hy, hlen, hl, hstt⟩ := cw
  have hK : vx_Back l R p e below s args y 3 8 (PreOf R mc ms Pc) (PostOf Qc mc ms free) (vx_Post XC mc ms free) := vx_backW (hh := hh) (bytes := bytes) (maxL := maxL) (ret := ret) hM hp.1 hrc hrs hfr hlo hws hcw (fun a' U hW => word_at hW (Or.inl (by first | rfl | simp [Cond.onTables, Cond.keeps, Cond.steady])) hini)
  obtain ⟨hx, hb, hml, ho, -⟩ := S
  intro T hT X
  rcases vx_callSX X hx (hh := hh) (bytes := bytes) (maxL := maxL) (ret := ret) ho hl hstt hini hcode hy hK hg (hsize.trans hml.symm) (argsL := As) (rest := rest) (fun sig h => hn.trans (hlen sig h)) hstack hW (by rw [hb]; exact hdg)
    (fun vm₁ hW₁ => ⟨hf.1, hf.2, hp.2 (T.setVm vm₁) hT hW₁⟩) with ⟨v, vm₁, ⟨U', l2, c2, s2⟩, hW₁, X', ⟨g', mk, t, L, e1, e2, hq, h1, hL, h2, h3⟩, st⟩ | ⟨q, vm₁, ⟨U', l2, c2, s2⟩, hW₁, X', ⟨g', mk, t, L, E, ce, e1, e2, hq, hce, hcv, hcl, h1, hL, h2, h3⟩, st⟩
  · dsimp only [Pt.U, Pt.locs, Pt.cells, Pt.slots] at X' e1 e2 h1 h2 h3 st
    subst h1; subst h2; subst h3
    exact Or.inl ⟨v, (T.setVm vm₁).calling g' mk As.toArray, t, U', L, hT, X', hL, e1, e2, hq, st⟩
  · dsimp only [Pt.U, Pt.locs, Pt.cells, Pt.slots] at X' e1 e2 h1 h2 h3 st hcl
    subst h1; subst h2; subst h3
    exact Or.inr ⟨q, (T.setVm vm₁).calling g' mk As.toArray, t, U', L, E, ce, hT, X', hL, e1, e2, hq, hce, hcv, vx_cls hW₁ hcl, st⟩
end
end VXH
theorem vx_ofWH {l : Launch} {y : MethodName} {ws ws' : List Cond} {rm : Room} {Pc : Array Value → State → Prop} {Qc : Array Value → State → Outcome → State → Prop} {XC : String → State → State → Prop} {mc ms : Nat} {free : Addr → Prop} {cc : ByteArray} {maxL : Nat} {ret : Option FieldType} {hh : List (Nat × Nat × Nat × Nat)}
    (hy : plainName y.cls = true) (hw : ws = Cond.codeWith y cc maxL ret hh :: ws')
    (body : ∀ p e s m args below meth c s₁, BodyLoose p l y (headSpec ws rm) cc maxL ret e s m args below meth c s₁ → c.maxLocals = maxL → Pc args s →
      W p l e (headSpec ws rm).room s m args below meth c s.heap [] 0 0 (vx_MQ below Qc XC args s mc ms free) (entryFrame m args maxL)) : vx_Met l y ws rm Pc Qc XC mc ms free := by
  refine MetFree.of_bodyS (code := cc) (maxLocals := maxL) (ret := ret) hy ?_ ?_
  · intro args s m h hn
    obtain ⟨m9, meth, c, hn9, h1, h2, h3, h4, -, h5, h6, -⟩ := Cond.codeWith_spec (atoms_spec (ws := ws) h _ (by rw [hw]; exact List.mem_cons_self))
    cases hn.symm.trans hn9
    exact ⟨meth, c, h1, h2, h3, h4, h5, h6⟩
  · intro p e s m args below meth c s₁ B hml hP _
    have hh0 : s₁.heap = s.heap := by rw [B.state]; rfl
    obtain ⟨t, a1, o, b1, b2, b3⟩ := body p e s m args below meth c s₁ B hml hP s₁ hh0 (Stand.of_body B)
    exact ⟨t, o, a1, b1, b2, b3⟩
/-! ===== END ===== -/
end
section
-- ===== PART A: goes FIRST, ahead of the names: the tables' words, and 'selects' of the private methods out of them =====
/-- a private method of a class that the tables say can be made, by its rows of tables_1 -/
def lw_okq (q : MethodName × Nat) : Prop := (q.1.cls ≠ "java/lang/invoke/MethodHandle" ∧ q.1.cls ≠ "java/lang/invoke/VarHandle") ∧ Cond.instantiable q.1.cls q.2 ∈ tables_1 ∧ Cond.privateMethod q.1 ∈ tables_1 ∧ Cond.instanceMethod q.1 ∈ tables_1
theorem lw_p0 : lw_okq (⟨"MeldTree", "needVersion", "(I)V"⟩, 3) := ⟨⟨by decide +kernel, by decide +kernel⟩, List.mem_of_getElem? (i := 20) (by decide +kernel), List.mem_of_getElem? (i := 119) (by decide +kernel), List.mem_of_getElem? (i := 120) (by decide +kernel)⟩
theorem lw_p1 : lw_okq (⟨"java/lang/Throwable", "fillInStackTrace", "(I)Ljava/lang/Throwable;"⟩, 6) := ⟨⟨by decide +kernel, by decide +kernel⟩, List.mem_of_getElem? (i := 161) (by decide +kernel), List.mem_of_getElem? (i := 159) (by decide +kernel), List.mem_of_getElem? (i := 160) (by decide +kernel)⟩
theorem lw_p2 : lw_okq (⟨"MeldTree", "needRoom", "()V"⟩, 3) := ⟨⟨by decide +kernel, by decide +kernel⟩, List.mem_of_getElem? (i := 20) (by decide +kernel), List.mem_of_getElem? (i := 195) (by decide +kernel), List.mem_of_getElem? (i := 196) (by decide +kernel)⟩
theorem lw_p3 : lw_okq (⟨"java/util/ArrayList", "add", "(Ljava/lang/Object;[Ljava/lang/Object;I)V"⟩, 3) := ⟨⟨by decide +kernel, by decide +kernel⟩, List.mem_of_getElem? (i := 30) (by decide +kernel), List.mem_of_getElem? (i := 253) (by decide +kernel), List.mem_of_getElem? (i := 254) (by decide +kernel)⟩
theorem lw_p4 : lw_okq (⟨"java/util/ArrayList", "grow", "()[Ljava/lang/Object;"⟩, 3) := ⟨⟨by decide +kernel, by decide +kernel⟩, List.mem_of_getElem? (i := 30) (by decide +kernel), List.mem_of_getElem? (i := 257) (by decide +kernel), List.mem_of_getElem? (i := 258) (by decide +kernel)⟩
theorem lw_p5 : lw_okq (⟨"java/util/ArrayList", "grow", "(I)[Ljava/lang/Object;"⟩, 3) := ⟨⟨by decide +kernel, by decide +kernel⟩, List.mem_of_getElem? (i := 30) (by decide +kernel), List.mem_of_getElem? (i := 261) (by decide +kernel), List.mem_of_getElem? (i := 262) (by decide +kernel)⟩
theorem lw_p6 : lw_okq (⟨"MeldTree", "keep", "(LMeldTree$Node;)I"⟩, 3) := ⟨⟨by decide +kernel, by decide +kernel⟩, List.mem_of_getElem? (i := 20) (by decide +kernel), List.mem_of_getElem? (i := 320) (by decide +kernel), List.mem_of_getElem? (i := 321) (by decide +kernel)⟩
theorem lw_p7 : lw_okq (⟨"MeldTreeModel", "isOne", "(I)Z"⟩, 4) := ⟨⟨by decide +kernel, by decide +kernel⟩, List.mem_of_getElem? (i := 419) (by decide +kernel), List.mem_of_getElem? (i := 449) (by decide +kernel), List.mem_of_getElem? (i := 450) (by decide +kernel)⟩
theorem lw_p8 : lw_okq (⟨"MeldTreeModel", "made", "(III)I"⟩, 4) := ⟨⟨by decide +kernel, by decide +kernel⟩, List.mem_of_getElem? (i := 419) (by decide +kernel), List.mem_of_getElem? (i := 456) (by decide +kernel), List.mem_of_getElem? (i := 457) (by decide +kernel)⟩
def lw_privs_1 : List (MethodName × Nat) := [(⟨"MeldTree", "needVersion", "(I)V"⟩, 3), (⟨"java/lang/Throwable", "fillInStackTrace", "(I)Ljava/lang/Throwable;"⟩, 6), (⟨"MeldTree", "needRoom", "()V"⟩, 3), (⟨"java/util/ArrayList", "add", "(Ljava/lang/Object;[Ljava/lang/Object;I)V"⟩, 3), (⟨"java/util/ArrayList", "grow", "()[Ljava/lang/Object;"⟩, 3), (⟨"java/util/ArrayList", "grow", "(I)[Ljava/lang/Object;"⟩, 3), (⟨"MeldTree", "keep", "(LMeldTree$Node;)I"⟩, 3), (⟨"MeldTreeModel", "isOne", "(I)Z"⟩, 4), (⟨"MeldTreeModel", "made", "(III)I"⟩, 4)]
theorem lw_r1 : ∀ q ∈ lw_privs_1, lw_okq q := List.forall_mem_cons.mpr ⟨lw_p0, List.forall_mem_cons.mpr ⟨lw_p1, List.forall_mem_cons.mpr ⟨lw_p2, List.forall_mem_cons.mpr ⟨lw_p3, List.forall_mem_cons.mpr ⟨lw_p4, List.forall_mem_cons.mpr ⟨lw_p5, List.forall_mem_cons.mpr ⟨lw_p6, List.forall_mem_cons.mpr ⟨lw_p7, List.forall_mem_cons.mpr ⟨lw_p8, fun _ h => absurd h List.not_mem_nil⟩⟩⟩⟩⟩⟩⟩⟩⟩
def lw_privs : List (MethodName × Nat) := lw_privs_1
def lw_tbl : List Cond := k2_sels lw_privs ++ tables_1
theorem lw_privs_ok : ∀ q ∈ lw_privs, lw_okq q := lw_r1
end
section
def RXT : String := "MeldTree"
def RXN : String := "MeldTree$Node"
def RXM : String := "MeldTreeModel"
def RXL : String := "MeldTreeLaw"
def RXA : String := "java/util/ArrayList"
def RXB : String := "java/util/AbstractList"
def RXC : String := "java/util/AbstractCollection"
def RXR : String := "java/util/Arrays"
def RXS : String := "jdk/internal/util/ArraysSupport"
def RXO : String := "java/util/Objects"
def RXP : String := "jdk/internal/util/Preconditions"
def TXT : u_T := fun k => match k with
  | 0 => ("MeldTree", "roots", "[LMeldTree$Node;", true)
  | 1 => ("MeldTree", "nodes", "Ljava/util/ArrayList;", true)
  | _ => ("MeldTree", "count", "I", false)
def tyXT : Nat → FieldType := fun k => match k with
  | 0 => .array (.object "MeldTree$Node")
  | 1 => .object "java/util/ArrayList"
  | _ => .int
theorem nmXT : ∀ a, a < 3 → ∀ b, b < 3 → a ≠ b → (TXT a).2.1 ≠ (TXT b).2.1 := by decide +kernel
theorem tyXT_ok : ∀ k, k < 3 → parseFieldDescriptor (TXT k).2.2.1 = some (tyXT k) := by decide +kernel
def TXN : u_T := fun k => match k with
  | 0 => ("MeldTree$Node", "height", "I", true)
  | 1 => ("MeldTree$Node", "first", "I", true)
  | 2 => ("MeldTree$Node", "low", "LMeldTree$Node;", true)
  | 3 => ("MeldTree$Node", "high", "LMeldTree$Node;", true)
  | 4 => ("MeldTree$Node", "value", "I", true)
  | 5 => ("MeldTree$Node", "size", "I", true)
  | _ => ("MeldTree$Node", "total", "J", true)
def tyXN : Nat → FieldType := fun k => match k with
  | 0 => .int
  | 1 => .int
  | 2 => .object "MeldTree$Node"
  | 3 => .object "MeldTree$Node"
  | 4 => .int
  | 5 => .int
  | _ => .long
theorem nmXN : ∀ a, a < 7 → ∀ b, b < 7 → a ≠ b → (TXN a).2.1 ≠ (TXN b).2.1 := by decide +kernel
theorem tyXN_ok : ∀ k, k < 7 → parseFieldDescriptor (TXN k).2.2.1 = some (tyXN k) := by decide +kernel
def TXM : u_T := fun k => match k with
  | 0 => ("MeldTreeModel", "value", "[I", true)
  | 1 => ("MeldTreeModel", "has", "[Z", true)
  | 2 => ("MeldTreeModel", "versions", "I", false)
  | _ => ("MeldTreeModel", "thrown", "I", false)
def tyXM : Nat → FieldType := fun k => match k with
  | 0 => .array .int
  | 1 => .array .boolean
  | 2 => .int
  | _ => .int
theorem nmXM : ∀ a, a < 4 → ∀ b, b < 4 → a ≠ b → (TXM a).2.1 ≠ (TXM b).2.1 := by decide +kernel
theorem tyXM_ok : ∀ k, k < 4 → parseFieldDescriptor (TXM k).2.2.1 = some (tyXM k) := by decide +kernel
def TXA : u_T := fun k => match k with
  | 0 => ("java/util/AbstractList", "modCount", "I", false)
  | 1 => ("java/util/ArrayList", "elementData", "[Ljava/lang/Object;", false)
  | _ => ("java/util/ArrayList", "size", "I", false)
def tyXA : Nat → FieldType := fun k => match k with
  | 0 => .int
  | 1 => .array (.object "java/lang/Object")
  | _ => .int
theorem nmXA : ∀ a, a < 3 → ∀ b, b < 3 → a ≠ b → (TXA a).2.1 ≠ (TXA b).2.1 := by decide +kernel
theorem tyXA_ok : ∀ k, k < 3 → parseFieldDescriptor (TXA k).2.2.1 = some (tyXA k) := by decide +kernel
abbrev cXT_init : ByteArray := prog_1_method_1_code
def yXT_init : MethodName := ⟨RXT, "<init>", "()V"⟩
abbrev cXA_init : ByteArray := prog_18_method_2_code
def yXA_init : MethodName := ⟨RXA, "<init>", "()V"⟩
abbrev cXB_init : ByteArray := prog_17_method_1_code
def yXB_init : MethodName := ⟨RXB, "<init>", "()V"⟩
abbrev cXC_init : ByteArray := prog_16_method_1_code
def yXC_init : MethodName := ⟨RXC, "<init>", "()V"⟩
abbrev cXT_versions : ByteArray := prog_1_method_11_code
def yXT_versions : MethodName := ⟨RXT, "versions", "()I"⟩
abbrev cXT_check : ByteArray := prog_1_method_12_code
def yXT_check : MethodName := ⟨RXT, "check", "()I"⟩
abbrev cXT_isAt : ByteArray := prog_1_method_25_code
def yXT_isAt : MethodName := ⟨RXT, "isAt", "(LMeldTree$Node;II)Z"⟩
abbrev cXA_size : ByteArray := prog_18_method_8_code
def yXA_size : MethodName := ⟨RXA, "size", "()I"⟩
abbrev cXA_get : ByteArray := prog_18_method_20_code
def yXA_get : MethodName := ⟨RXA, "get", "(I)Ljava/lang/Object;"⟩
abbrev cXO_checkIndex : ByteArray := prog_23_method_17_code
def yXO_checkIndex : MethodName := ⟨RXO, "checkIndex", "(II)I"⟩
abbrev cXP_checkIndex : ByteArray := prog_27_method_11_code
def yXP_checkIndex : MethodName := ⟨RXP, "checkIndex", "(IILjava/util/function/BiFunction;)I"⟩
abbrev cXA_elementData : ByteArray := prog_18_method_18_code
def yXA_elementData : MethodName := ⟨RXA, "elementData", "(I)Ljava/lang/Object;"⟩
abbrev cXT_faultsOf : ByteArray := prog_1_method_26_code
def yXT_faultsOf : MethodName := ⟨RXT, "faultsOf", "(LMeldTree$Node;)I"⟩
abbrev cXT_faultsOfLeaf : ByteArray := prog_1_method_27_code
def yXT_faultsOfLeaf : MethodName := ⟨RXT, "faultsOfLeaf", "(LMeldTree$Node;)I"⟩
abbrev cXT_faultsOfFork : ByteArray := prog_1_method_28_code
def yXT_faultsOfFork : MethodName := ⟨RXT, "faultsOfFork", "(LMeldTree$Node;)I"⟩
abbrev cXT_sizeOf : ByteArray := prog_1_method_31_code
def yXT_sizeOf : MethodName := ⟨RXT, "sizeOf", "(LMeldTree$Node;)I"⟩
abbrev cXT_totalOf : ByteArray := prog_1_method_32_code
def yXT_totalOf : MethodName := ⟨RXT, "totalOf", "(LMeldTree$Node;)J"⟩
abbrev cXL_put : ByteArray := method_3_code
def yXL_put : MethodName := ⟨RXL, "put", "(LMeldTree;III[J)I"⟩
abbrev cXT_put : ByteArray := prog_1_method_2_code
def yXT_put : MethodName := ⟨RXT, "put", "(III)I"⟩
abbrev cXT_needVersion : ByteArray := prog_1_method_13_code
def yXT_needVersion : MethodName := ⟨RXT, "needVersion", "(I)V"⟩
abbrev cXT_needKey : ByteArray := prog_1_method_14_code
def yXT_needKey : MethodName := ⟨RXT, "needKey", "(I)V"⟩
abbrev cXT_needRoom : ByteArray := prog_1_method_15_code
def yXT_needRoom : MethodName := ⟨RXT, "needRoom", "()V"⟩
abbrev cXN_init : ByteArray := prog_2_method_1_code
def yXN_init : MethodName := ⟨RXN, "<init>", "(II)V"⟩
abbrev cXA_add : ByteArray := prog_18_method_25_code
def yXA_add : MethodName := ⟨RXA, "add", "(Ljava/lang/Object;)Z"⟩
abbrev cXA_add_2 : ByteArray := prog_18_method_24_code
def yXA_add_2 : MethodName := ⟨RXA, "add", "(Ljava/lang/Object;[Ljava/lang/Object;I)V"⟩
abbrev cXA_grow : ByteArray := prog_18_method_7_code
def yXA_grow : MethodName := ⟨RXA, "grow", "()[Ljava/lang/Object;"⟩
abbrev cXA_grow_2 : ByteArray := prog_18_method_6_code
def yXA_grow_2 : MethodName := ⟨RXA, "grow", "(I)[Ljava/lang/Object;"⟩
abbrev cXS_newLength : ByteArray := prog_26_method_27_code
def yXS_newLength : MethodName := ⟨RXS, "newLength", "(III)I"⟩
abbrev cXS_hugeLength : ByteArray := prog_26_method_28_code
def yXS_hugeLength : MethodName := ⟨RXS, "hugeLength", "(II)I"⟩
abbrev cXR_copyOf : ByteArray := prog_19_method_119_code
def yXR_copyOf : MethodName := ⟨RXR, "copyOf", "([Ljava/lang/Object;I)[Ljava/lang/Object;"⟩
abbrev cXR_copyOf_2 : ByteArray := prog_19_method_120_code
def yXR_copyOf_2 : MethodName := ⟨RXR, "copyOf", "([Ljava/lang/Object;ILjava/lang/Class;)[Ljava/lang/Object;"⟩
abbrev cXT_meld : ByteArray := prog_1_method_17_code
def yXT_meld : MethodName := ⟨RXT, "meld", "(LMeldTree$Node;LMeldTree$Node;IILMeldTree$Node;Ljava/util/ArrayList;)LMeldTree$Node;"⟩
abbrev cXT_goesHigh : ByteArray := prog_1_method_18_code
def yXT_goesHigh : MethodName := ⟨RXT, "goesHigh", "(II)Z"⟩
abbrev cXT_lowOf : ByteArray := prog_1_method_29_code
def yXT_lowOf : MethodName := ⟨RXT, "lowOf", "(LMeldTree$Node;)LMeldTree$Node;"⟩
abbrev cXT_highOf : ByteArray := prog_1_method_30_code
def yXT_highOf : MethodName := ⟨RXT, "highOf", "(LMeldTree$Node;)LMeldTree$Node;"⟩
abbrev cXN_init_2 : ByteArray := prog_2_method_2_code
def yXN_init_2 : MethodName := ⟨RXN, "<init>", "(IILMeldTree$Node;LMeldTree$Node;)V"⟩
abbrev cXT_keep : ByteArray := prog_1_method_16_code
def yXT_keep : MethodName := ⟨RXT, "keep", "(LMeldTree$Node;)I"⟩
abbrev cXL_remove : ByteArray := method_4_code
def yXL_remove : MethodName := ⟨RXL, "remove", "(LMeldTree;II[J)I"⟩
abbrev cXT_remove : ByteArray := prog_1_method_3_code
def yXT_remove : MethodName := ⟨RXT, "remove", "(II)I"⟩
abbrev cXT_leafAt : ByteArray := prog_1_method_19_code
def yXT_leafAt : MethodName := ⟨RXT, "leafAt", "(LMeldTree$Node;I)LMeldTree$Node;"⟩
abbrev cXL_join : ByteArray := method_5_code
def yXL_join : MethodName := ⟨RXL, "join", "(LMeldTree;III[J)I"⟩
abbrev cXT_join : ByteArray := prog_1_method_4_code
def yXT_join : MethodName := ⟨RXT, "join", "(III)I"⟩
abbrev cXL_get : ByteArray := method_6_code
def yXL_get : MethodName := ⟨RXL, "get", "(LMeldTree;II[J)I"⟩
abbrev cXT_get : ByteArray := prog_1_method_5_code
def yXT_get : MethodName := ⟨RXT, "get", "(II)I"⟩
abbrev cXL_select : ByteArray := method_7_code
def yXL_select : MethodName := ⟨RXL, "select", "(LMeldTree;II[J)I"⟩
abbrev cXT_select : ByteArray := prog_1_method_6_code
def yXT_select : MethodName := ⟨RXT, "select", "(II)I"⟩
abbrev cXT_keyAt : ByteArray := prog_1_method_20_code
def yXT_keyAt : MethodName := ⟨RXT, "keyAt", "(LMeldTree$Node;I)I"⟩
abbrev cXL_many : ByteArray := method_8_code
def yXL_many : MethodName := ⟨RXL, "many", "(LMeldTree;III[J)I"⟩
abbrev cXT_many : ByteArray := prog_1_method_7_code
def yXT_many : MethodName := ⟨RXT, "many", "(III)I"⟩
abbrev cXT_sizeBelow : ByteArray := prog_1_method_21_code
def yXT_sizeBelow : MethodName := ⟨RXT, "sizeBelow", "(LMeldTree$Node;I)I"⟩
abbrev cXL_sum : ByteArray := method_9_code
def yXL_sum : MethodName := ⟨RXL, "sum", "(LMeldTree;III[J)I"⟩
abbrev cXT_sum : ByteArray := prog_1_method_8_code
def yXT_sum : MethodName := ⟨RXT, "sum", "(III)J"⟩
abbrev cXT_totalBelow : ByteArray := prog_1_method_22_code
def yXT_totalBelow : MethodName := ⟨RXT, "totalBelow", "(LMeldTree$Node;I)J"⟩
abbrev cXL_differ : ByteArray := method_10_code
def yXL_differ : MethodName := ⟨RXL, "differ", "(LMeldTree;II[J)I"⟩
abbrev cXT_differ : ByteArray := prog_1_method_9_code
def yXT_differ : MethodName := ⟨RXT, "differ", "(II)I"⟩
abbrev cXT_differences : ByteArray := prog_1_method_23_code
def yXT_differences : MethodName := ⟨RXT, "differences", "(LMeldTree$Node;LMeldTree$Node;I)I"⟩
abbrev cXL_digest : ByteArray := method_11_code
def yXL_digest : MethodName := ⟨RXL, "digest", "(LMeldTree;I[J)I"⟩
abbrev cXT_digest : ByteArray := prog_1_method_10_code
def yXT_digest : MethodName := ⟨RXT, "digest", "(I)J"⟩
abbrev cXT_digestOn : ByteArray := prog_1_method_24_code
def yXT_digestOn : MethodName := ⟨RXT, "digestOn", "(JLMeldTree$Node;I)J"⟩
abbrev cXM_init : ByteArray := prog_4_method_1_code
def yXM_init : MethodName := ⟨RXM, "<init>", "()V"⟩
abbrev cXM_thrown : ByteArray := prog_4_method_2_code
def yXM_thrown : MethodName := ⟨RXM, "thrown", "()I"⟩
abbrev cXM_put : ByteArray := prog_4_method_6_code
def yXM_put : MethodName := ⟨RXM, "put", "(III)I"⟩
abbrev cXM_isOne : ByteArray := prog_4_method_3_code
def yXM_isOne : MethodName := ⟨RXM, "isOne", "(I)Z"⟩
abbrev cXM_isKey : ByteArray := prog_4_method_4_code
def yXM_isKey : MethodName := ⟨RXM, "isKey", "(I)Z"⟩
abbrev cXM_made : ByteArray := prog_4_method_5_code
def yXM_made : MethodName := ⟨RXM, "made", "(III)I"⟩
abbrev cXM_remove : ByteArray := prog_4_method_7_code
def yXM_remove : MethodName := ⟨RXM, "remove", "(II)I"⟩
abbrev cXM_join : ByteArray := prog_4_method_8_code
def yXM_join : MethodName := ⟨RXM, "join", "(III)I"⟩
abbrev cXM_get : ByteArray := prog_4_method_9_code
def yXM_get : MethodName := ⟨RXM, "get", "(II)I"⟩
abbrev cXM_select : ByteArray := prog_4_method_10_code
def yXM_select : MethodName := ⟨RXM, "select", "(II)I"⟩
abbrev cXM_many : ByteArray := prog_4_method_11_code
def yXM_many : MethodName := ⟨RXM, "many", "(III)I"⟩
abbrev cXM_sum : ByteArray := prog_4_method_12_code
def yXM_sum : MethodName := ⟨RXM, "sum", "(III)J"⟩
abbrev cXM_differ : ByteArray := prog_4_method_13_code
def yXM_differ : MethodName := ⟨RXM, "differ", "(II)I"⟩
abbrev cXM_digest : ByteArray := prog_4_method_14_code
def yXM_digest : MethodName := ⟨RXM, "digest", "(I)J"⟩
abbrev cXM_versions : ByteArray := prog_4_method_15_code
def yXM_versions : MethodName := ⟨RXM, "versions", "()I"⟩
abbrev cXM_check : ByteArray := prog_4_method_16_code
def yXM_check : MethodName := ⟨RXM, "check", "()I"⟩
abbrev cXL_law : ByteArray := code
def yXL_law : MethodName := ⟨RXL, "law", "([I)Z"⟩
abbrev vwCl : List vw_C := [(RXN, TXN, 7), (RXT, TXT, 3), (RXM, TXM, 4), (RXA, TXA, 3)]
def mt_all_0 : List Cond := [(Jvm.Cond.initialized "MeldTreeLaw"),
  (Jvm.Cond.initialized "MeldTree"),
  (Jvm.Cond.initialized "java/util/AbstractCollection"),
  (Jvm.Cond.initialized "java/util/AbstractList"),
  (Jvm.Cond.initialized "java/util/ArrayList"),
  (Jvm.Cond.initialized "MeldTreeModel"),
  (Jvm.Cond.initialized "java/lang/Throwable"),
  (Jvm.Cond.initialized "java/lang/Exception"),
  (Jvm.Cond.initialized "java/lang/RuntimeException"),
  (Jvm.Cond.initialized "java/lang/IndexOutOfBoundsException"),
  (Jvm.Cond.initialized "java/lang/IllegalStateException"),
  (Jvm.Cond.initialized "MeldTree$Node"),
  (Jvm.Cond.initialized "jdk/internal/util/ArraysSupport"),
  (Jvm.Cond.initialized "java/lang/Math"),
  (Jvm.Cond.initialized "java/util/Arrays"),
  (Jvm.Cond.initialized "java/lang/System"),
  (Jvm.Cond.initialized "java/util/NoSuchElementException"),
  (Jvm.Cond.initialized "java/util/Objects"),
  (Jvm.Cond.initialized "jdk/internal/util/Preconditions"),
  (Jvm.Cond.classLink "MeldTreeLaw" (8 : Nat) "MeldTree"),
  (Jvm.Cond.instantiable "MeldTree" (3 : Nat)),
  (Jvm.Cond.methodLink "MeldTreeLaw" (46 : Nat) yXT_init),
  (Jvm.Cond.instanceMethod yXT_init),
  (Jvm.Cond.code yXT_init prog_1_method_1_code (1 : Nat) (Option.none : Option Jvm.ClassFile.FieldType)),
  (Jvm.Cond.methodLink "MeldTree" (1 : Nat) objectInit),
  (Jvm.Cond.instanceMethod objectInit),
  (Jvm.Cond.code objectInit object_method_1_code (1 : Nat) (Option.none : Option Jvm.ClassFile.FieldType)),
  (Jvm.Cond.classLink "MeldTree" (9 : Nat) "MeldTree$Node"),
  (Jvm.Cond.classLink "MeldTree" (15 : Nat) "java/util/ArrayList"),
  (Jvm.Cond.instantiable "java/util/ArrayList" (3 : Nat)),
  (Jvm.Cond.methodLink "MeldTree" (17 : Nat) yXA_init),
  (Jvm.Cond.instanceMethod yXA_init),
  (Jvm.Cond.code yXA_init prog_18_method_2_code (1 : Nat) (Option.none : Option Jvm.ClassFile.FieldType)),
  (Jvm.Cond.methodLink "java/util/ArrayList" (1 : Nat) yXB_init),
  (Jvm.Cond.instanceMethod yXB_init),
  (Jvm.Cond.code yXB_init prog_17_method_1_code (1 : Nat) (Option.none : Option Jvm.ClassFile.FieldType)),
  (Jvm.Cond.methodLink "java/util/AbstractList" (1 : Nat) yXC_init),
  (Jvm.Cond.instanceMethod yXC_init),
  (Jvm.Cond.code yXC_init prog_16_method_1_code (1 : Nat) (Option.none : Option Jvm.ClassFile.FieldType)),
  (Jvm.Cond.methodLink "java/util/AbstractCollection" (1 : Nat) objectInit),
  (Jvm.Cond.fieldLink "java/util/ArrayList" (39 : Nat) "java/util/ArrayList" "DEFAULTCAPACITY_EMPTY_ELEMENTDATA" "[Ljava/lang/Object;"),
  (Jvm.Cond.fieldLink "java/util/ArrayList" (9 : Nat) "java/util/ArrayList" "elementData" "[Ljava/lang/Object;"),
  (Jvm.Cond.fieldLink "java/util/ArrayList" (48 : Nat) "java/util/ArrayList" "size" "I"),
  (Jvm.Cond.fieldLink "java/util/AbstractList" (7 : Nat) "java/util/AbstractList" "modCount" "I"),
  (Jvm.Cond.fieldLink "java/util/ArrayList" (63 : Nat) "java/util/ArrayList" "modCount" "I"),
  (Jvm.Cond.sameField "java/util/ArrayList" "java/util/AbstractList" "modCount" "I"),
  (Jvm.Cond.lays "java/util/ArrayList" "java/util/ArrayList" "elementData" "[Ljava/lang/Object;"),
  (Jvm.Cond.soleField "java/util/ArrayList" "elementData"),
  (Jvm.Cond.lays "java/util/ArrayList" "java/util/ArrayList" "size" "I"),
  (Jvm.Cond.soleField "java/util/ArrayList" "size"),
  (Jvm.Cond.lays "java/util/ArrayList" "java/util/AbstractList" "modCount" "I"),
  (Jvm.Cond.soleField "java/util/AbstractList" "modCount"),
  (Jvm.Cond.superclass "java/util/ArrayList" "java/util/AbstractList"),
  (Jvm.Cond.fieldLink "MeldTree" (11 : Nat) "MeldTree" "roots" "[LMeldTree$Node;"),
  (Jvm.Cond.fieldLink "MeldTree" (18 : Nat) "MeldTree" "nodes" "Ljava/util/ArrayList;"),
  (Jvm.Cond.fieldLink "MeldTree" (22 : Nat) "MeldTree" "count" "I"),
  (Jvm.Cond.laysFinal "MeldTree" "MeldTree" "roots" "[LMeldTree$Node;"),
  (Jvm.Cond.soleField "MeldTree" "roots"),
  (Jvm.Cond.laysFinal "MeldTree" "MeldTree" "nodes" "Ljava/util/ArrayList;"),
  (Jvm.Cond.soleField "MeldTree" "nodes")]
def mt_all_1 : List Cond := [(Jvm.Cond.lays "MeldTree" "MeldTree" "count" "I"),
  (Jvm.Cond.soleField "MeldTree" "count"),
  (Jvm.Cond.superclass "MeldTree" "java/lang/Object"),
  (Jvm.Cond.methodLink "MeldTreeLaw" (86 : Nat) yXT_versions),
  (Jvm.Cond.instanceMethod yXT_versions),
  (Jvm.Cond.selects "MeldTree" yXT_versions yXT_versions),
  (Jvm.Cond.code yXT_versions prog_1_method_11_code (1 : Nat) (Option.some Jvm.ClassFile.FieldType.int)),
  (Jvm.Cond.methodLink "MeldTreeLaw" (90 : Nat) yXT_check),
  (Jvm.Cond.instanceMethod yXT_check),
  (Jvm.Cond.selects "MeldTree" yXT_check yXT_check),
  (Jvm.Cond.code yXT_check prog_1_method_12_code (3 : Nat) (Option.some Jvm.ClassFile.FieldType.int)),
  (Jvm.Cond.methodLink "MeldTree" (96 : Nat) yXT_isAt),
  (Jvm.Cond.static yXT_isAt),
  (Jvm.Cond.code yXT_isAt prog_1_method_25_code (3 : Nat) (Option.some Jvm.ClassFile.FieldType.boolean)),
  (Jvm.Cond.methodLink "MeldTree" (100 : Nat) yXA_size),
  (Jvm.Cond.instanceMethod yXA_size),
  (Jvm.Cond.selects "java/util/ArrayList" yXA_size yXA_size),
  (Jvm.Cond.code yXA_size prog_18_method_8_code (1 : Nat) (Option.some Jvm.ClassFile.FieldType.int)),
  (Jvm.Cond.methodLink "MeldTree" (104 : Nat) yXA_get),
  (Jvm.Cond.instanceMethod yXA_get),
  (Jvm.Cond.selects "java/util/ArrayList" yXA_get yXA_get),
  (Jvm.Cond.code yXA_get prog_18_method_20_code (2 : Nat) (Option.some (Jvm.ClassFile.FieldType.object "java/lang/Object"))),
  (Jvm.Cond.methodLink "java/util/ArrayList" (118 : Nat) yXO_checkIndex),
  (Jvm.Cond.static yXO_checkIndex),
  (Jvm.Cond.code yXO_checkIndex prog_23_method_17_code (2 : Nat) (Option.some Jvm.ClassFile.FieldType.int)),
  (Jvm.Cond.methodLink "java/util/Objects" (105 : Nat) yXP_checkIndex),
  (Jvm.Cond.static yXP_checkIndex),
  (Jvm.Cond.code yXP_checkIndex prog_27_method_11_code (3 : Nat) (Option.some Jvm.ClassFile.FieldType.int)),
  (Jvm.Cond.methodLink "java/util/ArrayList" (123 : Nat) yXA_elementData),
  (Jvm.Cond.instanceMethod yXA_elementData),
  (Jvm.Cond.selects "java/util/ArrayList" yXA_elementData yXA_elementData),
  (Jvm.Cond.code yXA_elementData prog_18_method_18_code (2 : Nat) (Option.some (Jvm.ClassFile.FieldType.object "java/lang/Object"))),
  (Jvm.Cond.methodLink "MeldTree" (108 : Nat) yXT_faultsOf),
  (Jvm.Cond.static yXT_faultsOf),
  (Jvm.Cond.code yXT_faultsOf prog_1_method_26_code (1 : Nat) (Option.some Jvm.ClassFile.FieldType.int)),
  (Jvm.Cond.methodLink "MeldTree" (153 : Nat) yXT_faultsOfLeaf),
  (Jvm.Cond.static yXT_faultsOfLeaf),
  (Jvm.Cond.code yXT_faultsOfLeaf prog_1_method_27_code (2 : Nat) (Option.some Jvm.ClassFile.FieldType.int)),
  (Jvm.Cond.methodLink "MeldTree" (156 : Nat) yXT_faultsOfFork),
  (Jvm.Cond.static yXT_faultsOfFork),
  (Jvm.Cond.code yXT_faultsOfFork prog_1_method_28_code (3 : Nat) (Option.some Jvm.ClassFile.FieldType.int)),
  (Jvm.Cond.methodLink "MeldTree" (70 : Nat) yXT_sizeOf),
  (Jvm.Cond.static yXT_sizeOf),
  (Jvm.Cond.code yXT_sizeOf prog_1_method_31_code (1 : Nat) (Option.some Jvm.ClassFile.FieldType.int)),
  (Jvm.Cond.methodLink "MeldTree" (134 : Nat) yXT_totalOf),
  (Jvm.Cond.static yXT_totalOf),
  (Jvm.Cond.code yXT_totalOf prog_1_method_32_code (1 : Nat) (Option.some Jvm.ClassFile.FieldType.long)),
  (Jvm.Cond.methodLink "MeldTreeLaw" (50 : Nat) yXL_put),
  (Jvm.Cond.static yXL_put),
  (Jvm.Cond.codeWith yXL_put method_3_code (6 : Nat) (Option.some Jvm.ClassFile.FieldType.int) [((0 : Nat), (12 : Nat), (15 : Nat), (13 : Nat)), ((0 : Nat), (12 : Nat), (19 : Nat), (15 : Nat))]),
  (Jvm.Cond.classLink "MeldTreeLaw" (13 : Nat) "java/lang/IndexOutOfBoundsException"),
  (Jvm.Cond.classLink "MeldTreeLaw" (15 : Nat) "java/lang/IllegalStateException"),
  (Jvm.Cond.methodLink "MeldTreeLaw" (7 : Nat) yXT_put),
  (Jvm.Cond.instanceMethod yXT_put),
  (Jvm.Cond.selects "MeldTree" yXT_put yXT_put),
  (Jvm.Cond.code yXT_put prog_1_method_2_code (5 : Nat) (Option.some Jvm.ClassFile.FieldType.int)),
  (Jvm.Cond.methodLink "MeldTree" (26 : Nat) yXT_needVersion),
  (Jvm.Cond.instanceMethod yXT_needVersion),
  (Jvm.Cond.code yXT_needVersion prog_1_method_13_code (2 : Nat) (Option.none : Option Jvm.ClassFile.FieldType)),
  (Jvm.Cond.classLink "MeldTree" (62 : Nat) "java/lang/IndexOutOfBoundsException")]
def mt_all_2 : List Cond := [(Jvm.Cond.instantiable "java/lang/IndexOutOfBoundsException" (6 : Nat)),
  (Jvm.Cond.selects "java/lang/IndexOutOfBoundsException" (⟨"java/lang/Throwable", "fillInStackTrace", "(I)Ljava/lang/Throwable;"⟩ : MethodName) (⟨"java/lang/Throwable", "fillInStackTrace", "(I)Ljava/lang/Throwable;"⟩ : MethodName)),
  (Jvm.Cond.selects "java/lang/IndexOutOfBoundsException" (⟨"java/lang/Throwable", "fillInStackTrace", "()Ljava/lang/Throwable;"⟩ : MethodName) (⟨"java/lang/Throwable", "fillInStackTrace", "()Ljava/lang/Throwable;"⟩ : MethodName)),
  (Jvm.Cond.lays "java/lang/IndexOutOfBoundsException" "java/lang/Throwable" "cause" "Ljava/lang/Throwable;"),
  (Jvm.Cond.lays "java/lang/Throwable" "java/lang/Throwable" "cause" "Ljava/lang/Throwable;"),
  (Jvm.Cond.lays "java/lang/IndexOutOfBoundsException" "java/lang/Throwable" "stackTrace" "[Ljava/lang/StackTraceElement;"),
  (Jvm.Cond.lays "java/lang/Throwable" "java/lang/Throwable" "stackTrace" "[Ljava/lang/StackTraceElement;"),
  (Jvm.Cond.lays "java/lang/IndexOutOfBoundsException" "java/lang/Throwable" "suppressedExceptions" "Ljava/util/List;"),
  (Jvm.Cond.lays "java/lang/Throwable" "java/lang/Throwable" "suppressedExceptions" "Ljava/util/List;"),
  (Jvm.Cond.lays "java/lang/IndexOutOfBoundsException" "java/lang/Throwable" "detailMessage" "Ljava/lang/String;"),
  (Jvm.Cond.lays "java/lang/Throwable" "java/lang/Throwable" "detailMessage" "Ljava/lang/String;"),
  (Jvm.Cond.lays "java/lang/IndexOutOfBoundsException" "java/lang/Throwable" "backtrace" "Ljava/lang/Object;"),
  (Jvm.Cond.lays "java/lang/Throwable" "java/lang/Throwable" "backtrace" "Ljava/lang/Object;"),
  (Jvm.Cond.fieldLink "java/lang/Throwable" (198 : Nat) "java/lang/Throwable" "backtrace" "Ljava/lang/Object;"),
  (Jvm.Cond.superclass "java/lang/Throwable" "java/lang/Object"),
  (Jvm.Cond.instanceMethod (⟨"java/lang/Throwable", "<init>", "()V"⟩ : MethodName)),
  (Jvm.Cond.code (⟨"java/lang/Throwable", "<init>", "()V"⟩ : MethodName) prog_15_method_1_code (1 : Nat) (Option.none : Option Jvm.ClassFile.FieldType)),
  (Jvm.Cond.methodLink "java/lang/Throwable" (1 : Nat) objectInit),
  (Jvm.Cond.fieldLink "java/lang/Throwable" (13 : Nat) "java/lang/Throwable" "UNASSIGNED_STACK" "[Ljava/lang/StackTraceElement;"),
  (Jvm.Cond.fieldLink "java/lang/Throwable" (20 : Nat) "java/lang/Throwable" "SUPPRESSED_SENTINEL" "Ljava/util/List;"),
  (Jvm.Cond.methodLink "java/lang/Throwable" (27 : Nat) (⟨"java/lang/Throwable", "fillInStackTrace", "()Ljava/lang/Throwable;"⟩ : MethodName)),
  (Jvm.Cond.instanceMethod (⟨"java/lang/Throwable", "fillInStackTrace", "()Ljava/lang/Throwable;"⟩ : MethodName)),
  (Jvm.Cond.sameMethod "java/lang/Throwable" "java/lang/Throwable" "fillInStackTrace" "()Ljava/lang/Throwable;"),
  (Jvm.Cond.selects "java/lang/IllegalStateException" (⟨"java/lang/Throwable", "fillInStackTrace", "()Ljava/lang/Throwable;"⟩ : MethodName) (⟨"java/lang/Throwable", "fillInStackTrace", "()Ljava/lang/Throwable;"⟩ : MethodName)),
  (Jvm.Cond.selects "java/util/NoSuchElementException" (⟨"java/lang/Throwable", "fillInStackTrace", "()Ljava/lang/Throwable;"⟩ : MethodName) (⟨"java/lang/Throwable", "fillInStackTrace", "()Ljava/lang/Throwable;"⟩ : MethodName)),
  (Jvm.Cond.codeSync (⟨"java/lang/Throwable", "fillInStackTrace", "()Ljava/lang/Throwable;"⟩ : MethodName) prog_15_method_18_code (1 : Nat) (Option.some (Jvm.ClassFile.FieldType.object "java/lang/Throwable"))),
  (Jvm.Cond.methodLink "java/lang/Throwable" (202 : Nat) (⟨"java/lang/Throwable", "fillInStackTrace", "(I)Ljava/lang/Throwable;"⟩ : MethodName)),
  (Jvm.Cond.instanceMethod (⟨"java/lang/Throwable", "fillInStackTrace", "(I)Ljava/lang/Throwable;"⟩ : MethodName)),
  (Jvm.Cond.instantiable "java/lang/Throwable" (6 : Nat)),
  (Jvm.Cond.native (⟨"java/lang/Throwable", "fillInStackTrace", "(I)Ljava/lang/Throwable;"⟩ : MethodName)),
  (Jvm.Cond.methodLink "MeldTree" (66 : Nat) (⟨"java/lang/IndexOutOfBoundsException", "<init>", "(Ljava/lang/String;)V"⟩ : MethodName)),
  (Jvm.Cond.instanceMethod (⟨"java/lang/IndexOutOfBoundsException", "<init>", "(Ljava/lang/String;)V"⟩ : MethodName)),
  (Jvm.Cond.code (⟨"java/lang/IndexOutOfBoundsException", "<init>", "(Ljava/lang/String;)V"⟩ : MethodName) prog_9_method_2_code (2 : Nat) (Option.none : Option Jvm.ClassFile.FieldType)),
  (Jvm.Cond.methodLink "java/lang/IndexOutOfBoundsException" (7 : Nat) (⟨"java/lang/RuntimeException", "<init>", "(Ljava/lang/String;)V"⟩ : MethodName)),
  (Jvm.Cond.instanceMethod (⟨"java/lang/RuntimeException", "<init>", "(Ljava/lang/String;)V"⟩ : MethodName)),
  (Jvm.Cond.code (⟨"java/lang/RuntimeException", "<init>", "(Ljava/lang/String;)V"⟩ : MethodName) prog_12_method_2_code (2 : Nat) (Option.none : Option Jvm.ClassFile.FieldType)),
  (Jvm.Cond.methodLink "java/lang/RuntimeException" (7 : Nat) (⟨"java/lang/Exception", "<init>", "(Ljava/lang/String;)V"⟩ : MethodName)),
  (Jvm.Cond.instanceMethod (⟨"java/lang/Exception", "<init>", "(Ljava/lang/String;)V"⟩ : MethodName)),
  (Jvm.Cond.code (⟨"java/lang/Exception", "<init>", "(Ljava/lang/String;)V"⟩ : MethodName) prog_7_method_2_code (2 : Nat) (Option.none : Option Jvm.ClassFile.FieldType)),
  (Jvm.Cond.methodLink "java/lang/Exception" (7 : Nat) (⟨"java/lang/Throwable", "<init>", "(Ljava/lang/String;)V"⟩ : MethodName)),
  (Jvm.Cond.instanceMethod (⟨"java/lang/Throwable", "<init>", "(Ljava/lang/String;)V"⟩ : MethodName)),
  (Jvm.Cond.code (⟨"java/lang/Throwable", "<init>", "(Ljava/lang/String;)V"⟩ : MethodName) prog_15_method_2_code (2 : Nat) (Option.none : Option Jvm.ClassFile.FieldType)),
  (Jvm.Cond.fieldLink "java/lang/Throwable" (31 : Nat) "java/lang/Throwable" "detailMessage" "Ljava/lang/String;"),
  (Jvm.Cond.fieldLink "java/lang/Throwable" (7 : Nat) "java/lang/Throwable" "cause" "Ljava/lang/Throwable;"),
  (Jvm.Cond.fieldLink "java/lang/Throwable" (17 : Nat) "java/lang/Throwable" "stackTrace" "[Ljava/lang/StackTraceElement;"),
  (Jvm.Cond.fieldLink "java/lang/Throwable" (24 : Nat) "java/lang/Throwable" "suppressedExceptions" "Ljava/util/List;"),
  (Jvm.Cond.soleField "java/lang/Throwable" "backtrace"),
  (Jvm.Cond.soleField "java/lang/Throwable" "detailMessage"),
  (Jvm.Cond.soleField "java/lang/Throwable" "cause"),
  (Jvm.Cond.soleField "java/lang/Throwable" "stackTrace"),
  (Jvm.Cond.lays "java/lang/IndexOutOfBoundsException" "java/lang/Throwable" "depth" "I"),
  (Jvm.Cond.soleField "java/lang/Throwable" "depth"),
  (Jvm.Cond.soleField "java/lang/Throwable" "suppressedExceptions"),
  (Jvm.Cond.superclass "java/lang/IndexOutOfBoundsException" "java/lang/RuntimeException"),
  (Jvm.Cond.arrayClass Jvm.ClassFile.FieldType.byte),
  (Jvm.Cond.methodLink "MeldTree" (30 : Nat) yXT_needKey),
  (Jvm.Cond.static yXT_needKey),
  (Jvm.Cond.code yXT_needKey prog_1_method_14_code (1 : Nat) (Option.none : Option Jvm.ClassFile.FieldType)),
  (Jvm.Cond.methodLink "MeldTree" (33 : Nat) yXT_needRoom),
  (Jvm.Cond.instanceMethod yXT_needRoom)]
def mt_all_3 : List Cond := [(Jvm.Cond.code yXT_needRoom prog_1_method_15_code (1 : Nat) (Option.none : Option Jvm.ClassFile.FieldType)),
  (Jvm.Cond.classLink "MeldTree" (115 : Nat) "java/lang/IllegalStateException"),
  (Jvm.Cond.instantiable "java/lang/IllegalStateException" (6 : Nat)),
  (Jvm.Cond.selects "java/lang/IllegalStateException" (⟨"java/lang/Throwable", "fillInStackTrace", "(I)Ljava/lang/Throwable;"⟩ : MethodName) (⟨"java/lang/Throwable", "fillInStackTrace", "(I)Ljava/lang/Throwable;"⟩ : MethodName)),
  (Jvm.Cond.lays "java/lang/IllegalStateException" "java/lang/Throwable" "cause" "Ljava/lang/Throwable;"),
  (Jvm.Cond.lays "java/lang/IllegalStateException" "java/lang/Throwable" "stackTrace" "[Ljava/lang/StackTraceElement;"),
  (Jvm.Cond.lays "java/lang/IllegalStateException" "java/lang/Throwable" "suppressedExceptions" "Ljava/util/List;"),
  (Jvm.Cond.lays "java/lang/IllegalStateException" "java/lang/Throwable" "detailMessage" "Ljava/lang/String;"),
  (Jvm.Cond.lays "java/lang/IllegalStateException" "java/lang/Throwable" "backtrace" "Ljava/lang/Object;"),
  (Jvm.Cond.methodLink "MeldTree" (119 : Nat) (⟨"java/lang/IllegalStateException", "<init>", "(Ljava/lang/String;)V"⟩ : MethodName)),
  (Jvm.Cond.instanceMethod (⟨"java/lang/IllegalStateException", "<init>", "(Ljava/lang/String;)V"⟩ : MethodName)),
  (Jvm.Cond.code (⟨"java/lang/IllegalStateException", "<init>", "(Ljava/lang/String;)V"⟩ : MethodName) prog_8_method_2_code (2 : Nat) (Option.none : Option Jvm.ClassFile.FieldType)),
  (Jvm.Cond.methodLink "java/lang/IllegalStateException" (7 : Nat) (⟨"java/lang/RuntimeException", "<init>", "(Ljava/lang/String;)V"⟩ : MethodName)),
  (Jvm.Cond.lays "java/lang/IllegalStateException" "java/lang/Throwable" "depth" "I"),
  (Jvm.Cond.superclass "java/lang/IllegalStateException" "java/lang/RuntimeException"),
  (Jvm.Cond.instantiable "MeldTree$Node" (7 : Nat)),
  (Jvm.Cond.instanceMethod yXN_init),
  (Jvm.Cond.code yXN_init prog_2_method_1_code (3 : Nat) (Option.none : Option Jvm.ClassFile.FieldType)),
  (Jvm.Cond.methodLink "MeldTree$Node" (1 : Nat) objectInit),
  (Jvm.Cond.fieldLink "MeldTree$Node" (7 : Nat) "MeldTree$Node" "height" "I"),
  (Jvm.Cond.fieldLink "MeldTree$Node" (13 : Nat) "MeldTree$Node" "first" "I"),
  (Jvm.Cond.fieldLink "MeldTree$Node" (16 : Nat) "MeldTree$Node" "low" "LMeldTree$Node;"),
  (Jvm.Cond.fieldLink "MeldTree$Node" (20 : Nat) "MeldTree$Node" "high" "LMeldTree$Node;"),
  (Jvm.Cond.fieldLink "MeldTree$Node" (23 : Nat) "MeldTree$Node" "value" "I"),
  (Jvm.Cond.fieldLink "MeldTree$Node" (26 : Nat) "MeldTree$Node" "size" "I"),
  (Jvm.Cond.fieldLink "MeldTree$Node" (29 : Nat) "MeldTree$Node" "total" "J"),
  (Jvm.Cond.laysFinal "MeldTree$Node" "MeldTree$Node" "height" "I"),
  (Jvm.Cond.soleField "MeldTree$Node" "height"),
  (Jvm.Cond.laysFinal "MeldTree$Node" "MeldTree$Node" "first" "I"),
  (Jvm.Cond.soleField "MeldTree$Node" "first"),
  (Jvm.Cond.laysFinal "MeldTree$Node" "MeldTree$Node" "low" "LMeldTree$Node;"),
  (Jvm.Cond.soleField "MeldTree$Node" "low"),
  (Jvm.Cond.laysFinal "MeldTree$Node" "MeldTree$Node" "high" "LMeldTree$Node;"),
  (Jvm.Cond.soleField "MeldTree$Node" "high"),
  (Jvm.Cond.laysFinal "MeldTree$Node" "MeldTree$Node" "value" "I"),
  (Jvm.Cond.soleField "MeldTree$Node" "value"),
  (Jvm.Cond.laysFinal "MeldTree$Node" "MeldTree$Node" "size" "I"),
  (Jvm.Cond.soleField "MeldTree$Node" "size"),
  (Jvm.Cond.laysFinal "MeldTree$Node" "MeldTree$Node" "total" "J"),
  (Jvm.Cond.soleField "MeldTree$Node" "total"),
  (Jvm.Cond.superclass "MeldTree$Node" "java/lang/Object"),
  (Jvm.Cond.methodLink "MeldTree" (39 : Nat) yXA_add),
  (Jvm.Cond.instanceMethod yXA_add),
  (Jvm.Cond.selects "java/util/ArrayList" yXA_add yXA_add),
  (Jvm.Cond.code yXA_add prog_18_method_25_code (2 : Nat) (Option.some Jvm.ClassFile.FieldType.boolean)),
  (Jvm.Cond.methodLink "java/util/ArrayList" (131 : Nat) yXA_add_2),
  (Jvm.Cond.instanceMethod yXA_add_2),
  (Jvm.Cond.code yXA_add_2 prog_18_method_24_code (4 : Nat) (Option.none : Option Jvm.ClassFile.FieldType)),
  (Jvm.Cond.methodLink "java/util/ArrayList" (129 : Nat) yXA_grow),
  (Jvm.Cond.instanceMethod yXA_grow),
  (Jvm.Cond.code yXA_grow prog_18_method_7_code (1 : Nat) (Option.some (Jvm.ClassFile.FieldType.array (Jvm.ClassFile.FieldType.object "java/lang/Object")))),
  (Jvm.Cond.methodLink "java/util/ArrayList" (69 : Nat) yXA_grow_2),
  (Jvm.Cond.instanceMethod yXA_grow_2),
  (Jvm.Cond.code yXA_grow_2 prog_18_method_6_code (4 : Nat) (Option.some (Jvm.ClassFile.FieldType.array (Jvm.ClassFile.FieldType.object "java/lang/Object")))),
  (Jvm.Cond.methodLink "java/util/ArrayList" (73 : Nat) yXS_newLength),
  (Jvm.Cond.static yXS_newLength),
  (Jvm.Cond.code yXS_newLength prog_26_method_27_code (4 : Nat) (Option.some Jvm.ClassFile.FieldType.int)),
  (Jvm.Cond.methodLink "jdk/internal/util/ArraysSupport" (194 : Nat) (⟨"java/lang/Math", "max", "(II)I"⟩ : MethodName)),
  (Jvm.Cond.static (⟨"java/lang/Math", "max", "(II)I"⟩ : MethodName)),
  (Jvm.Cond.code (⟨"java/lang/Math", "max", "(II)I"⟩ : MethodName) prog_11_method_65_code (2 : Nat) (Option.some Jvm.ClassFile.FieldType.int))]
def mt_all_4 : List Cond := [(Jvm.Cond.constant "jdk/internal/util/ArraysSupport" (200 : Nat) (2147483639 : Int32)),
  (Jvm.Cond.methodLink "jdk/internal/util/ArraysSupport" (201 : Nat) yXS_hugeLength),
  (Jvm.Cond.static yXS_hugeLength),
  (Jvm.Cond.code yXS_hugeLength prog_26_method_28_code (3 : Nat) (Option.some Jvm.ClassFile.FieldType.int)),
  (Jvm.Cond.methodLink "java/util/ArrayList" (66 : Nat) yXR_copyOf),
  (Jvm.Cond.static yXR_copyOf),
  (Jvm.Cond.code yXR_copyOf prog_19_method_119_code (2 : Nat) (Option.some (Jvm.ClassFile.FieldType.array (Jvm.ClassFile.FieldType.object "java/lang/Object")))),
  (Jvm.Cond.methodLink "java/util/Arrays" (86 : Nat) (⟨"java/lang/Object", "getClass", "()Ljava/lang/Class;"⟩ : MethodName)),
  (Jvm.Cond.instanceMethod (⟨"java/lang/Object", "getClass", "()Ljava/lang/Class;"⟩ : MethodName)),
  (Jvm.Cond.sameMethod "java/lang/Object" "java/lang/Object" "getClass" "()Ljava/lang/Class;"),
  (Jvm.Cond.selects "MeldTree" (⟨"java/lang/Object", "getClass", "()Ljava/lang/Class;"⟩ : MethodName) (⟨"java/lang/Object", "getClass", "()Ljava/lang/Class;"⟩ : MethodName)),
  (Jvm.Cond.selects "MeldTree$Node" (⟨"java/lang/Object", "getClass", "()Ljava/lang/Class;"⟩ : MethodName) (⟨"java/lang/Object", "getClass", "()Ljava/lang/Class;"⟩ : MethodName)),
  (Jvm.Cond.selects "MeldTreeModel" (⟨"java/lang/Object", "getClass", "()Ljava/lang/Class;"⟩ : MethodName) (⟨"java/lang/Object", "getClass", "()Ljava/lang/Class;"⟩ : MethodName)),
  (Jvm.Cond.selects "java/lang/IllegalStateException" (⟨"java/lang/Object", "getClass", "()Ljava/lang/Class;"⟩ : MethodName) (⟨"java/lang/Object", "getClass", "()Ljava/lang/Class;"⟩ : MethodName)),
  (Jvm.Cond.selects "java/lang/IndexOutOfBoundsException" (⟨"java/lang/Object", "getClass", "()Ljava/lang/Class;"⟩ : MethodName) (⟨"java/lang/Object", "getClass", "()Ljava/lang/Class;"⟩ : MethodName)),
  (Jvm.Cond.selects "java/util/ArrayList" (⟨"java/lang/Object", "getClass", "()Ljava/lang/Class;"⟩ : MethodName) (⟨"java/lang/Object", "getClass", "()Ljava/lang/Class;"⟩ : MethodName)),
  (Jvm.Cond.selects "java/util/NoSuchElementException" (⟨"java/lang/Object", "getClass", "()Ljava/lang/Class;"⟩ : MethodName) (⟨"java/lang/Object", "getClass", "()Ljava/lang/Class;"⟩ : MethodName)),
  (Jvm.Cond.native (⟨"java/lang/Object", "getClass", "()Ljava/lang/Class;"⟩ : MethodName)),
  (Jvm.Cond.methodLink "java/util/Arrays" (300 : Nat) yXR_copyOf_2),
  (Jvm.Cond.static yXR_copyOf_2),
  (Jvm.Cond.code yXR_copyOf_2 prog_19_method_120_code (4 : Nat) (Option.some (Jvm.ClassFile.FieldType.array (Jvm.ClassFile.FieldType.object "java/lang/Object")))),
  (Jvm.Cond.classLink "java/util/Arrays" (110 : Nat) "[Ljava/lang/Object;"),
  (Jvm.Cond.classLink "java/util/Arrays" (2 : Nat) "java/lang/Object"),
  (Jvm.Cond.methodLink "java/util/Arrays" (304 : Nat) (⟨"java/lang/Math", "min", "(II)I"⟩ : MethodName)),
  (Jvm.Cond.static (⟨"java/lang/Math", "min", "(II)I"⟩ : MethodName)),
  (Jvm.Cond.code (⟨"java/lang/Math", "min", "(II)I"⟩ : MethodName) prog_11_method_69_code (2 : Nat) (Option.some Jvm.ClassFile.FieldType.int)),
  (Jvm.Cond.methodLink "java/util/Arrays" (150 : Nat) (⟨"java/lang/System", "arraycopy", "(Ljava/lang/Object;ILjava/lang/Object;II)V"⟩ : MethodName)),
  (Jvm.Cond.static (⟨"java/lang/System", "arraycopy", "(Ljava/lang/Object;ILjava/lang/Object;II)V"⟩ : MethodName)),
  (Jvm.Cond.native (⟨"java/lang/System", "arraycopy", "(Ljava/lang/Object;ILjava/lang/Object;II)V"⟩ : MethodName)),
  (Jvm.Cond.methodLink "java/util/ArrayList" (79 : Nat) (⟨"java/lang/Math", "max", "(II)I"⟩ : MethodName)),
  (Jvm.Cond.classLink "java/util/ArrayList" (7 : Nat) "java/lang/Object"),
  (Jvm.Cond.methodLink "MeldTree" (43 : Nat) yXT_meld),
  (Jvm.Cond.static yXT_meld),
  (Jvm.Cond.code yXT_meld prog_1_method_17_code (9 : Nat) (Option.some (Jvm.ClassFile.FieldType.object "MeldTree$Node"))),
  (Jvm.Cond.methodLink "MeldTree" (120 : Nat) yXT_goesHigh),
  (Jvm.Cond.static yXT_goesHigh),
  (Jvm.Cond.code yXT_goesHigh prog_1_method_18_code (2 : Nat) (Option.some Jvm.ClassFile.FieldType.boolean)),
  (Jvm.Cond.methodLink "MeldTree" (124 : Nat) yXT_lowOf),
  (Jvm.Cond.static yXT_lowOf),
  (Jvm.Cond.code yXT_lowOf prog_1_method_29_code (1 : Nat) (Option.some (Jvm.ClassFile.FieldType.object "MeldTree$Node"))),
  (Jvm.Cond.methodLink "MeldTree" (128 : Nat) yXT_highOf),
  (Jvm.Cond.static yXT_highOf),
  (Jvm.Cond.code yXT_highOf prog_1_method_30_code (1 : Nat) (Option.some (Jvm.ClassFile.FieldType.object "MeldTree$Node"))),
  (Jvm.Cond.instanceMethod yXN_init_2),
  (Jvm.Cond.code yXN_init_2 prog_2_method_2_code (5 : Nat) (Option.none : Option Jvm.ClassFile.FieldType)),
  (Jvm.Cond.methodLink "MeldTree" (47 : Nat) yXT_keep),
  (Jvm.Cond.instanceMethod yXT_keep),
  (Jvm.Cond.code yXT_keep prog_1_method_16_code (3 : Nat) (Option.some Jvm.ClassFile.FieldType.int)),
  (Jvm.Cond.methodLink "MeldTreeLaw" (60 : Nat) yXL_remove),
  (Jvm.Cond.static yXL_remove),
  (Jvm.Cond.codeWith yXL_remove method_4_code (5 : Nat) (Option.some Jvm.ClassFile.FieldType.int) [((0 : Nat), (10 : Nat), (13 : Nat), (13 : Nat)), ((0 : Nat), (10 : Nat), (17 : Nat), (15 : Nat)), ((0 : Nat), (10 : Nat), (21 : Nat), (21 : Nat))]),
  (Jvm.Cond.classLink "MeldTreeLaw" (21 : Nat) "java/util/NoSuchElementException"),
  (Jvm.Cond.methodLink "MeldTreeLaw" (17 : Nat) yXT_remove),
  (Jvm.Cond.instanceMethod yXT_remove),
  (Jvm.Cond.selects "MeldTree" yXT_remove yXT_remove),
  (Jvm.Cond.code yXT_remove prog_1_method_3_code (3 : Nat) (Option.some Jvm.ClassFile.FieldType.int)),
  (Jvm.Cond.methodLink "MeldTree" (51 : Nat) yXT_leafAt),
  (Jvm.Cond.static yXT_leafAt),
  (Jvm.Cond.code yXT_leafAt prog_1_method_19_code (4 : Nat) (Option.some (Jvm.ClassFile.FieldType.object "MeldTree$Node"))),
  (Jvm.Cond.classLink "MeldTree" (55 : Nat) "java/util/NoSuchElementException")]
def mt_all_5 : List Cond := [(Jvm.Cond.instantiable "java/util/NoSuchElementException" (6 : Nat)),
  (Jvm.Cond.selects "java/util/NoSuchElementException" (⟨"java/lang/Throwable", "fillInStackTrace", "(I)Ljava/lang/Throwable;"⟩ : MethodName) (⟨"java/lang/Throwable", "fillInStackTrace", "(I)Ljava/lang/Throwable;"⟩ : MethodName)),
  (Jvm.Cond.lays "java/util/NoSuchElementException" "java/lang/Throwable" "cause" "Ljava/lang/Throwable;"),
  (Jvm.Cond.lays "java/util/NoSuchElementException" "java/lang/Throwable" "stackTrace" "[Ljava/lang/StackTraceElement;"),
  (Jvm.Cond.lays "java/util/NoSuchElementException" "java/lang/Throwable" "suppressedExceptions" "Ljava/util/List;"),
  (Jvm.Cond.lays "java/util/NoSuchElementException" "java/lang/Throwable" "detailMessage" "Ljava/lang/String;"),
  (Jvm.Cond.lays "java/util/NoSuchElementException" "java/lang/Throwable" "backtrace" "Ljava/lang/Object;"),
  (Jvm.Cond.methodLink "MeldTree" (59 : Nat) (⟨"java/util/NoSuchElementException", "<init>", "(Ljava/lang/String;)V"⟩ : MethodName)),
  (Jvm.Cond.instanceMethod (⟨"java/util/NoSuchElementException", "<init>", "(Ljava/lang/String;)V"⟩ : MethodName)),
  (Jvm.Cond.code (⟨"java/util/NoSuchElementException", "<init>", "(Ljava/lang/String;)V"⟩ : MethodName) prog_22_method_4_code (2 : Nat) (Option.none : Option Jvm.ClassFile.FieldType)),
  (Jvm.Cond.methodLink "java/util/NoSuchElementException" (13 : Nat) (⟨"java/lang/RuntimeException", "<init>", "(Ljava/lang/String;)V"⟩ : MethodName)),
  (Jvm.Cond.lays "java/util/NoSuchElementException" "java/lang/Throwable" "depth" "I"),
  (Jvm.Cond.superclass "java/util/NoSuchElementException" "java/lang/RuntimeException"),
  (Jvm.Cond.methodLink "MeldTreeLaw" (64 : Nat) yXL_join),
  (Jvm.Cond.static yXL_join),
  (Jvm.Cond.codeWith yXL_join method_5_code (6 : Nat) (Option.some Jvm.ClassFile.FieldType.int) [((0 : Nat), (12 : Nat), (15 : Nat), (13 : Nat)), ((0 : Nat), (12 : Nat), (19 : Nat), (15 : Nat))]),
  (Jvm.Cond.methodLink "MeldTreeLaw" (23 : Nat) yXT_join),
  (Jvm.Cond.instanceMethod yXT_join),
  (Jvm.Cond.selects "MeldTree" yXT_join yXT_join),
  (Jvm.Cond.code yXT_join prog_1_method_4_code (4 : Nat) (Option.some Jvm.ClassFile.FieldType.int)),
  (Jvm.Cond.methodLink "MeldTreeLaw" (67 : Nat) yXL_get),
  (Jvm.Cond.static yXL_get),
  (Jvm.Cond.codeWith yXL_get method_6_code (5 : Nat) (Option.some Jvm.ClassFile.FieldType.int) [((0 : Nat), (10 : Nat), (13 : Nat), (13 : Nat)), ((0 : Nat), (10 : Nat), (17 : Nat), (21 : Nat))]),
  (Jvm.Cond.methodLink "MeldTreeLaw" (26 : Nat) yXT_get),
  (Jvm.Cond.instanceMethod yXT_get),
  (Jvm.Cond.selects "MeldTree" yXT_get yXT_get),
  (Jvm.Cond.code yXT_get prog_1_method_5_code (4 : Nat) (Option.some Jvm.ClassFile.FieldType.int)),
  (Jvm.Cond.methodLink "MeldTreeLaw" (70 : Nat) yXL_select),
  (Jvm.Cond.static yXL_select),
  (Jvm.Cond.codeWith yXL_select method_7_code (5 : Nat) (Option.some Jvm.ClassFile.FieldType.int) [((0 : Nat), (10 : Nat), (13 : Nat), (13 : Nat))]),
  (Jvm.Cond.methodLink "MeldTreeLaw" (29 : Nat) yXT_select),
  (Jvm.Cond.instanceMethod yXT_select),
  (Jvm.Cond.selects "MeldTree" yXT_select yXT_select),
  (Jvm.Cond.code yXT_select prog_1_method_6_code (3 : Nat) (Option.some Jvm.ClassFile.FieldType.int)),
  (Jvm.Cond.methodLink "MeldTree" (75 : Nat) yXT_keyAt),
  (Jvm.Cond.static yXT_keyAt),
  (Jvm.Cond.code yXT_keyAt prog_1_method_20_code (7 : Nat) (Option.some Jvm.ClassFile.FieldType.int)),
  (Jvm.Cond.methodLink "MeldTreeLaw" (73 : Nat) yXL_many),
  (Jvm.Cond.static yXL_many),
  (Jvm.Cond.codeWith yXL_many method_8_code (6 : Nat) (Option.some Jvm.ClassFile.FieldType.int) [((0 : Nat), (12 : Nat), (15 : Nat), (13 : Nat))]),
  (Jvm.Cond.methodLink "MeldTreeLaw" (32 : Nat) yXT_many),
  (Jvm.Cond.instanceMethod yXT_many),
  (Jvm.Cond.selects "MeldTree" yXT_many yXT_many),
  (Jvm.Cond.code yXT_many prog_1_method_7_code (4 : Nat) (Option.some Jvm.ClassFile.FieldType.int)),
  (Jvm.Cond.methodLink "MeldTree" (79 : Nat) yXT_sizeBelow),
  (Jvm.Cond.static yXT_sizeBelow),
  (Jvm.Cond.code yXT_sizeBelow prog_1_method_21_code (5 : Nat) (Option.some Jvm.ClassFile.FieldType.int)),
  (Jvm.Cond.methodLink "MeldTreeLaw" (76 : Nat) yXL_sum),
  (Jvm.Cond.static yXL_sum),
  (Jvm.Cond.codeWith yXL_sum method_9_code (6 : Nat) (Option.some Jvm.ClassFile.FieldType.int) [((0 : Nat), (11 : Nat), (14 : Nat), (13 : Nat))]),
  (Jvm.Cond.methodLink "MeldTreeLaw" (35 : Nat) yXT_sum),
  (Jvm.Cond.instanceMethod yXT_sum),
  (Jvm.Cond.selects "MeldTree" yXT_sum yXT_sum),
  (Jvm.Cond.code yXT_sum prog_1_method_8_code (4 : Nat) (Option.some Jvm.ClassFile.FieldType.long)),
  (Jvm.Cond.methodLink "MeldTree" (82 : Nat) yXT_totalBelow),
  (Jvm.Cond.static yXT_totalBelow),
  (Jvm.Cond.code yXT_totalBelow prog_1_method_22_code (6 : Nat) (Option.some Jvm.ClassFile.FieldType.long)),
  (Jvm.Cond.methodLink "MeldTreeLaw" (79 : Nat) yXL_differ),
  (Jvm.Cond.static yXL_differ),
  (Jvm.Cond.codeWith yXL_differ method_10_code (5 : Nat) (Option.some Jvm.ClassFile.FieldType.int) [((0 : Nat), (10 : Nat), (13 : Nat), (13 : Nat))])]
def mt_all_6 : List Cond := [(Jvm.Cond.methodLink "MeldTreeLaw" (39 : Nat) yXT_differ),
  (Jvm.Cond.instanceMethod yXT_differ),
  (Jvm.Cond.selects "MeldTree" yXT_differ yXT_differ),
  (Jvm.Cond.code yXT_differ prog_1_method_9_code (3 : Nat) (Option.some Jvm.ClassFile.FieldType.int)),
  (Jvm.Cond.methodLink "MeldTree" (86 : Nat) yXT_differences),
  (Jvm.Cond.static yXT_differences),
  (Jvm.Cond.code yXT_differences prog_1_method_23_code (3 : Nat) (Option.some Jvm.ClassFile.FieldType.int)),
  (Jvm.Cond.methodLink "MeldTreeLaw" (82 : Nat) yXL_digest),
  (Jvm.Cond.static yXL_digest),
  (Jvm.Cond.codeWith yXL_digest method_11_code (4 : Nat) (Option.some Jvm.ClassFile.FieldType.int) [((0 : Nat), (8 : Nat), (11 : Nat), (13 : Nat))]),
  (Jvm.Cond.methodLink "MeldTreeLaw" (42 : Nat) yXT_digest),
  (Jvm.Cond.instanceMethod yXT_digest),
  (Jvm.Cond.selects "MeldTree" yXT_digest yXT_digest),
  (Jvm.Cond.code yXT_digest prog_1_method_10_code (2 : Nat) (Option.some Jvm.ClassFile.FieldType.long)),
  (Jvm.Cond.constantLong "MeldTree" (90 : Nat) (7 : Int64)),
  (Jvm.Cond.methodLink "MeldTree" (92 : Nat) yXT_digestOn),
  (Jvm.Cond.static yXT_digestOn),
  (Jvm.Cond.code yXT_digestOn prog_1_method_24_code (4 : Nat) (Option.some Jvm.ClassFile.FieldType.long)),
  (Jvm.Cond.constantLong "MeldTree" (145 : Nat) (31 : Int64)),
  (Jvm.Cond.classLink "MeldTreeLaw" (47 : Nat) "MeldTreeModel"),
  (Jvm.Cond.instantiable "MeldTreeModel" (4 : Nat)),
  (Jvm.Cond.methodLink "MeldTreeLaw" (49 : Nat) yXM_init),
  (Jvm.Cond.instanceMethod yXM_init),
  (Jvm.Cond.code yXM_init prog_4_method_1_code (1 : Nat) (Option.none : Option Jvm.ClassFile.FieldType)),
  (Jvm.Cond.methodLink "MeldTreeModel" (1 : Nat) objectInit),
  (Jvm.Cond.constant "MeldTreeModel" (9 : Nat) (153600 : Int32)),
  (Jvm.Cond.fieldLink "MeldTreeModel" (10 : Nat) "MeldTreeModel" "value" "[I"),
  (Jvm.Cond.fieldLink "MeldTreeModel" (14 : Nat) "MeldTreeModel" "has" "[Z"),
  (Jvm.Cond.fieldLink "MeldTreeModel" (18 : Nat) "MeldTreeModel" "versions" "I"),
  (Jvm.Cond.fieldLink "MeldTreeModel" (22 : Nat) "MeldTreeModel" "thrown" "I"),
  (Jvm.Cond.laysFinal "MeldTreeModel" "MeldTreeModel" "value" "[I"),
  (Jvm.Cond.soleField "MeldTreeModel" "value"),
  (Jvm.Cond.laysFinal "MeldTreeModel" "MeldTreeModel" "has" "[Z"),
  (Jvm.Cond.soleField "MeldTreeModel" "has"),
  (Jvm.Cond.lays "MeldTreeModel" "MeldTreeModel" "versions" "I"),
  (Jvm.Cond.soleField "MeldTreeModel" "versions"),
  (Jvm.Cond.lays "MeldTreeModel" "MeldTreeModel" "thrown" "I"),
  (Jvm.Cond.soleField "MeldTreeModel" "thrown"),
  (Jvm.Cond.superclass "MeldTreeModel" "java/lang/Object"),
  (Jvm.Cond.arrayClass Jvm.ClassFile.FieldType.int),
  (Jvm.Cond.arrayClass Jvm.ClassFile.FieldType.boolean),
  (Jvm.Cond.methodLink "MeldTreeLaw" (56 : Nat) yXM_thrown),
  (Jvm.Cond.instanceMethod yXM_thrown),
  (Jvm.Cond.selects "MeldTreeModel" yXM_thrown yXM_thrown),
  (Jvm.Cond.code yXM_thrown prog_4_method_2_code (1 : Nat) (Option.some Jvm.ClassFile.FieldType.int)),
  (Jvm.Cond.methodLink "MeldTreeLaw" (55 : Nat) yXM_put),
  (Jvm.Cond.instanceMethod yXM_put),
  (Jvm.Cond.selects "MeldTreeModel" yXM_put yXM_put),
  (Jvm.Cond.code yXM_put prog_4_method_6_code (5 : Nat) (Option.some Jvm.ClassFile.FieldType.int)),
  (Jvm.Cond.methodLink "MeldTreeModel" (25 : Nat) yXM_isOne),
  (Jvm.Cond.instanceMethod yXM_isOne),
  (Jvm.Cond.code yXM_isOne prog_4_method_3_code (2 : Nat) (Option.some Jvm.ClassFile.FieldType.boolean)),
  (Jvm.Cond.methodLink "MeldTreeModel" (29 : Nat) yXM_isKey),
  (Jvm.Cond.static yXM_isKey),
  (Jvm.Cond.code yXM_isKey prog_4_method_4_code (1 : Nat) (Option.some Jvm.ClassFile.FieldType.boolean)),
  (Jvm.Cond.methodLink "MeldTreeModel" (32 : Nat) yXM_made),
  (Jvm.Cond.instanceMethod yXM_made),
  (Jvm.Cond.code yXM_made prog_4_method_5_code (7 : Nat) (Option.some Jvm.ClassFile.FieldType.int)),
  (Jvm.Cond.methodLink "MeldTreeLaw" (63 : Nat) yXM_remove),
  (Jvm.Cond.instanceMethod yXM_remove)]
def mt_all_7 : List Cond := [(Jvm.Cond.selects "MeldTreeModel" yXM_remove yXM_remove),
  (Jvm.Cond.code yXM_remove prog_4_method_7_code (4 : Nat) (Option.some Jvm.ClassFile.FieldType.int)),
  (Jvm.Cond.methodLink "MeldTreeLaw" (66 : Nat) yXM_join),
  (Jvm.Cond.instanceMethod yXM_join),
  (Jvm.Cond.selects "MeldTreeModel" yXM_join yXM_join),
  (Jvm.Cond.code yXM_join prog_4_method_8_code (4 : Nat) (Option.some Jvm.ClassFile.FieldType.int)),
  (Jvm.Cond.methodLink "MeldTreeLaw" (69 : Nat) yXM_get),
  (Jvm.Cond.instanceMethod yXM_get),
  (Jvm.Cond.selects "MeldTreeModel" yXM_get yXM_get),
  (Jvm.Cond.code yXM_get prog_4_method_9_code (3 : Nat) (Option.some Jvm.ClassFile.FieldType.int)),
  (Jvm.Cond.methodLink "MeldTreeLaw" (72 : Nat) yXM_select),
  (Jvm.Cond.instanceMethod yXM_select),
  (Jvm.Cond.selects "MeldTreeModel" yXM_select yXM_select),
  (Jvm.Cond.code yXM_select prog_4_method_10_code (5 : Nat) (Option.some Jvm.ClassFile.FieldType.int)),
  (Jvm.Cond.methodLink "MeldTreeLaw" (75 : Nat) yXM_many),
  (Jvm.Cond.instanceMethod yXM_many),
  (Jvm.Cond.selects "MeldTreeModel" yXM_many yXM_many),
  (Jvm.Cond.code yXM_many prog_4_method_11_code (6 : Nat) (Option.some Jvm.ClassFile.FieldType.int)),
  (Jvm.Cond.methodLink "MeldTreeLaw" (78 : Nat) yXM_sum),
  (Jvm.Cond.instanceMethod yXM_sum),
  (Jvm.Cond.selects "MeldTreeModel" yXM_sum yXM_sum),
  (Jvm.Cond.code yXM_sum prog_4_method_12_code (7 : Nat) (Option.some Jvm.ClassFile.FieldType.long)),
  (Jvm.Cond.methodLink "MeldTreeLaw" (81 : Nat) yXM_differ),
  (Jvm.Cond.instanceMethod yXM_differ),
  (Jvm.Cond.selects "MeldTreeModel" yXM_differ yXM_differ),
  (Jvm.Cond.code yXM_differ prog_4_method_13_code (7 : Nat) (Option.some Jvm.ClassFile.FieldType.int)),
  (Jvm.Cond.methodLink "MeldTreeLaw" (85 : Nat) yXM_digest),
  (Jvm.Cond.instanceMethod yXM_digest),
  (Jvm.Cond.selects "MeldTreeModel" yXM_digest yXM_digest),
  (Jvm.Cond.code yXM_digest prog_4_method_14_code (5 : Nat) (Option.some Jvm.ClassFile.FieldType.long)),
  (Jvm.Cond.constantLong "MeldTreeModel" (36 : Nat) (7 : Int64)),
  (Jvm.Cond.constantLong "MeldTreeModel" (38 : Nat) (31 : Int64)),
  (Jvm.Cond.methodLink "MeldTreeLaw" (89 : Nat) yXM_versions),
  (Jvm.Cond.instanceMethod yXM_versions),
  (Jvm.Cond.selects "MeldTreeModel" yXM_versions yXM_versions),
  (Jvm.Cond.code yXM_versions prog_4_method_15_code (1 : Nat) (Option.some Jvm.ClassFile.FieldType.int)),
  (Jvm.Cond.methodLink "MeldTreeLaw" (93 : Nat) yXM_check),
  (Jvm.Cond.instanceMethod yXM_check),
  (Jvm.Cond.selects "MeldTreeModel" yXM_check yXM_check),
  (Jvm.Cond.code yXM_check prog_4_method_16_code (1 : Nat) (Option.some Jvm.ClassFile.FieldType.int)),
  (Jvm.Cond.arrayClass Jvm.ClassFile.FieldType.long),
  (Jvm.Cond.sameMethod "java/lang/Throwable" "java/lang/Throwable" "fillInStackTrace" "(I)Ljava/lang/Throwable;"),
  (Jvm.Cond.sameMethod "[Ljava/lang/Object;" "java/lang/Object" "getClass" "()Ljava/lang/Class;"),
  (Jvm.Cond.selects "[Ljava/lang/Object;" (⟨"java/lang/Object", "getClass", "()Ljava/lang/Class;"⟩ : MethodName) (⟨"java/lang/Object", "getClass", "()Ljava/lang/Class;"⟩ : MethodName)),
  (Jvm.Cond.selects "MeldTree" yXT_needVersion yXT_needVersion),
  (Jvm.Cond.selects "java/lang/Throwable" (⟨"java/lang/Throwable", "fillInStackTrace", "(I)Ljava/lang/Throwable;"⟩ : MethodName) (⟨"java/lang/Throwable", "fillInStackTrace", "(I)Ljava/lang/Throwable;"⟩ : MethodName)),
  (Jvm.Cond.selects "MeldTree" yXT_needRoom yXT_needRoom),
  (Jvm.Cond.selects "java/util/ArrayList" yXA_add_2 yXA_add_2),
  (Jvm.Cond.selects "java/util/ArrayList" yXA_grow yXA_grow),
  (Jvm.Cond.selects "java/util/ArrayList" yXA_grow_2 yXA_grow_2),
  (Jvm.Cond.selects "MeldTree" yXT_keep yXT_keep),
  (Jvm.Cond.selects "MeldTreeModel" yXM_isOne yXM_isOne),
  (Jvm.Cond.selects "MeldTreeModel" yXM_made yXM_made)]
def mt_all : List Cond := mt_all_0 ++ (mt_all_1 ++ (mt_all_2 ++ (mt_all_3 ++ (mt_all_4 ++ (mt_all_5 ++ (mt_all_6 ++ (mt_all_7)))))))
theorem mt_good_0 : mt_all_0.all goodWord = true := by decide +kernel
theorem mt_good_1 : mt_all_1.all goodWord = true := by decide +kernel
theorem mt_good_2 : mt_all_2.all goodWord = true := by decide +kernel
theorem mt_good_3 : mt_all_3.all goodWord = true := by decide +kernel
theorem mt_good_4 : mt_all_4.all goodWord = true := by decide +kernel
theorem mt_good_5 : mt_all_5.all goodWord = true := by decide +kernel
theorem mt_good_6 : mt_all_6.all goodWord = true := by decide +kernel
theorem mt_good_7 : mt_all_7.all goodWord = true := by decide +kernel
theorem mw_0 : (Jvm.Cond.initialized "MeldTreeLaw") ∈ mt_all := List.mem_append_left _ (List.mem_of_getElem? (i := 0) rfl)
theorem mw_1 : (Jvm.Cond.initialized "MeldTree") ∈ mt_all := List.mem_append_left _ (List.mem_of_getElem? (i := 1) rfl)
theorem mw_2 : (Jvm.Cond.initialized "java/util/AbstractCollection") ∈ mt_all := List.mem_append_left _ (List.mem_of_getElem? (i := 2) rfl)
theorem mw_3 : (Jvm.Cond.initialized "java/util/AbstractList") ∈ mt_all := List.mem_append_left _ (List.mem_of_getElem? (i := 3) rfl)
theorem mw_4 : (Jvm.Cond.initialized "java/util/ArrayList") ∈ mt_all := List.mem_append_left _ (List.mem_of_getElem? (i := 4) rfl)
theorem mw_5 : (Jvm.Cond.initialized "MeldTreeModel") ∈ mt_all := List.mem_append_left _ (List.mem_of_getElem? (i := 5) rfl)
theorem mw_6 : (Jvm.Cond.initialized "java/lang/Throwable") ∈ mt_all := List.mem_append_left _ (List.mem_of_getElem? (i := 6) rfl)
theorem mw_7 : (Jvm.Cond.initialized "java/lang/Exception") ∈ mt_all := List.mem_append_left _ (List.mem_of_getElem? (i := 7) rfl)
theorem mw_8 : (Jvm.Cond.initialized "java/lang/RuntimeException") ∈ mt_all := List.mem_append_left _ (List.mem_of_getElem? (i := 8) rfl)
theorem mw_9 : (Jvm.Cond.initialized "java/lang/IndexOutOfBoundsException") ∈ mt_all := List.mem_append_left _ (List.mem_of_getElem? (i := 9) rfl)
theorem mw_10 : (Jvm.Cond.initialized "java/lang/IllegalStateException") ∈ mt_all := List.mem_append_left _ (List.mem_of_getElem? (i := 10) rfl)
theorem mw_11 : (Jvm.Cond.initialized "MeldTree$Node") ∈ mt_all := List.mem_append_left _ (List.mem_of_getElem? (i := 11) rfl)
theorem mw_12 : (Jvm.Cond.initialized "jdk/internal/util/ArraysSupport") ∈ mt_all := List.mem_append_left _ (List.mem_of_getElem? (i := 12) rfl)
theorem mw_13 : (Jvm.Cond.initialized "java/lang/Math") ∈ mt_all := List.mem_append_left _ (List.mem_of_getElem? (i := 13) rfl)
theorem mw_14 : (Jvm.Cond.initialized "java/util/Arrays") ∈ mt_all := List.mem_append_left _ (List.mem_of_getElem? (i := 14) rfl)
theorem mw_15 : (Jvm.Cond.initialized "java/lang/System") ∈ mt_all := List.mem_append_left _ (List.mem_of_getElem? (i := 15) rfl)
theorem mw_16 : (Jvm.Cond.initialized "java/util/NoSuchElementException") ∈ mt_all := List.mem_append_left _ (List.mem_of_getElem? (i := 16) rfl)
theorem mw_17 : (Jvm.Cond.initialized "java/util/Objects") ∈ mt_all := List.mem_append_left _ (List.mem_of_getElem? (i := 17) rfl)
theorem mw_18 : (Jvm.Cond.initialized "jdk/internal/util/Preconditions") ∈ mt_all := List.mem_append_left _ (List.mem_of_getElem? (i := 18) rfl)
theorem mw_19 : (Jvm.Cond.classLink "MeldTreeLaw" (8 : Nat) "MeldTree") ∈ mt_all := List.mem_append_left _ (List.mem_of_getElem? (i := 19) rfl)
theorem mw_20 : (Jvm.Cond.instantiable "MeldTree" (3 : Nat)) ∈ mt_all := List.mem_append_left _ (List.mem_of_getElem? (i := 20) rfl)
theorem mw_21 : (Jvm.Cond.methodLink "MeldTreeLaw" (46 : Nat) yXT_init) ∈ mt_all := List.mem_append_left _ (List.mem_of_getElem? (i := 21) rfl)
theorem mw_22 : (Jvm.Cond.instanceMethod yXT_init) ∈ mt_all := List.mem_append_left _ (List.mem_of_getElem? (i := 22) rfl)
theorem mw_23 : (Jvm.Cond.code yXT_init prog_1_method_1_code (1 : Nat) (Option.none : Option Jvm.ClassFile.FieldType)) ∈ mt_all := List.mem_append_left _ (List.mem_of_getElem? (i := 23) rfl)
theorem mw_24 : (Jvm.Cond.methodLink "MeldTree" (1 : Nat) objectInit) ∈ mt_all := List.mem_append_left _ (List.mem_of_getElem? (i := 24) rfl)
theorem mw_25 : (Jvm.Cond.instanceMethod objectInit) ∈ mt_all := List.mem_append_left _ (List.mem_of_getElem? (i := 25) rfl)
theorem mw_26 : (Jvm.Cond.code objectInit object_method_1_code (1 : Nat) (Option.none : Option Jvm.ClassFile.FieldType)) ∈ mt_all := List.mem_append_left _ (List.mem_of_getElem? (i := 26) rfl)
theorem mw_27 : (Jvm.Cond.classLink "MeldTree" (9 : Nat) "MeldTree$Node") ∈ mt_all := List.mem_append_left _ (List.mem_of_getElem? (i := 27) rfl)
theorem mw_28 : (Jvm.Cond.classLink "MeldTree" (15 : Nat) "java/util/ArrayList") ∈ mt_all := List.mem_append_left _ (List.mem_of_getElem? (i := 28) rfl)
theorem mw_29 : (Jvm.Cond.instantiable "java/util/ArrayList" (3 : Nat)) ∈ mt_all := List.mem_append_left _ (List.mem_of_getElem? (i := 29) rfl)
theorem mw_30 : (Jvm.Cond.methodLink "MeldTree" (17 : Nat) yXA_init) ∈ mt_all := List.mem_append_left _ (List.mem_of_getElem? (i := 30) rfl)
theorem mw_31 : (Jvm.Cond.instanceMethod yXA_init) ∈ mt_all := List.mem_append_left _ (List.mem_of_getElem? (i := 31) rfl)
theorem mw_32 : (Jvm.Cond.code yXA_init prog_18_method_2_code (1 : Nat) (Option.none : Option Jvm.ClassFile.FieldType)) ∈ mt_all := List.mem_append_left _ (List.mem_of_getElem? (i := 32) rfl)
theorem mw_33 : (Jvm.Cond.methodLink "java/util/ArrayList" (1 : Nat) yXB_init) ∈ mt_all := List.mem_append_left _ (List.mem_of_getElem? (i := 33) rfl)
theorem mw_34 : (Jvm.Cond.instanceMethod yXB_init) ∈ mt_all := List.mem_append_left _ (List.mem_of_getElem? (i := 34) rfl)
theorem mw_35 : (Jvm.Cond.code yXB_init prog_17_method_1_code (1 : Nat) (Option.none : Option Jvm.ClassFile.FieldType)) ∈ mt_all := List.mem_append_left _ (List.mem_of_getElem? (i := 35) rfl)
theorem mw_36 : (Jvm.Cond.methodLink "java/util/AbstractList" (1 : Nat) yXC_init) ∈ mt_all := List.mem_append_left _ (List.mem_of_getElem? (i := 36) rfl)
theorem mw_37 : (Jvm.Cond.instanceMethod yXC_init) ∈ mt_all := List.mem_append_left _ (List.mem_of_getElem? (i := 37) rfl)
theorem mw_38 : (Jvm.Cond.code yXC_init prog_16_method_1_code (1 : Nat) (Option.none : Option Jvm.ClassFile.FieldType)) ∈ mt_all := List.mem_append_left _ (List.mem_of_getElem? (i := 38) rfl)
theorem mw_39 : (Jvm.Cond.methodLink "java/util/AbstractCollection" (1 : Nat) objectInit) ∈ mt_all := List.mem_append_left _ (List.mem_of_getElem? (i := 39) rfl)
theorem mw_40 : (Jvm.Cond.fieldLink "java/util/ArrayList" (39 : Nat) "java/util/ArrayList" "DEFAULTCAPACITY_EMPTY_ELEMENTDATA" "[Ljava/lang/Object;") ∈ mt_all := List.mem_append_left _ (List.mem_of_getElem? (i := 40) rfl)
theorem mw_41 : (Jvm.Cond.fieldLink "java/util/ArrayList" (9 : Nat) "java/util/ArrayList" "elementData" "[Ljava/lang/Object;") ∈ mt_all := List.mem_append_left _ (List.mem_of_getElem? (i := 41) rfl)
theorem mw_42 : (Jvm.Cond.fieldLink "java/util/ArrayList" (48 : Nat) "java/util/ArrayList" "size" "I") ∈ mt_all := List.mem_append_left _ (List.mem_of_getElem? (i := 42) rfl)
theorem mw_43 : (Jvm.Cond.fieldLink "java/util/AbstractList" (7 : Nat) "java/util/AbstractList" "modCount" "I") ∈ mt_all := List.mem_append_left _ (List.mem_of_getElem? (i := 43) rfl)
theorem mw_44 : (Jvm.Cond.fieldLink "java/util/ArrayList" (63 : Nat) "java/util/ArrayList" "modCount" "I") ∈ mt_all := List.mem_append_left _ (List.mem_of_getElem? (i := 44) rfl)
theorem mw_45 : (Jvm.Cond.sameField "java/util/ArrayList" "java/util/AbstractList" "modCount" "I") ∈ mt_all := List.mem_append_left _ (List.mem_of_getElem? (i := 45) rfl)
theorem mw_46 : (Jvm.Cond.lays "java/util/ArrayList" "java/util/ArrayList" "elementData" "[Ljava/lang/Object;") ∈ mt_all := List.mem_append_left _ (List.mem_of_getElem? (i := 46) rfl)
theorem mw_47 : (Jvm.Cond.soleField "java/util/ArrayList" "elementData") ∈ mt_all := List.mem_append_left _ (List.mem_of_getElem? (i := 47) rfl)
theorem mw_48 : (Jvm.Cond.lays "java/util/ArrayList" "java/util/ArrayList" "size" "I") ∈ mt_all := List.mem_append_left _ (List.mem_of_getElem? (i := 48) rfl)
theorem mw_49 : (Jvm.Cond.soleField "java/util/ArrayList" "size") ∈ mt_all := List.mem_append_left _ (List.mem_of_getElem? (i := 49) rfl)
theorem mw_50 : (Jvm.Cond.lays "java/util/ArrayList" "java/util/AbstractList" "modCount" "I") ∈ mt_all := List.mem_append_left _ (List.mem_of_getElem? (i := 50) rfl)
theorem mw_51 : (Jvm.Cond.soleField "java/util/AbstractList" "modCount") ∈ mt_all := List.mem_append_left _ (List.mem_of_getElem? (i := 51) rfl)
theorem mw_52 : (Jvm.Cond.superclass "java/util/ArrayList" "java/util/AbstractList") ∈ mt_all := List.mem_append_left _ (List.mem_of_getElem? (i := 52) rfl)
theorem mw_53 : (Jvm.Cond.fieldLink "MeldTree" (11 : Nat) "MeldTree" "roots" "[LMeldTree$Node;") ∈ mt_all := List.mem_append_left _ (List.mem_of_getElem? (i := 53) rfl)
theorem mw_54 : (Jvm.Cond.fieldLink "MeldTree" (18 : Nat) "MeldTree" "nodes" "Ljava/util/ArrayList;") ∈ mt_all := List.mem_append_left _ (List.mem_of_getElem? (i := 54) rfl)
theorem mw_55 : (Jvm.Cond.fieldLink "MeldTree" (22 : Nat) "MeldTree" "count" "I") ∈ mt_all := List.mem_append_left _ (List.mem_of_getElem? (i := 55) rfl)
theorem mw_56 : (Jvm.Cond.laysFinal "MeldTree" "MeldTree" "roots" "[LMeldTree$Node;") ∈ mt_all := List.mem_append_left _ (List.mem_of_getElem? (i := 56) rfl)
theorem mw_57 : (Jvm.Cond.soleField "MeldTree" "roots") ∈ mt_all := List.mem_append_left _ (List.mem_of_getElem? (i := 57) rfl)
theorem mw_58 : (Jvm.Cond.laysFinal "MeldTree" "MeldTree" "nodes" "Ljava/util/ArrayList;") ∈ mt_all := List.mem_append_left _ (List.mem_of_getElem? (i := 58) rfl)
theorem mw_59 : (Jvm.Cond.soleField "MeldTree" "nodes") ∈ mt_all := List.mem_append_left _ (List.mem_of_getElem? (i := 59) rfl)
theorem mw_60 : (Jvm.Cond.lays "MeldTree" "MeldTree" "count" "I") ∈ mt_all := List.mem_append_right _ (List.mem_append_left _ (List.mem_of_getElem? (i := 0) rfl))
theorem mw_61 : (Jvm.Cond.soleField "MeldTree" "count") ∈ mt_all := List.mem_append_right _ (List.mem_append_left _ (List.mem_of_getElem? (i := 1) rfl))
theorem mw_62 : (Jvm.Cond.superclass "MeldTree" "java/lang/Object") ∈ mt_all := List.mem_append_right _ (List.mem_append_left _ (List.mem_of_getElem? (i := 2) rfl))
theorem mw_63 : (Jvm.Cond.methodLink "MeldTreeLaw" (86 : Nat) yXT_versions) ∈ mt_all := List.mem_append_right _ (List.mem_append_left _ (List.mem_of_getElem? (i := 3) rfl))
theorem mw_64 : (Jvm.Cond.instanceMethod yXT_versions) ∈ mt_all := List.mem_append_right _ (List.mem_append_left _ (List.mem_of_getElem? (i := 4) rfl))
theorem mw_65 : (Jvm.Cond.selects "MeldTree" yXT_versions yXT_versions) ∈ mt_all := List.mem_append_right _ (List.mem_append_left _ (List.mem_of_getElem? (i := 5) rfl))
theorem mw_66 : (Jvm.Cond.code yXT_versions prog_1_method_11_code (1 : Nat) (Option.some Jvm.ClassFile.FieldType.int)) ∈ mt_all := List.mem_append_right _ (List.mem_append_left _ (List.mem_of_getElem? (i := 6) rfl))
theorem mw_67 : (Jvm.Cond.methodLink "MeldTreeLaw" (90 : Nat) yXT_check) ∈ mt_all := List.mem_append_right _ (List.mem_append_left _ (List.mem_of_getElem? (i := 7) rfl))
theorem mw_68 : (Jvm.Cond.instanceMethod yXT_check) ∈ mt_all := List.mem_append_right _ (List.mem_append_left _ (List.mem_of_getElem? (i := 8) rfl))
theorem mw_69 : (Jvm.Cond.selects "MeldTree" yXT_check yXT_check) ∈ mt_all := List.mem_append_right _ (List.mem_append_left _ (List.mem_of_getElem? (i := 9) rfl))
theorem mw_70 : (Jvm.Cond.code yXT_check prog_1_method_12_code (3 : Nat) (Option.some Jvm.ClassFile.FieldType.int)) ∈ mt_all := List.mem_append_right _ (List.mem_append_left _ (List.mem_of_getElem? (i := 10) rfl))
theorem mw_71 : (Jvm.Cond.methodLink "MeldTree" (96 : Nat) yXT_isAt) ∈ mt_all := List.mem_append_right _ (List.mem_append_left _ (List.mem_of_getElem? (i := 11) rfl))
theorem mw_72 : (Jvm.Cond.static yXT_isAt) ∈ mt_all := List.mem_append_right _ (List.mem_append_left _ (List.mem_of_getElem? (i := 12) rfl))
theorem mw_73 : (Jvm.Cond.code yXT_isAt prog_1_method_25_code (3 : Nat) (Option.some Jvm.ClassFile.FieldType.boolean)) ∈ mt_all := List.mem_append_right _ (List.mem_append_left _ (List.mem_of_getElem? (i := 13) rfl))
theorem mw_74 : (Jvm.Cond.methodLink "MeldTree" (100 : Nat) yXA_size) ∈ mt_all := List.mem_append_right _ (List.mem_append_left _ (List.mem_of_getElem? (i := 14) rfl))
theorem mw_75 : (Jvm.Cond.instanceMethod yXA_size) ∈ mt_all := List.mem_append_right _ (List.mem_append_left _ (List.mem_of_getElem? (i := 15) rfl))
theorem mw_76 : (Jvm.Cond.selects "java/util/ArrayList" yXA_size yXA_size) ∈ mt_all := List.mem_append_right _ (List.mem_append_left _ (List.mem_of_getElem? (i := 16) rfl))
theorem mw_77 : (Jvm.Cond.code yXA_size prog_18_method_8_code (1 : Nat) (Option.some Jvm.ClassFile.FieldType.int)) ∈ mt_all := List.mem_append_right _ (List.mem_append_left _ (List.mem_of_getElem? (i := 17) rfl))
theorem mw_78 : (Jvm.Cond.methodLink "MeldTree" (104 : Nat) yXA_get) ∈ mt_all := List.mem_append_right _ (List.mem_append_left _ (List.mem_of_getElem? (i := 18) rfl))
theorem mw_79 : (Jvm.Cond.instanceMethod yXA_get) ∈ mt_all := List.mem_append_right _ (List.mem_append_left _ (List.mem_of_getElem? (i := 19) rfl))
theorem mw_80 : (Jvm.Cond.selects "java/util/ArrayList" yXA_get yXA_get) ∈ mt_all := List.mem_append_right _ (List.mem_append_left _ (List.mem_of_getElem? (i := 20) rfl))
theorem mw_81 : (Jvm.Cond.code yXA_get prog_18_method_20_code (2 : Nat) (Option.some (Jvm.ClassFile.FieldType.object "java/lang/Object"))) ∈ mt_all := List.mem_append_right _ (List.mem_append_left _ (List.mem_of_getElem? (i := 21) rfl))
theorem mw_82 : (Jvm.Cond.methodLink "java/util/ArrayList" (118 : Nat) yXO_checkIndex) ∈ mt_all := List.mem_append_right _ (List.mem_append_left _ (List.mem_of_getElem? (i := 22) rfl))
theorem mw_83 : (Jvm.Cond.static yXO_checkIndex) ∈ mt_all := List.mem_append_right _ (List.mem_append_left _ (List.mem_of_getElem? (i := 23) rfl))
theorem mw_84 : (Jvm.Cond.code yXO_checkIndex prog_23_method_17_code (2 : Nat) (Option.some Jvm.ClassFile.FieldType.int)) ∈ mt_all := List.mem_append_right _ (List.mem_append_left _ (List.mem_of_getElem? (i := 24) rfl))
theorem mw_85 : (Jvm.Cond.methodLink "java/util/Objects" (105 : Nat) yXP_checkIndex) ∈ mt_all := List.mem_append_right _ (List.mem_append_left _ (List.mem_of_getElem? (i := 25) rfl))
theorem mw_86 : (Jvm.Cond.static yXP_checkIndex) ∈ mt_all := List.mem_append_right _ (List.mem_append_left _ (List.mem_of_getElem? (i := 26) rfl))
theorem mw_87 : (Jvm.Cond.code yXP_checkIndex prog_27_method_11_code (3 : Nat) (Option.some Jvm.ClassFile.FieldType.int)) ∈ mt_all := List.mem_append_right _ (List.mem_append_left _ (List.mem_of_getElem? (i := 27) rfl))
theorem mw_88 : (Jvm.Cond.methodLink "java/util/ArrayList" (123 : Nat) yXA_elementData) ∈ mt_all := List.mem_append_right _ (List.mem_append_left _ (List.mem_of_getElem? (i := 28) rfl))
theorem mw_89 : (Jvm.Cond.instanceMethod yXA_elementData) ∈ mt_all := List.mem_append_right _ (List.mem_append_left _ (List.mem_of_getElem? (i := 29) rfl))
theorem mw_90 : (Jvm.Cond.selects "java/util/ArrayList" yXA_elementData yXA_elementData) ∈ mt_all := List.mem_append_right _ (List.mem_append_left _ (List.mem_of_getElem? (i := 30) rfl))
theorem mw_91 : (Jvm.Cond.code yXA_elementData prog_18_method_18_code (2 : Nat) (Option.some (Jvm.ClassFile.FieldType.object "java/lang/Object"))) ∈ mt_all := List.mem_append_right _ (List.mem_append_left _ (List.mem_of_getElem? (i := 31) rfl))
theorem mw_92 : (Jvm.Cond.methodLink "MeldTree" (108 : Nat) yXT_faultsOf) ∈ mt_all := List.mem_append_right _ (List.mem_append_left _ (List.mem_of_getElem? (i := 32) rfl))
theorem mw_93 : (Jvm.Cond.static yXT_faultsOf) ∈ mt_all := List.mem_append_right _ (List.mem_append_left _ (List.mem_of_getElem? (i := 33) rfl))
theorem mw_94 : (Jvm.Cond.code yXT_faultsOf prog_1_method_26_code (1 : Nat) (Option.some Jvm.ClassFile.FieldType.int)) ∈ mt_all := List.mem_append_right _ (List.mem_append_left _ (List.mem_of_getElem? (i := 34) rfl))
theorem mw_95 : (Jvm.Cond.methodLink "MeldTree" (153 : Nat) yXT_faultsOfLeaf) ∈ mt_all := List.mem_append_right _ (List.mem_append_left _ (List.mem_of_getElem? (i := 35) rfl))
theorem mw_96 : (Jvm.Cond.static yXT_faultsOfLeaf) ∈ mt_all := List.mem_append_right _ (List.mem_append_left _ (List.mem_of_getElem? (i := 36) rfl))
theorem mw_97 : (Jvm.Cond.code yXT_faultsOfLeaf prog_1_method_27_code (2 : Nat) (Option.some Jvm.ClassFile.FieldType.int)) ∈ mt_all := List.mem_append_right _ (List.mem_append_left _ (List.mem_of_getElem? (i := 37) rfl))
theorem mw_98 : (Jvm.Cond.methodLink "MeldTree" (156 : Nat) yXT_faultsOfFork) ∈ mt_all := List.mem_append_right _ (List.mem_append_left _ (List.mem_of_getElem? (i := 38) rfl))
theorem mw_99 : (Jvm.Cond.static yXT_faultsOfFork) ∈ mt_all := List.mem_append_right _ (List.mem_append_left _ (List.mem_of_getElem? (i := 39) rfl))
theorem mw_100 : (Jvm.Cond.code yXT_faultsOfFork prog_1_method_28_code (3 : Nat) (Option.some Jvm.ClassFile.FieldType.int)) ∈ mt_all := List.mem_append_right _ (List.mem_append_left _ (List.mem_of_getElem? (i := 40) rfl))
theorem mw_101 : (Jvm.Cond.methodLink "MeldTree" (70 : Nat) yXT_sizeOf) ∈ mt_all := List.mem_append_right _ (List.mem_append_left _ (List.mem_of_getElem? (i := 41) rfl))
theorem mw_102 : (Jvm.Cond.static yXT_sizeOf) ∈ mt_all := List.mem_append_right _ (List.mem_append_left _ (List.mem_of_getElem? (i := 42) rfl))
theorem mw_103 : (Jvm.Cond.code yXT_sizeOf prog_1_method_31_code (1 : Nat) (Option.some Jvm.ClassFile.FieldType.int)) ∈ mt_all := List.mem_append_right _ (List.mem_append_left _ (List.mem_of_getElem? (i := 43) rfl))
theorem mw_104 : (Jvm.Cond.methodLink "MeldTree" (134 : Nat) yXT_totalOf) ∈ mt_all := List.mem_append_right _ (List.mem_append_left _ (List.mem_of_getElem? (i := 44) rfl))
theorem mw_105 : (Jvm.Cond.static yXT_totalOf) ∈ mt_all := List.mem_append_right _ (List.mem_append_left _ (List.mem_of_getElem? (i := 45) rfl))
theorem mw_106 : (Jvm.Cond.code yXT_totalOf prog_1_method_32_code (1 : Nat) (Option.some Jvm.ClassFile.FieldType.long)) ∈ mt_all := List.mem_append_right _ (List.mem_append_left _ (List.mem_of_getElem? (i := 46) rfl))
theorem mw_107 : (Jvm.Cond.methodLink "MeldTreeLaw" (50 : Nat) yXL_put) ∈ mt_all := List.mem_append_right _ (List.mem_append_left _ (List.mem_of_getElem? (i := 47) rfl))
theorem mw_108 : (Jvm.Cond.static yXL_put) ∈ mt_all := List.mem_append_right _ (List.mem_append_left _ (List.mem_of_getElem? (i := 48) rfl))
theorem mw_109 : (Jvm.Cond.codeWith yXL_put method_3_code (6 : Nat) (Option.some Jvm.ClassFile.FieldType.int) [((0 : Nat), (12 : Nat), (15 : Nat), (13 : Nat)), ((0 : Nat), (12 : Nat), (19 : Nat), (15 : Nat))]) ∈ mt_all := List.mem_append_right _ (List.mem_append_left _ (List.mem_of_getElem? (i := 49) rfl))
theorem mw_110 : (Jvm.Cond.classLink "MeldTreeLaw" (13 : Nat) "java/lang/IndexOutOfBoundsException") ∈ mt_all := List.mem_append_right _ (List.mem_append_left _ (List.mem_of_getElem? (i := 50) rfl))
theorem mw_111 : (Jvm.Cond.classLink "MeldTreeLaw" (15 : Nat) "java/lang/IllegalStateException") ∈ mt_all := List.mem_append_right _ (List.mem_append_left _ (List.mem_of_getElem? (i := 51) rfl))
theorem mw_112 : (Jvm.Cond.methodLink "MeldTreeLaw" (7 : Nat) yXT_put) ∈ mt_all := List.mem_append_right _ (List.mem_append_left _ (List.mem_of_getElem? (i := 52) rfl))
theorem mw_113 : (Jvm.Cond.instanceMethod yXT_put) ∈ mt_all := List.mem_append_right _ (List.mem_append_left _ (List.mem_of_getElem? (i := 53) rfl))
theorem mw_114 : (Jvm.Cond.selects "MeldTree" yXT_put yXT_put) ∈ mt_all := List.mem_append_right _ (List.mem_append_left _ (List.mem_of_getElem? (i := 54) rfl))
theorem mw_115 : (Jvm.Cond.code yXT_put prog_1_method_2_code (5 : Nat) (Option.some Jvm.ClassFile.FieldType.int)) ∈ mt_all := List.mem_append_right _ (List.mem_append_left _ (List.mem_of_getElem? (i := 55) rfl))
theorem mw_116 : (Jvm.Cond.methodLink "MeldTree" (26 : Nat) yXT_needVersion) ∈ mt_all := List.mem_append_right _ (List.mem_append_left _ (List.mem_of_getElem? (i := 56) rfl))
theorem mw_117 : (Jvm.Cond.instanceMethod yXT_needVersion) ∈ mt_all := List.mem_append_right _ (List.mem_append_left _ (List.mem_of_getElem? (i := 57) rfl))
theorem mw_118 : (Jvm.Cond.code yXT_needVersion prog_1_method_13_code (2 : Nat) (Option.none : Option Jvm.ClassFile.FieldType)) ∈ mt_all := List.mem_append_right _ (List.mem_append_left _ (List.mem_of_getElem? (i := 58) rfl))
theorem mw_119 : (Jvm.Cond.classLink "MeldTree" (62 : Nat) "java/lang/IndexOutOfBoundsException") ∈ mt_all := List.mem_append_right _ (List.mem_append_left _ (List.mem_of_getElem? (i := 59) rfl))
theorem mw_120 : (Jvm.Cond.instantiable "java/lang/IndexOutOfBoundsException" (6 : Nat)) ∈ mt_all := List.mem_append_right _ (List.mem_append_right _ (List.mem_append_left _ (List.mem_of_getElem? (i := 0) rfl)))
theorem mw_121 : (Jvm.Cond.selects "java/lang/IndexOutOfBoundsException" (⟨"java/lang/Throwable", "fillInStackTrace", "(I)Ljava/lang/Throwable;"⟩ : MethodName) (⟨"java/lang/Throwable", "fillInStackTrace", "(I)Ljava/lang/Throwable;"⟩ : MethodName)) ∈ mt_all := List.mem_append_right _ (List.mem_append_right _ (List.mem_append_left _ (List.mem_of_getElem? (i := 1) rfl)))
theorem mw_122 : (Jvm.Cond.selects "java/lang/IndexOutOfBoundsException" (⟨"java/lang/Throwable", "fillInStackTrace", "()Ljava/lang/Throwable;"⟩ : MethodName) (⟨"java/lang/Throwable", "fillInStackTrace", "()Ljava/lang/Throwable;"⟩ : MethodName)) ∈ mt_all := List.mem_append_right _ (List.mem_append_right _ (List.mem_append_left _ (List.mem_of_getElem? (i := 2) rfl)))
theorem mw_123 : (Jvm.Cond.lays "java/lang/IndexOutOfBoundsException" "java/lang/Throwable" "cause" "Ljava/lang/Throwable;") ∈ mt_all := List.mem_append_right _ (List.mem_append_right _ (List.mem_append_left _ (List.mem_of_getElem? (i := 3) rfl)))
theorem mw_124 : (Jvm.Cond.lays "java/lang/Throwable" "java/lang/Throwable" "cause" "Ljava/lang/Throwable;") ∈ mt_all := List.mem_append_right _ (List.mem_append_right _ (List.mem_append_left _ (List.mem_of_getElem? (i := 4) rfl)))
theorem mw_125 : (Jvm.Cond.lays "java/lang/IndexOutOfBoundsException" "java/lang/Throwable" "stackTrace" "[Ljava/lang/StackTraceElement;") ∈ mt_all := List.mem_append_right _ (List.mem_append_right _ (List.mem_append_left _ (List.mem_of_getElem? (i := 5) rfl)))
theorem mw_126 : (Jvm.Cond.lays "java/lang/Throwable" "java/lang/Throwable" "stackTrace" "[Ljava/lang/StackTraceElement;") ∈ mt_all := List.mem_append_right _ (List.mem_append_right _ (List.mem_append_left _ (List.mem_of_getElem? (i := 6) rfl)))
theorem mw_127 : (Jvm.Cond.lays "java/lang/IndexOutOfBoundsException" "java/lang/Throwable" "suppressedExceptions" "Ljava/util/List;") ∈ mt_all := List.mem_append_right _ (List.mem_append_right _ (List.mem_append_left _ (List.mem_of_getElem? (i := 7) rfl)))
theorem mw_128 : (Jvm.Cond.lays "java/lang/Throwable" "java/lang/Throwable" "suppressedExceptions" "Ljava/util/List;") ∈ mt_all := List.mem_append_right _ (List.mem_append_right _ (List.mem_append_left _ (List.mem_of_getElem? (i := 8) rfl)))
theorem mw_129 : (Jvm.Cond.lays "java/lang/IndexOutOfBoundsException" "java/lang/Throwable" "detailMessage" "Ljava/lang/String;") ∈ mt_all := List.mem_append_right _ (List.mem_append_right _ (List.mem_append_left _ (List.mem_of_getElem? (i := 9) rfl)))
theorem mw_130 : (Jvm.Cond.lays "java/lang/Throwable" "java/lang/Throwable" "detailMessage" "Ljava/lang/String;") ∈ mt_all := List.mem_append_right _ (List.mem_append_right _ (List.mem_append_left _ (List.mem_of_getElem? (i := 10) rfl)))
theorem mw_131 : (Jvm.Cond.lays "java/lang/IndexOutOfBoundsException" "java/lang/Throwable" "backtrace" "Ljava/lang/Object;") ∈ mt_all := List.mem_append_right _ (List.mem_append_right _ (List.mem_append_left _ (List.mem_of_getElem? (i := 11) rfl)))
theorem mw_132 : (Jvm.Cond.lays "java/lang/Throwable" "java/lang/Throwable" "backtrace" "Ljava/lang/Object;") ∈ mt_all := List.mem_append_right _ (List.mem_append_right _ (List.mem_append_left _ (List.mem_of_getElem? (i := 12) rfl)))
theorem mw_133 : (Jvm.Cond.fieldLink "java/lang/Throwable" (198 : Nat) "java/lang/Throwable" "backtrace" "Ljava/lang/Object;") ∈ mt_all := List.mem_append_right _ (List.mem_append_right _ (List.mem_append_left _ (List.mem_of_getElem? (i := 13) rfl)))
theorem mw_134 : (Jvm.Cond.superclass "java/lang/Throwable" "java/lang/Object") ∈ mt_all := List.mem_append_right _ (List.mem_append_right _ (List.mem_append_left _ (List.mem_of_getElem? (i := 14) rfl)))
theorem mw_135 : (Jvm.Cond.instanceMethod (⟨"java/lang/Throwable", "<init>", "()V"⟩ : MethodName)) ∈ mt_all := List.mem_append_right _ (List.mem_append_right _ (List.mem_append_left _ (List.mem_of_getElem? (i := 15) rfl)))
theorem mw_136 : (Jvm.Cond.code (⟨"java/lang/Throwable", "<init>", "()V"⟩ : MethodName) prog_15_method_1_code (1 : Nat) (Option.none : Option Jvm.ClassFile.FieldType)) ∈ mt_all := List.mem_append_right _ (List.mem_append_right _ (List.mem_append_left _ (List.mem_of_getElem? (i := 16) rfl)))
theorem mw_137 : (Jvm.Cond.methodLink "java/lang/Throwable" (1 : Nat) objectInit) ∈ mt_all := List.mem_append_right _ (List.mem_append_right _ (List.mem_append_left _ (List.mem_of_getElem? (i := 17) rfl)))
theorem mw_138 : (Jvm.Cond.fieldLink "java/lang/Throwable" (13 : Nat) "java/lang/Throwable" "UNASSIGNED_STACK" "[Ljava/lang/StackTraceElement;") ∈ mt_all := List.mem_append_right _ (List.mem_append_right _ (List.mem_append_left _ (List.mem_of_getElem? (i := 18) rfl)))
theorem mw_139 : (Jvm.Cond.fieldLink "java/lang/Throwable" (20 : Nat) "java/lang/Throwable" "SUPPRESSED_SENTINEL" "Ljava/util/List;") ∈ mt_all := List.mem_append_right _ (List.mem_append_right _ (List.mem_append_left _ (List.mem_of_getElem? (i := 19) rfl)))
theorem mw_140 : (Jvm.Cond.methodLink "java/lang/Throwable" (27 : Nat) (⟨"java/lang/Throwable", "fillInStackTrace", "()Ljava/lang/Throwable;"⟩ : MethodName)) ∈ mt_all := List.mem_append_right _ (List.mem_append_right _ (List.mem_append_left _ (List.mem_of_getElem? (i := 20) rfl)))
theorem mw_141 : (Jvm.Cond.instanceMethod (⟨"java/lang/Throwable", "fillInStackTrace", "()Ljava/lang/Throwable;"⟩ : MethodName)) ∈ mt_all := List.mem_append_right _ (List.mem_append_right _ (List.mem_append_left _ (List.mem_of_getElem? (i := 21) rfl)))
theorem mw_142 : (Jvm.Cond.sameMethod "java/lang/Throwable" "java/lang/Throwable" "fillInStackTrace" "()Ljava/lang/Throwable;") ∈ mt_all := List.mem_append_right _ (List.mem_append_right _ (List.mem_append_left _ (List.mem_of_getElem? (i := 22) rfl)))
theorem mw_143 : (Jvm.Cond.selects "java/lang/IllegalStateException" (⟨"java/lang/Throwable", "fillInStackTrace", "()Ljava/lang/Throwable;"⟩ : MethodName) (⟨"java/lang/Throwable", "fillInStackTrace", "()Ljava/lang/Throwable;"⟩ : MethodName)) ∈ mt_all := List.mem_append_right _ (List.mem_append_right _ (List.mem_append_left _ (List.mem_of_getElem? (i := 23) rfl)))
theorem mw_144 : (Jvm.Cond.selects "java/util/NoSuchElementException" (⟨"java/lang/Throwable", "fillInStackTrace", "()Ljava/lang/Throwable;"⟩ : MethodName) (⟨"java/lang/Throwable", "fillInStackTrace", "()Ljava/lang/Throwable;"⟩ : MethodName)) ∈ mt_all := List.mem_append_right _ (List.mem_append_right _ (List.mem_append_left _ (List.mem_of_getElem? (i := 24) rfl)))
theorem mw_145 : (Jvm.Cond.codeSync (⟨"java/lang/Throwable", "fillInStackTrace", "()Ljava/lang/Throwable;"⟩ : MethodName) prog_15_method_18_code (1 : Nat) (Option.some (Jvm.ClassFile.FieldType.object "java/lang/Throwable"))) ∈ mt_all := List.mem_append_right _ (List.mem_append_right _ (List.mem_append_left _ (List.mem_of_getElem? (i := 25) rfl)))
theorem mw_146 : (Jvm.Cond.methodLink "java/lang/Throwable" (202 : Nat) (⟨"java/lang/Throwable", "fillInStackTrace", "(I)Ljava/lang/Throwable;"⟩ : MethodName)) ∈ mt_all := List.mem_append_right _ (List.mem_append_right _ (List.mem_append_left _ (List.mem_of_getElem? (i := 26) rfl)))
theorem mw_147 : (Jvm.Cond.instanceMethod (⟨"java/lang/Throwable", "fillInStackTrace", "(I)Ljava/lang/Throwable;"⟩ : MethodName)) ∈ mt_all := List.mem_append_right _ (List.mem_append_right _ (List.mem_append_left _ (List.mem_of_getElem? (i := 27) rfl)))
theorem mw_148 : (Jvm.Cond.instantiable "java/lang/Throwable" (6 : Nat)) ∈ mt_all := List.mem_append_right _ (List.mem_append_right _ (List.mem_append_left _ (List.mem_of_getElem? (i := 28) rfl)))
theorem mw_149 : (Jvm.Cond.native (⟨"java/lang/Throwable", "fillInStackTrace", "(I)Ljava/lang/Throwable;"⟩ : MethodName)) ∈ mt_all := List.mem_append_right _ (List.mem_append_right _ (List.mem_append_left _ (List.mem_of_getElem? (i := 29) rfl)))
theorem mw_150 : (Jvm.Cond.methodLink "MeldTree" (66 : Nat) (⟨"java/lang/IndexOutOfBoundsException", "<init>", "(Ljava/lang/String;)V"⟩ : MethodName)) ∈ mt_all := List.mem_append_right _ (List.mem_append_right _ (List.mem_append_left _ (List.mem_of_getElem? (i := 30) rfl)))
theorem mw_151 : (Jvm.Cond.instanceMethod (⟨"java/lang/IndexOutOfBoundsException", "<init>", "(Ljava/lang/String;)V"⟩ : MethodName)) ∈ mt_all := List.mem_append_right _ (List.mem_append_right _ (List.mem_append_left _ (List.mem_of_getElem? (i := 31) rfl)))
theorem mw_152 : (Jvm.Cond.code (⟨"java/lang/IndexOutOfBoundsException", "<init>", "(Ljava/lang/String;)V"⟩ : MethodName) prog_9_method_2_code (2 : Nat) (Option.none : Option Jvm.ClassFile.FieldType)) ∈ mt_all := List.mem_append_right _ (List.mem_append_right _ (List.mem_append_left _ (List.mem_of_getElem? (i := 32) rfl)))
theorem mw_153 : (Jvm.Cond.methodLink "java/lang/IndexOutOfBoundsException" (7 : Nat) (⟨"java/lang/RuntimeException", "<init>", "(Ljava/lang/String;)V"⟩ : MethodName)) ∈ mt_all := List.mem_append_right _ (List.mem_append_right _ (List.mem_append_left _ (List.mem_of_getElem? (i := 33) rfl)))
theorem mw_154 : (Jvm.Cond.instanceMethod (⟨"java/lang/RuntimeException", "<init>", "(Ljava/lang/String;)V"⟩ : MethodName)) ∈ mt_all := List.mem_append_right _ (List.mem_append_right _ (List.mem_append_left _ (List.mem_of_getElem? (i := 34) rfl)))
theorem mw_155 : (Jvm.Cond.code (⟨"java/lang/RuntimeException", "<init>", "(Ljava/lang/String;)V"⟩ : MethodName) prog_12_method_2_code (2 : Nat) (Option.none : Option Jvm.ClassFile.FieldType)) ∈ mt_all := List.mem_append_right _ (List.mem_append_right _ (List.mem_append_left _ (List.mem_of_getElem? (i := 35) rfl)))
theorem mw_156 : (Jvm.Cond.methodLink "java/lang/RuntimeException" (7 : Nat) (⟨"java/lang/Exception", "<init>", "(Ljava/lang/String;)V"⟩ : MethodName)) ∈ mt_all := List.mem_append_right _ (List.mem_append_right _ (List.mem_append_left _ (List.mem_of_getElem? (i := 36) rfl)))
theorem mw_157 : (Jvm.Cond.instanceMethod (⟨"java/lang/Exception", "<init>", "(Ljava/lang/String;)V"⟩ : MethodName)) ∈ mt_all := List.mem_append_right _ (List.mem_append_right _ (List.mem_append_left _ (List.mem_of_getElem? (i := 37) rfl)))
theorem mw_158 : (Jvm.Cond.code (⟨"java/lang/Exception", "<init>", "(Ljava/lang/String;)V"⟩ : MethodName) prog_7_method_2_code (2 : Nat) (Option.none : Option Jvm.ClassFile.FieldType)) ∈ mt_all := List.mem_append_right _ (List.mem_append_right _ (List.mem_append_left _ (List.mem_of_getElem? (i := 38) rfl)))
theorem mw_159 : (Jvm.Cond.methodLink "java/lang/Exception" (7 : Nat) (⟨"java/lang/Throwable", "<init>", "(Ljava/lang/String;)V"⟩ : MethodName)) ∈ mt_all := List.mem_append_right _ (List.mem_append_right _ (List.mem_append_left _ (List.mem_of_getElem? (i := 39) rfl)))
theorem mw_160 : (Jvm.Cond.instanceMethod (⟨"java/lang/Throwable", "<init>", "(Ljava/lang/String;)V"⟩ : MethodName)) ∈ mt_all := List.mem_append_right _ (List.mem_append_right _ (List.mem_append_left _ (List.mem_of_getElem? (i := 40) rfl)))
theorem mw_161 : (Jvm.Cond.code (⟨"java/lang/Throwable", "<init>", "(Ljava/lang/String;)V"⟩ : MethodName) prog_15_method_2_code (2 : Nat) (Option.none : Option Jvm.ClassFile.FieldType)) ∈ mt_all := List.mem_append_right _ (List.mem_append_right _ (List.mem_append_left _ (List.mem_of_getElem? (i := 41) rfl)))
theorem mw_162 : (Jvm.Cond.fieldLink "java/lang/Throwable" (31 : Nat) "java/lang/Throwable" "detailMessage" "Ljava/lang/String;") ∈ mt_all := List.mem_append_right _ (List.mem_append_right _ (List.mem_append_left _ (List.mem_of_getElem? (i := 42) rfl)))
theorem mw_163 : (Jvm.Cond.fieldLink "java/lang/Throwable" (7 : Nat) "java/lang/Throwable" "cause" "Ljava/lang/Throwable;") ∈ mt_all := List.mem_append_right _ (List.mem_append_right _ (List.mem_append_left _ (List.mem_of_getElem? (i := 43) rfl)))
theorem mw_164 : (Jvm.Cond.fieldLink "java/lang/Throwable" (17 : Nat) "java/lang/Throwable" "stackTrace" "[Ljava/lang/StackTraceElement;") ∈ mt_all := List.mem_append_right _ (List.mem_append_right _ (List.mem_append_left _ (List.mem_of_getElem? (i := 44) rfl)))
theorem mw_165 : (Jvm.Cond.fieldLink "java/lang/Throwable" (24 : Nat) "java/lang/Throwable" "suppressedExceptions" "Ljava/util/List;") ∈ mt_all := List.mem_append_right _ (List.mem_append_right _ (List.mem_append_left _ (List.mem_of_getElem? (i := 45) rfl)))
theorem mw_166 : (Jvm.Cond.soleField "java/lang/Throwable" "backtrace") ∈ mt_all := List.mem_append_right _ (List.mem_append_right _ (List.mem_append_left _ (List.mem_of_getElem? (i := 46) rfl)))
theorem mw_167 : (Jvm.Cond.soleField "java/lang/Throwable" "detailMessage") ∈ mt_all := List.mem_append_right _ (List.mem_append_right _ (List.mem_append_left _ (List.mem_of_getElem? (i := 47) rfl)))
theorem mw_168 : (Jvm.Cond.soleField "java/lang/Throwable" "cause") ∈ mt_all := List.mem_append_right _ (List.mem_append_right _ (List.mem_append_left _ (List.mem_of_getElem? (i := 48) rfl)))
theorem mw_169 : (Jvm.Cond.soleField "java/lang/Throwable" "stackTrace") ∈ mt_all := List.mem_append_right _ (List.mem_append_right _ (List.mem_append_left _ (List.mem_of_getElem? (i := 49) rfl)))
theorem mw_170 : (Jvm.Cond.lays "java/lang/IndexOutOfBoundsException" "java/lang/Throwable" "depth" "I") ∈ mt_all := List.mem_append_right _ (List.mem_append_right _ (List.mem_append_left _ (List.mem_of_getElem? (i := 50) rfl)))
theorem mw_171 : (Jvm.Cond.soleField "java/lang/Throwable" "depth") ∈ mt_all := List.mem_append_right _ (List.mem_append_right _ (List.mem_append_left _ (List.mem_of_getElem? (i := 51) rfl)))
theorem mw_172 : (Jvm.Cond.soleField "java/lang/Throwable" "suppressedExceptions") ∈ mt_all := List.mem_append_right _ (List.mem_append_right _ (List.mem_append_left _ (List.mem_of_getElem? (i := 52) rfl)))
theorem mw_173 : (Jvm.Cond.superclass "java/lang/IndexOutOfBoundsException" "java/lang/RuntimeException") ∈ mt_all := List.mem_append_right _ (List.mem_append_right _ (List.mem_append_left _ (List.mem_of_getElem? (i := 53) rfl)))
theorem mw_174 : (Jvm.Cond.arrayClass Jvm.ClassFile.FieldType.byte) ∈ mt_all := List.mem_append_right _ (List.mem_append_right _ (List.mem_append_left _ (List.mem_of_getElem? (i := 54) rfl)))
theorem mw_175 : (Jvm.Cond.methodLink "MeldTree" (30 : Nat) yXT_needKey) ∈ mt_all := List.mem_append_right _ (List.mem_append_right _ (List.mem_append_left _ (List.mem_of_getElem? (i := 55) rfl)))
theorem mw_176 : (Jvm.Cond.static yXT_needKey) ∈ mt_all := List.mem_append_right _ (List.mem_append_right _ (List.mem_append_left _ (List.mem_of_getElem? (i := 56) rfl)))
theorem mw_177 : (Jvm.Cond.code yXT_needKey prog_1_method_14_code (1 : Nat) (Option.none : Option Jvm.ClassFile.FieldType)) ∈ mt_all := List.mem_append_right _ (List.mem_append_right _ (List.mem_append_left _ (List.mem_of_getElem? (i := 57) rfl)))
theorem mw_178 : (Jvm.Cond.methodLink "MeldTree" (33 : Nat) yXT_needRoom) ∈ mt_all := List.mem_append_right _ (List.mem_append_right _ (List.mem_append_left _ (List.mem_of_getElem? (i := 58) rfl)))
theorem mw_179 : (Jvm.Cond.instanceMethod yXT_needRoom) ∈ mt_all := List.mem_append_right _ (List.mem_append_right _ (List.mem_append_left _ (List.mem_of_getElem? (i := 59) rfl)))
theorem mw_180 : (Jvm.Cond.code yXT_needRoom prog_1_method_15_code (1 : Nat) (Option.none : Option Jvm.ClassFile.FieldType)) ∈ mt_all := List.mem_append_right _ (List.mem_append_right _ (List.mem_append_right _ (List.mem_append_left _ (List.mem_of_getElem? (i := 0) rfl))))
theorem mw_181 : (Jvm.Cond.classLink "MeldTree" (115 : Nat) "java/lang/IllegalStateException") ∈ mt_all := List.mem_append_right _ (List.mem_append_right _ (List.mem_append_right _ (List.mem_append_left _ (List.mem_of_getElem? (i := 1) rfl))))
theorem mw_182 : (Jvm.Cond.instantiable "java/lang/IllegalStateException" (6 : Nat)) ∈ mt_all := List.mem_append_right _ (List.mem_append_right _ (List.mem_append_right _ (List.mem_append_left _ (List.mem_of_getElem? (i := 2) rfl))))
theorem mw_183 : (Jvm.Cond.selects "java/lang/IllegalStateException" (⟨"java/lang/Throwable", "fillInStackTrace", "(I)Ljava/lang/Throwable;"⟩ : MethodName) (⟨"java/lang/Throwable", "fillInStackTrace", "(I)Ljava/lang/Throwable;"⟩ : MethodName)) ∈ mt_all := List.mem_append_right _ (List.mem_append_right _ (List.mem_append_right _ (List.mem_append_left _ (List.mem_of_getElem? (i := 3) rfl))))
theorem mw_184 : (Jvm.Cond.lays "java/lang/IllegalStateException" "java/lang/Throwable" "cause" "Ljava/lang/Throwable;") ∈ mt_all := List.mem_append_right _ (List.mem_append_right _ (List.mem_append_right _ (List.mem_append_left _ (List.mem_of_getElem? (i := 4) rfl))))
theorem mw_185 : (Jvm.Cond.lays "java/lang/IllegalStateException" "java/lang/Throwable" "stackTrace" "[Ljava/lang/StackTraceElement;") ∈ mt_all := List.mem_append_right _ (List.mem_append_right _ (List.mem_append_right _ (List.mem_append_left _ (List.mem_of_getElem? (i := 5) rfl))))
theorem mw_186 : (Jvm.Cond.lays "java/lang/IllegalStateException" "java/lang/Throwable" "suppressedExceptions" "Ljava/util/List;") ∈ mt_all := List.mem_append_right _ (List.mem_append_right _ (List.mem_append_right _ (List.mem_append_left _ (List.mem_of_getElem? (i := 6) rfl))))
theorem mw_187 : (Jvm.Cond.lays "java/lang/IllegalStateException" "java/lang/Throwable" "detailMessage" "Ljava/lang/String;") ∈ mt_all := List.mem_append_right _ (List.mem_append_right _ (List.mem_append_right _ (List.mem_append_left _ (List.mem_of_getElem? (i := 7) rfl))))
theorem mw_188 : (Jvm.Cond.lays "java/lang/IllegalStateException" "java/lang/Throwable" "backtrace" "Ljava/lang/Object;") ∈ mt_all := List.mem_append_right _ (List.mem_append_right _ (List.mem_append_right _ (List.mem_append_left _ (List.mem_of_getElem? (i := 8) rfl))))
theorem mw_189 : (Jvm.Cond.methodLink "MeldTree" (119 : Nat) (⟨"java/lang/IllegalStateException", "<init>", "(Ljava/lang/String;)V"⟩ : MethodName)) ∈ mt_all := List.mem_append_right _ (List.mem_append_right _ (List.mem_append_right _ (List.mem_append_left _ (List.mem_of_getElem? (i := 9) rfl))))
theorem mw_190 : (Jvm.Cond.instanceMethod (⟨"java/lang/IllegalStateException", "<init>", "(Ljava/lang/String;)V"⟩ : MethodName)) ∈ mt_all := List.mem_append_right _ (List.mem_append_right _ (List.mem_append_right _ (List.mem_append_left _ (List.mem_of_getElem? (i := 10) rfl))))
theorem mw_191 : (Jvm.Cond.code (⟨"java/lang/IllegalStateException", "<init>", "(Ljava/lang/String;)V"⟩ : MethodName) prog_8_method_2_code (2 : Nat) (Option.none : Option Jvm.ClassFile.FieldType)) ∈ mt_all := List.mem_append_right _ (List.mem_append_right _ (List.mem_append_right _ (List.mem_append_left _ (List.mem_of_getElem? (i := 11) rfl))))
theorem mw_192 : (Jvm.Cond.methodLink "java/lang/IllegalStateException" (7 : Nat) (⟨"java/lang/RuntimeException", "<init>", "(Ljava/lang/String;)V"⟩ : MethodName)) ∈ mt_all := List.mem_append_right _ (List.mem_append_right _ (List.mem_append_right _ (List.mem_append_left _ (List.mem_of_getElem? (i := 12) rfl))))
theorem mw_193 : (Jvm.Cond.lays "java/lang/IllegalStateException" "java/lang/Throwable" "depth" "I") ∈ mt_all := List.mem_append_right _ (List.mem_append_right _ (List.mem_append_right _ (List.mem_append_left _ (List.mem_of_getElem? (i := 13) rfl))))
theorem mw_194 : (Jvm.Cond.superclass "java/lang/IllegalStateException" "java/lang/RuntimeException") ∈ mt_all := List.mem_append_right _ (List.mem_append_right _ (List.mem_append_right _ (List.mem_append_left _ (List.mem_of_getElem? (i := 14) rfl))))
theorem mw_195 : (Jvm.Cond.instantiable "MeldTree$Node" (7 : Nat)) ∈ mt_all := List.mem_append_right _ (List.mem_append_right _ (List.mem_append_right _ (List.mem_append_left _ (List.mem_of_getElem? (i := 15) rfl))))
theorem mw_196 : (Jvm.Cond.instanceMethod yXN_init) ∈ mt_all := List.mem_append_right _ (List.mem_append_right _ (List.mem_append_right _ (List.mem_append_left _ (List.mem_of_getElem? (i := 16) rfl))))
theorem mw_197 : (Jvm.Cond.code yXN_init prog_2_method_1_code (3 : Nat) (Option.none : Option Jvm.ClassFile.FieldType)) ∈ mt_all := List.mem_append_right _ (List.mem_append_right _ (List.mem_append_right _ (List.mem_append_left _ (List.mem_of_getElem? (i := 17) rfl))))
theorem mw_198 : (Jvm.Cond.methodLink "MeldTree$Node" (1 : Nat) objectInit) ∈ mt_all := List.mem_append_right _ (List.mem_append_right _ (List.mem_append_right _ (List.mem_append_left _ (List.mem_of_getElem? (i := 18) rfl))))
theorem mw_199 : (Jvm.Cond.fieldLink "MeldTree$Node" (7 : Nat) "MeldTree$Node" "height" "I") ∈ mt_all := List.mem_append_right _ (List.mem_append_right _ (List.mem_append_right _ (List.mem_append_left _ (List.mem_of_getElem? (i := 19) rfl))))
theorem mw_200 : (Jvm.Cond.fieldLink "MeldTree$Node" (13 : Nat) "MeldTree$Node" "first" "I") ∈ mt_all := List.mem_append_right _ (List.mem_append_right _ (List.mem_append_right _ (List.mem_append_left _ (List.mem_of_getElem? (i := 20) rfl))))
theorem mw_201 : (Jvm.Cond.fieldLink "MeldTree$Node" (16 : Nat) "MeldTree$Node" "low" "LMeldTree$Node;") ∈ mt_all := List.mem_append_right _ (List.mem_append_right _ (List.mem_append_right _ (List.mem_append_left _ (List.mem_of_getElem? (i := 21) rfl))))
theorem mw_202 : (Jvm.Cond.fieldLink "MeldTree$Node" (20 : Nat) "MeldTree$Node" "high" "LMeldTree$Node;") ∈ mt_all := List.mem_append_right _ (List.mem_append_right _ (List.mem_append_right _ (List.mem_append_left _ (List.mem_of_getElem? (i := 22) rfl))))
theorem mw_203 : (Jvm.Cond.fieldLink "MeldTree$Node" (23 : Nat) "MeldTree$Node" "value" "I") ∈ mt_all := List.mem_append_right _ (List.mem_append_right _ (List.mem_append_right _ (List.mem_append_left _ (List.mem_of_getElem? (i := 23) rfl))))
theorem mw_204 : (Jvm.Cond.fieldLink "MeldTree$Node" (26 : Nat) "MeldTree$Node" "size" "I") ∈ mt_all := List.mem_append_right _ (List.mem_append_right _ (List.mem_append_right _ (List.mem_append_left _ (List.mem_of_getElem? (i := 24) rfl))))
theorem mw_205 : (Jvm.Cond.fieldLink "MeldTree$Node" (29 : Nat) "MeldTree$Node" "total" "J") ∈ mt_all := List.mem_append_right _ (List.mem_append_right _ (List.mem_append_right _ (List.mem_append_left _ (List.mem_of_getElem? (i := 25) rfl))))
theorem mw_206 : (Jvm.Cond.laysFinal "MeldTree$Node" "MeldTree$Node" "height" "I") ∈ mt_all := List.mem_append_right _ (List.mem_append_right _ (List.mem_append_right _ (List.mem_append_left _ (List.mem_of_getElem? (i := 26) rfl))))
theorem mw_207 : (Jvm.Cond.soleField "MeldTree$Node" "height") ∈ mt_all := List.mem_append_right _ (List.mem_append_right _ (List.mem_append_right _ (List.mem_append_left _ (List.mem_of_getElem? (i := 27) rfl))))
theorem mw_208 : (Jvm.Cond.laysFinal "MeldTree$Node" "MeldTree$Node" "first" "I") ∈ mt_all := List.mem_append_right _ (List.mem_append_right _ (List.mem_append_right _ (List.mem_append_left _ (List.mem_of_getElem? (i := 28) rfl))))
theorem mw_209 : (Jvm.Cond.soleField "MeldTree$Node" "first") ∈ mt_all := List.mem_append_right _ (List.mem_append_right _ (List.mem_append_right _ (List.mem_append_left _ (List.mem_of_getElem? (i := 29) rfl))))
theorem mw_210 : (Jvm.Cond.laysFinal "MeldTree$Node" "MeldTree$Node" "low" "LMeldTree$Node;") ∈ mt_all := List.mem_append_right _ (List.mem_append_right _ (List.mem_append_right _ (List.mem_append_left _ (List.mem_of_getElem? (i := 30) rfl))))
theorem mw_211 : (Jvm.Cond.soleField "MeldTree$Node" "low") ∈ mt_all := List.mem_append_right _ (List.mem_append_right _ (List.mem_append_right _ (List.mem_append_left _ (List.mem_of_getElem? (i := 31) rfl))))
theorem mw_212 : (Jvm.Cond.laysFinal "MeldTree$Node" "MeldTree$Node" "high" "LMeldTree$Node;") ∈ mt_all := List.mem_append_right _ (List.mem_append_right _ (List.mem_append_right _ (List.mem_append_left _ (List.mem_of_getElem? (i := 32) rfl))))
theorem mw_213 : (Jvm.Cond.soleField "MeldTree$Node" "high") ∈ mt_all := List.mem_append_right _ (List.mem_append_right _ (List.mem_append_right _ (List.mem_append_left _ (List.mem_of_getElem? (i := 33) rfl))))
theorem mw_214 : (Jvm.Cond.laysFinal "MeldTree$Node" "MeldTree$Node" "value" "I") ∈ mt_all := List.mem_append_right _ (List.mem_append_right _ (List.mem_append_right _ (List.mem_append_left _ (List.mem_of_getElem? (i := 34) rfl))))
theorem mw_215 : (Jvm.Cond.soleField "MeldTree$Node" "value") ∈ mt_all := List.mem_append_right _ (List.mem_append_right _ (List.mem_append_right _ (List.mem_append_left _ (List.mem_of_getElem? (i := 35) rfl))))
theorem mw_216 : (Jvm.Cond.laysFinal "MeldTree$Node" "MeldTree$Node" "size" "I") ∈ mt_all := List.mem_append_right _ (List.mem_append_right _ (List.mem_append_right _ (List.mem_append_left _ (List.mem_of_getElem? (i := 36) rfl))))
theorem mw_217 : (Jvm.Cond.soleField "MeldTree$Node" "size") ∈ mt_all := List.mem_append_right _ (List.mem_append_right _ (List.mem_append_right _ (List.mem_append_left _ (List.mem_of_getElem? (i := 37) rfl))))
theorem mw_218 : (Jvm.Cond.laysFinal "MeldTree$Node" "MeldTree$Node" "total" "J") ∈ mt_all := List.mem_append_right _ (List.mem_append_right _ (List.mem_append_right _ (List.mem_append_left _ (List.mem_of_getElem? (i := 38) rfl))))
theorem mw_219 : (Jvm.Cond.soleField "MeldTree$Node" "total") ∈ mt_all := List.mem_append_right _ (List.mem_append_right _ (List.mem_append_right _ (List.mem_append_left _ (List.mem_of_getElem? (i := 39) rfl))))
theorem mw_220 : (Jvm.Cond.superclass "MeldTree$Node" "java/lang/Object") ∈ mt_all := List.mem_append_right _ (List.mem_append_right _ (List.mem_append_right _ (List.mem_append_left _ (List.mem_of_getElem? (i := 40) rfl))))
theorem mw_221 : (Jvm.Cond.methodLink "MeldTree" (39 : Nat) yXA_add) ∈ mt_all := List.mem_append_right _ (List.mem_append_right _ (List.mem_append_right _ (List.mem_append_left _ (List.mem_of_getElem? (i := 41) rfl))))
theorem mw_222 : (Jvm.Cond.instanceMethod yXA_add) ∈ mt_all := List.mem_append_right _ (List.mem_append_right _ (List.mem_append_right _ (List.mem_append_left _ (List.mem_of_getElem? (i := 42) rfl))))
theorem mw_223 : (Jvm.Cond.selects "java/util/ArrayList" yXA_add yXA_add) ∈ mt_all := List.mem_append_right _ (List.mem_append_right _ (List.mem_append_right _ (List.mem_append_left _ (List.mem_of_getElem? (i := 43) rfl))))
theorem mw_224 : (Jvm.Cond.code yXA_add prog_18_method_25_code (2 : Nat) (Option.some Jvm.ClassFile.FieldType.boolean)) ∈ mt_all := List.mem_append_right _ (List.mem_append_right _ (List.mem_append_right _ (List.mem_append_left _ (List.mem_of_getElem? (i := 44) rfl))))
theorem mw_225 : (Jvm.Cond.methodLink "java/util/ArrayList" (131 : Nat) yXA_add_2) ∈ mt_all := List.mem_append_right _ (List.mem_append_right _ (List.mem_append_right _ (List.mem_append_left _ (List.mem_of_getElem? (i := 45) rfl))))
theorem mw_226 : (Jvm.Cond.instanceMethod yXA_add_2) ∈ mt_all := List.mem_append_right _ (List.mem_append_right _ (List.mem_append_right _ (List.mem_append_left _ (List.mem_of_getElem? (i := 46) rfl))))
theorem mw_227 : (Jvm.Cond.code yXA_add_2 prog_18_method_24_code (4 : Nat) (Option.none : Option Jvm.ClassFile.FieldType)) ∈ mt_all := List.mem_append_right _ (List.mem_append_right _ (List.mem_append_right _ (List.mem_append_left _ (List.mem_of_getElem? (i := 47) rfl))))
theorem mw_228 : (Jvm.Cond.methodLink "java/util/ArrayList" (129 : Nat) yXA_grow) ∈ mt_all := List.mem_append_right _ (List.mem_append_right _ (List.mem_append_right _ (List.mem_append_left _ (List.mem_of_getElem? (i := 48) rfl))))
theorem mw_229 : (Jvm.Cond.instanceMethod yXA_grow) ∈ mt_all := List.mem_append_right _ (List.mem_append_right _ (List.mem_append_right _ (List.mem_append_left _ (List.mem_of_getElem? (i := 49) rfl))))
theorem mw_230 : (Jvm.Cond.code yXA_grow prog_18_method_7_code (1 : Nat) (Option.some (Jvm.ClassFile.FieldType.array (Jvm.ClassFile.FieldType.object "java/lang/Object")))) ∈ mt_all := List.mem_append_right _ (List.mem_append_right _ (List.mem_append_right _ (List.mem_append_left _ (List.mem_of_getElem? (i := 50) rfl))))
theorem mw_231 : (Jvm.Cond.methodLink "java/util/ArrayList" (69 : Nat) yXA_grow_2) ∈ mt_all := List.mem_append_right _ (List.mem_append_right _ (List.mem_append_right _ (List.mem_append_left _ (List.mem_of_getElem? (i := 51) rfl))))
theorem mw_232 : (Jvm.Cond.instanceMethod yXA_grow_2) ∈ mt_all := List.mem_append_right _ (List.mem_append_right _ (List.mem_append_right _ (List.mem_append_left _ (List.mem_of_getElem? (i := 52) rfl))))
theorem mw_233 : (Jvm.Cond.code yXA_grow_2 prog_18_method_6_code (4 : Nat) (Option.some (Jvm.ClassFile.FieldType.array (Jvm.ClassFile.FieldType.object "java/lang/Object")))) ∈ mt_all := List.mem_append_right _ (List.mem_append_right _ (List.mem_append_right _ (List.mem_append_left _ (List.mem_of_getElem? (i := 53) rfl))))
theorem mw_234 : (Jvm.Cond.methodLink "java/util/ArrayList" (73 : Nat) yXS_newLength) ∈ mt_all := List.mem_append_right _ (List.mem_append_right _ (List.mem_append_right _ (List.mem_append_left _ (List.mem_of_getElem? (i := 54) rfl))))
theorem mw_235 : (Jvm.Cond.static yXS_newLength) ∈ mt_all := List.mem_append_right _ (List.mem_append_right _ (List.mem_append_right _ (List.mem_append_left _ (List.mem_of_getElem? (i := 55) rfl))))
theorem mw_236 : (Jvm.Cond.code yXS_newLength prog_26_method_27_code (4 : Nat) (Option.some Jvm.ClassFile.FieldType.int)) ∈ mt_all := List.mem_append_right _ (List.mem_append_right _ (List.mem_append_right _ (List.mem_append_left _ (List.mem_of_getElem? (i := 56) rfl))))
theorem mw_237 : (Jvm.Cond.methodLink "jdk/internal/util/ArraysSupport" (194 : Nat) (⟨"java/lang/Math", "max", "(II)I"⟩ : MethodName)) ∈ mt_all := List.mem_append_right _ (List.mem_append_right _ (List.mem_append_right _ (List.mem_append_left _ (List.mem_of_getElem? (i := 57) rfl))))
theorem mw_238 : (Jvm.Cond.static (⟨"java/lang/Math", "max", "(II)I"⟩ : MethodName)) ∈ mt_all := List.mem_append_right _ (List.mem_append_right _ (List.mem_append_right _ (List.mem_append_left _ (List.mem_of_getElem? (i := 58) rfl))))
theorem mw_239 : (Jvm.Cond.code (⟨"java/lang/Math", "max", "(II)I"⟩ : MethodName) prog_11_method_65_code (2 : Nat) (Option.some Jvm.ClassFile.FieldType.int)) ∈ mt_all := List.mem_append_right _ (List.mem_append_right _ (List.mem_append_right _ (List.mem_append_left _ (List.mem_of_getElem? (i := 59) rfl))))
theorem mw_240 : (Jvm.Cond.constant "jdk/internal/util/ArraysSupport" (200 : Nat) (2147483639 : Int32)) ∈ mt_all := List.mem_append_right _ (List.mem_append_right _ (List.mem_append_right _ (List.mem_append_right _ (List.mem_append_left _ (List.mem_of_getElem? (i := 0) rfl)))))
theorem mw_241 : (Jvm.Cond.methodLink "jdk/internal/util/ArraysSupport" (201 : Nat) yXS_hugeLength) ∈ mt_all := List.mem_append_right _ (List.mem_append_right _ (List.mem_append_right _ (List.mem_append_right _ (List.mem_append_left _ (List.mem_of_getElem? (i := 1) rfl)))))
theorem mw_242 : (Jvm.Cond.static yXS_hugeLength) ∈ mt_all := List.mem_append_right _ (List.mem_append_right _ (List.mem_append_right _ (List.mem_append_right _ (List.mem_append_left _ (List.mem_of_getElem? (i := 2) rfl)))))
theorem mw_243 : (Jvm.Cond.code yXS_hugeLength prog_26_method_28_code (3 : Nat) (Option.some Jvm.ClassFile.FieldType.int)) ∈ mt_all := List.mem_append_right _ (List.mem_append_right _ (List.mem_append_right _ (List.mem_append_right _ (List.mem_append_left _ (List.mem_of_getElem? (i := 3) rfl)))))
theorem mw_244 : (Jvm.Cond.methodLink "java/util/ArrayList" (66 : Nat) yXR_copyOf) ∈ mt_all := List.mem_append_right _ (List.mem_append_right _ (List.mem_append_right _ (List.mem_append_right _ (List.mem_append_left _ (List.mem_of_getElem? (i := 4) rfl)))))
theorem mw_245 : (Jvm.Cond.static yXR_copyOf) ∈ mt_all := List.mem_append_right _ (List.mem_append_right _ (List.mem_append_right _ (List.mem_append_right _ (List.mem_append_left _ (List.mem_of_getElem? (i := 5) rfl)))))
theorem mw_246 : (Jvm.Cond.code yXR_copyOf prog_19_method_119_code (2 : Nat) (Option.some (Jvm.ClassFile.FieldType.array (Jvm.ClassFile.FieldType.object "java/lang/Object")))) ∈ mt_all := List.mem_append_right _ (List.mem_append_right _ (List.mem_append_right _ (List.mem_append_right _ (List.mem_append_left _ (List.mem_of_getElem? (i := 6) rfl)))))
theorem mw_247 : (Jvm.Cond.methodLink "java/util/Arrays" (86 : Nat) (⟨"java/lang/Object", "getClass", "()Ljava/lang/Class;"⟩ : MethodName)) ∈ mt_all := List.mem_append_right _ (List.mem_append_right _ (List.mem_append_right _ (List.mem_append_right _ (List.mem_append_left _ (List.mem_of_getElem? (i := 7) rfl)))))
theorem mw_248 : (Jvm.Cond.instanceMethod (⟨"java/lang/Object", "getClass", "()Ljava/lang/Class;"⟩ : MethodName)) ∈ mt_all := List.mem_append_right _ (List.mem_append_right _ (List.mem_append_right _ (List.mem_append_right _ (List.mem_append_left _ (List.mem_of_getElem? (i := 8) rfl)))))
theorem mw_249 : (Jvm.Cond.sameMethod "java/lang/Object" "java/lang/Object" "getClass" "()Ljava/lang/Class;") ∈ mt_all := List.mem_append_right _ (List.mem_append_right _ (List.mem_append_right _ (List.mem_append_right _ (List.mem_append_left _ (List.mem_of_getElem? (i := 9) rfl)))))
theorem mw_250 : (Jvm.Cond.selects "MeldTree" (⟨"java/lang/Object", "getClass", "()Ljava/lang/Class;"⟩ : MethodName) (⟨"java/lang/Object", "getClass", "()Ljava/lang/Class;"⟩ : MethodName)) ∈ mt_all := List.mem_append_right _ (List.mem_append_right _ (List.mem_append_right _ (List.mem_append_right _ (List.mem_append_left _ (List.mem_of_getElem? (i := 10) rfl)))))
theorem mw_251 : (Jvm.Cond.selects "MeldTree$Node" (⟨"java/lang/Object", "getClass", "()Ljava/lang/Class;"⟩ : MethodName) (⟨"java/lang/Object", "getClass", "()Ljava/lang/Class;"⟩ : MethodName)) ∈ mt_all := List.mem_append_right _ (List.mem_append_right _ (List.mem_append_right _ (List.mem_append_right _ (List.mem_append_left _ (List.mem_of_getElem? (i := 11) rfl)))))
theorem mw_252 : (Jvm.Cond.selects "MeldTreeModel" (⟨"java/lang/Object", "getClass", "()Ljava/lang/Class;"⟩ : MethodName) (⟨"java/lang/Object", "getClass", "()Ljava/lang/Class;"⟩ : MethodName)) ∈ mt_all := List.mem_append_right _ (List.mem_append_right _ (List.mem_append_right _ (List.mem_append_right _ (List.mem_append_left _ (List.mem_of_getElem? (i := 12) rfl)))))
theorem mw_253 : (Jvm.Cond.selects "java/lang/IllegalStateException" (⟨"java/lang/Object", "getClass", "()Ljava/lang/Class;"⟩ : MethodName) (⟨"java/lang/Object", "getClass", "()Ljava/lang/Class;"⟩ : MethodName)) ∈ mt_all := List.mem_append_right _ (List.mem_append_right _ (List.mem_append_right _ (List.mem_append_right _ (List.mem_append_left _ (List.mem_of_getElem? (i := 13) rfl)))))
theorem mw_254 : (Jvm.Cond.selects "java/lang/IndexOutOfBoundsException" (⟨"java/lang/Object", "getClass", "()Ljava/lang/Class;"⟩ : MethodName) (⟨"java/lang/Object", "getClass", "()Ljava/lang/Class;"⟩ : MethodName)) ∈ mt_all := List.mem_append_right _ (List.mem_append_right _ (List.mem_append_right _ (List.mem_append_right _ (List.mem_append_left _ (List.mem_of_getElem? (i := 14) rfl)))))
theorem mw_255 : (Jvm.Cond.selects "java/util/ArrayList" (⟨"java/lang/Object", "getClass", "()Ljava/lang/Class;"⟩ : MethodName) (⟨"java/lang/Object", "getClass", "()Ljava/lang/Class;"⟩ : MethodName)) ∈ mt_all := List.mem_append_right _ (List.mem_append_right _ (List.mem_append_right _ (List.mem_append_right _ (List.mem_append_left _ (List.mem_of_getElem? (i := 15) rfl)))))
theorem mw_256 : (Jvm.Cond.selects "java/util/NoSuchElementException" (⟨"java/lang/Object", "getClass", "()Ljava/lang/Class;"⟩ : MethodName) (⟨"java/lang/Object", "getClass", "()Ljava/lang/Class;"⟩ : MethodName)) ∈ mt_all := List.mem_append_right _ (List.mem_append_right _ (List.mem_append_right _ (List.mem_append_right _ (List.mem_append_left _ (List.mem_of_getElem? (i := 16) rfl)))))
theorem mw_257 : (Jvm.Cond.native (⟨"java/lang/Object", "getClass", "()Ljava/lang/Class;"⟩ : MethodName)) ∈ mt_all := List.mem_append_right _ (List.mem_append_right _ (List.mem_append_right _ (List.mem_append_right _ (List.mem_append_left _ (List.mem_of_getElem? (i := 17) rfl)))))
theorem mw_258 : (Jvm.Cond.methodLink "java/util/Arrays" (300 : Nat) yXR_copyOf_2) ∈ mt_all := List.mem_append_right _ (List.mem_append_right _ (List.mem_append_right _ (List.mem_append_right _ (List.mem_append_left _ (List.mem_of_getElem? (i := 18) rfl)))))
theorem mw_259 : (Jvm.Cond.static yXR_copyOf_2) ∈ mt_all := List.mem_append_right _ (List.mem_append_right _ (List.mem_append_right _ (List.mem_append_right _ (List.mem_append_left _ (List.mem_of_getElem? (i := 19) rfl)))))
theorem mw_260 : (Jvm.Cond.code yXR_copyOf_2 prog_19_method_120_code (4 : Nat) (Option.some (Jvm.ClassFile.FieldType.array (Jvm.ClassFile.FieldType.object "java/lang/Object")))) ∈ mt_all := List.mem_append_right _ (List.mem_append_right _ (List.mem_append_right _ (List.mem_append_right _ (List.mem_append_left _ (List.mem_of_getElem? (i := 20) rfl)))))
theorem mw_261 : (Jvm.Cond.classLink "java/util/Arrays" (110 : Nat) "[Ljava/lang/Object;") ∈ mt_all := List.mem_append_right _ (List.mem_append_right _ (List.mem_append_right _ (List.mem_append_right _ (List.mem_append_left _ (List.mem_of_getElem? (i := 21) rfl)))))
theorem mw_262 : (Jvm.Cond.classLink "java/util/Arrays" (2 : Nat) "java/lang/Object") ∈ mt_all := List.mem_append_right _ (List.mem_append_right _ (List.mem_append_right _ (List.mem_append_right _ (List.mem_append_left _ (List.mem_of_getElem? (i := 22) rfl)))))
theorem mw_263 : (Jvm.Cond.methodLink "java/util/Arrays" (304 : Nat) (⟨"java/lang/Math", "min", "(II)I"⟩ : MethodName)) ∈ mt_all := List.mem_append_right _ (List.mem_append_right _ (List.mem_append_right _ (List.mem_append_right _ (List.mem_append_left _ (List.mem_of_getElem? (i := 23) rfl)))))
theorem mw_264 : (Jvm.Cond.static (⟨"java/lang/Math", "min", "(II)I"⟩ : MethodName)) ∈ mt_all := List.mem_append_right _ (List.mem_append_right _ (List.mem_append_right _ (List.mem_append_right _ (List.mem_append_left _ (List.mem_of_getElem? (i := 24) rfl)))))
theorem mw_265 : (Jvm.Cond.code (⟨"java/lang/Math", "min", "(II)I"⟩ : MethodName) prog_11_method_69_code (2 : Nat) (Option.some Jvm.ClassFile.FieldType.int)) ∈ mt_all := List.mem_append_right _ (List.mem_append_right _ (List.mem_append_right _ (List.mem_append_right _ (List.mem_append_left _ (List.mem_of_getElem? (i := 25) rfl)))))
theorem mw_266 : (Jvm.Cond.methodLink "java/util/Arrays" (150 : Nat) (⟨"java/lang/System", "arraycopy", "(Ljava/lang/Object;ILjava/lang/Object;II)V"⟩ : MethodName)) ∈ mt_all := List.mem_append_right _ (List.mem_append_right _ (List.mem_append_right _ (List.mem_append_right _ (List.mem_append_left _ (List.mem_of_getElem? (i := 26) rfl)))))
theorem mw_267 : (Jvm.Cond.static (⟨"java/lang/System", "arraycopy", "(Ljava/lang/Object;ILjava/lang/Object;II)V"⟩ : MethodName)) ∈ mt_all := List.mem_append_right _ (List.mem_append_right _ (List.mem_append_right _ (List.mem_append_right _ (List.mem_append_left _ (List.mem_of_getElem? (i := 27) rfl)))))
theorem mw_268 : (Jvm.Cond.native (⟨"java/lang/System", "arraycopy", "(Ljava/lang/Object;ILjava/lang/Object;II)V"⟩ : MethodName)) ∈ mt_all := List.mem_append_right _ (List.mem_append_right _ (List.mem_append_right _ (List.mem_append_right _ (List.mem_append_left _ (List.mem_of_getElem? (i := 28) rfl)))))
theorem mw_269 : (Jvm.Cond.methodLink "java/util/ArrayList" (79 : Nat) (⟨"java/lang/Math", "max", "(II)I"⟩ : MethodName)) ∈ mt_all := List.mem_append_right _ (List.mem_append_right _ (List.mem_append_right _ (List.mem_append_right _ (List.mem_append_left _ (List.mem_of_getElem? (i := 29) rfl)))))
theorem mw_270 : (Jvm.Cond.classLink "java/util/ArrayList" (7 : Nat) "java/lang/Object") ∈ mt_all := List.mem_append_right _ (List.mem_append_right _ (List.mem_append_right _ (List.mem_append_right _ (List.mem_append_left _ (List.mem_of_getElem? (i := 30) rfl)))))
theorem mw_271 : (Jvm.Cond.methodLink "MeldTree" (43 : Nat) yXT_meld) ∈ mt_all := List.mem_append_right _ (List.mem_append_right _ (List.mem_append_right _ (List.mem_append_right _ (List.mem_append_left _ (List.mem_of_getElem? (i := 31) rfl)))))
theorem mw_272 : (Jvm.Cond.static yXT_meld) ∈ mt_all := List.mem_append_right _ (List.mem_append_right _ (List.mem_append_right _ (List.mem_append_right _ (List.mem_append_left _ (List.mem_of_getElem? (i := 32) rfl)))))
theorem mw_273 : (Jvm.Cond.code yXT_meld prog_1_method_17_code (9 : Nat) (Option.some (Jvm.ClassFile.FieldType.object "MeldTree$Node"))) ∈ mt_all := List.mem_append_right _ (List.mem_append_right _ (List.mem_append_right _ (List.mem_append_right _ (List.mem_append_left _ (List.mem_of_getElem? (i := 33) rfl)))))
theorem mw_274 : (Jvm.Cond.methodLink "MeldTree" (120 : Nat) yXT_goesHigh) ∈ mt_all := List.mem_append_right _ (List.mem_append_right _ (List.mem_append_right _ (List.mem_append_right _ (List.mem_append_left _ (List.mem_of_getElem? (i := 34) rfl)))))
theorem mw_275 : (Jvm.Cond.static yXT_goesHigh) ∈ mt_all := List.mem_append_right _ (List.mem_append_right _ (List.mem_append_right _ (List.mem_append_right _ (List.mem_append_left _ (List.mem_of_getElem? (i := 35) rfl)))))
theorem mw_276 : (Jvm.Cond.code yXT_goesHigh prog_1_method_18_code (2 : Nat) (Option.some Jvm.ClassFile.FieldType.boolean)) ∈ mt_all := List.mem_append_right _ (List.mem_append_right _ (List.mem_append_right _ (List.mem_append_right _ (List.mem_append_left _ (List.mem_of_getElem? (i := 36) rfl)))))
theorem mw_277 : (Jvm.Cond.methodLink "MeldTree" (124 : Nat) yXT_lowOf) ∈ mt_all := List.mem_append_right _ (List.mem_append_right _ (List.mem_append_right _ (List.mem_append_right _ (List.mem_append_left _ (List.mem_of_getElem? (i := 37) rfl)))))
theorem mw_278 : (Jvm.Cond.static yXT_lowOf) ∈ mt_all := List.mem_append_right _ (List.mem_append_right _ (List.mem_append_right _ (List.mem_append_right _ (List.mem_append_left _ (List.mem_of_getElem? (i := 38) rfl)))))
theorem mw_279 : (Jvm.Cond.code yXT_lowOf prog_1_method_29_code (1 : Nat) (Option.some (Jvm.ClassFile.FieldType.object "MeldTree$Node"))) ∈ mt_all := List.mem_append_right _ (List.mem_append_right _ (List.mem_append_right _ (List.mem_append_right _ (List.mem_append_left _ (List.mem_of_getElem? (i := 39) rfl)))))
theorem mw_280 : (Jvm.Cond.methodLink "MeldTree" (128 : Nat) yXT_highOf) ∈ mt_all := List.mem_append_right _ (List.mem_append_right _ (List.mem_append_right _ (List.mem_append_right _ (List.mem_append_left _ (List.mem_of_getElem? (i := 40) rfl)))))
theorem mw_281 : (Jvm.Cond.static yXT_highOf) ∈ mt_all := List.mem_append_right _ (List.mem_append_right _ (List.mem_append_right _ (List.mem_append_right _ (List.mem_append_left _ (List.mem_of_getElem? (i := 41) rfl)))))
theorem mw_282 : (Jvm.Cond.code yXT_highOf prog_1_method_30_code (1 : Nat) (Option.some (Jvm.ClassFile.FieldType.object "MeldTree$Node"))) ∈ mt_all := List.mem_append_right _ (List.mem_append_right _ (List.mem_append_right _ (List.mem_append_right _ (List.mem_append_left _ (List.mem_of_getElem? (i := 42) rfl)))))
theorem mw_283 : (Jvm.Cond.instanceMethod yXN_init_2) ∈ mt_all := List.mem_append_right _ (List.mem_append_right _ (List.mem_append_right _ (List.mem_append_right _ (List.mem_append_left _ (List.mem_of_getElem? (i := 43) rfl)))))
theorem mw_284 : (Jvm.Cond.code yXN_init_2 prog_2_method_2_code (5 : Nat) (Option.none : Option Jvm.ClassFile.FieldType)) ∈ mt_all := List.mem_append_right _ (List.mem_append_right _ (List.mem_append_right _ (List.mem_append_right _ (List.mem_append_left _ (List.mem_of_getElem? (i := 44) rfl)))))
theorem mw_285 : (Jvm.Cond.methodLink "MeldTree" (47 : Nat) yXT_keep) ∈ mt_all := List.mem_append_right _ (List.mem_append_right _ (List.mem_append_right _ (List.mem_append_right _ (List.mem_append_left _ (List.mem_of_getElem? (i := 45) rfl)))))
theorem mw_286 : (Jvm.Cond.instanceMethod yXT_keep) ∈ mt_all := List.mem_append_right _ (List.mem_append_right _ (List.mem_append_right _ (List.mem_append_right _ (List.mem_append_left _ (List.mem_of_getElem? (i := 46) rfl)))))
theorem mw_287 : (Jvm.Cond.code yXT_keep prog_1_method_16_code (3 : Nat) (Option.some Jvm.ClassFile.FieldType.int)) ∈ mt_all := List.mem_append_right _ (List.mem_append_right _ (List.mem_append_right _ (List.mem_append_right _ (List.mem_append_left _ (List.mem_of_getElem? (i := 47) rfl)))))
theorem mw_288 : (Jvm.Cond.methodLink "MeldTreeLaw" (60 : Nat) yXL_remove) ∈ mt_all := List.mem_append_right _ (List.mem_append_right _ (List.mem_append_right _ (List.mem_append_right _ (List.mem_append_left _ (List.mem_of_getElem? (i := 48) rfl)))))
theorem mw_289 : (Jvm.Cond.static yXL_remove) ∈ mt_all := List.mem_append_right _ (List.mem_append_right _ (List.mem_append_right _ (List.mem_append_right _ (List.mem_append_left _ (List.mem_of_getElem? (i := 49) rfl)))))
theorem mw_290 : (Jvm.Cond.codeWith yXL_remove method_4_code (5 : Nat) (Option.some Jvm.ClassFile.FieldType.int) [((0 : Nat), (10 : Nat), (13 : Nat), (13 : Nat)), ((0 : Nat), (10 : Nat), (17 : Nat), (15 : Nat)), ((0 : Nat), (10 : Nat), (21 : Nat), (21 : Nat))]) ∈ mt_all := List.mem_append_right _ (List.mem_append_right _ (List.mem_append_right _ (List.mem_append_right _ (List.mem_append_left _ (List.mem_of_getElem? (i := 50) rfl)))))
theorem mw_291 : (Jvm.Cond.classLink "MeldTreeLaw" (21 : Nat) "java/util/NoSuchElementException") ∈ mt_all := List.mem_append_right _ (List.mem_append_right _ (List.mem_append_right _ (List.mem_append_right _ (List.mem_append_left _ (List.mem_of_getElem? (i := 51) rfl)))))
theorem mw_292 : (Jvm.Cond.methodLink "MeldTreeLaw" (17 : Nat) yXT_remove) ∈ mt_all := List.mem_append_right _ (List.mem_append_right _ (List.mem_append_right _ (List.mem_append_right _ (List.mem_append_left _ (List.mem_of_getElem? (i := 52) rfl)))))
theorem mw_293 : (Jvm.Cond.instanceMethod yXT_remove) ∈ mt_all := List.mem_append_right _ (List.mem_append_right _ (List.mem_append_right _ (List.mem_append_right _ (List.mem_append_left _ (List.mem_of_getElem? (i := 53) rfl)))))
theorem mw_294 : (Jvm.Cond.selects "MeldTree" yXT_remove yXT_remove) ∈ mt_all := List.mem_append_right _ (List.mem_append_right _ (List.mem_append_right _ (List.mem_append_right _ (List.mem_append_left _ (List.mem_of_getElem? (i := 54) rfl)))))
theorem mw_295 : (Jvm.Cond.code yXT_remove prog_1_method_3_code (3 : Nat) (Option.some Jvm.ClassFile.FieldType.int)) ∈ mt_all := List.mem_append_right _ (List.mem_append_right _ (List.mem_append_right _ (List.mem_append_right _ (List.mem_append_left _ (List.mem_of_getElem? (i := 55) rfl)))))
theorem mw_296 : (Jvm.Cond.methodLink "MeldTree" (51 : Nat) yXT_leafAt) ∈ mt_all := List.mem_append_right _ (List.mem_append_right _ (List.mem_append_right _ (List.mem_append_right _ (List.mem_append_left _ (List.mem_of_getElem? (i := 56) rfl)))))
theorem mw_297 : (Jvm.Cond.static yXT_leafAt) ∈ mt_all := List.mem_append_right _ (List.mem_append_right _ (List.mem_append_right _ (List.mem_append_right _ (List.mem_append_left _ (List.mem_of_getElem? (i := 57) rfl)))))
theorem mw_298 : (Jvm.Cond.code yXT_leafAt prog_1_method_19_code (4 : Nat) (Option.some (Jvm.ClassFile.FieldType.object "MeldTree$Node"))) ∈ mt_all := List.mem_append_right _ (List.mem_append_right _ (List.mem_append_right _ (List.mem_append_right _ (List.mem_append_left _ (List.mem_of_getElem? (i := 58) rfl)))))
theorem mw_299 : (Jvm.Cond.classLink "MeldTree" (55 : Nat) "java/util/NoSuchElementException") ∈ mt_all := List.mem_append_right _ (List.mem_append_right _ (List.mem_append_right _ (List.mem_append_right _ (List.mem_append_left _ (List.mem_of_getElem? (i := 59) rfl)))))
theorem mw_300 : (Jvm.Cond.instantiable "java/util/NoSuchElementException" (6 : Nat)) ∈ mt_all := List.mem_append_right _ (List.mem_append_right _ (List.mem_append_right _ (List.mem_append_right _ (List.mem_append_right _ (List.mem_append_left _ (List.mem_of_getElem? (i := 0) rfl))))))
theorem mw_301 : (Jvm.Cond.selects "java/util/NoSuchElementException" (⟨"java/lang/Throwable", "fillInStackTrace", "(I)Ljava/lang/Throwable;"⟩ : MethodName) (⟨"java/lang/Throwable", "fillInStackTrace", "(I)Ljava/lang/Throwable;"⟩ : MethodName)) ∈ mt_all := List.mem_append_right _ (List.mem_append_right _ (List.mem_append_right _ (List.mem_append_right _ (List.mem_append_right _ (List.mem_append_left _ (List.mem_of_getElem? (i := 1) rfl))))))
theorem mw_302 : (Jvm.Cond.lays "java/util/NoSuchElementException" "java/lang/Throwable" "cause" "Ljava/lang/Throwable;") ∈ mt_all := List.mem_append_right _ (List.mem_append_right _ (List.mem_append_right _ (List.mem_append_right _ (List.mem_append_right _ (List.mem_append_left _ (List.mem_of_getElem? (i := 2) rfl))))))
theorem mw_303 : (Jvm.Cond.lays "java/util/NoSuchElementException" "java/lang/Throwable" "stackTrace" "[Ljava/lang/StackTraceElement;") ∈ mt_all := List.mem_append_right _ (List.mem_append_right _ (List.mem_append_right _ (List.mem_append_right _ (List.mem_append_right _ (List.mem_append_left _ (List.mem_of_getElem? (i := 3) rfl))))))
theorem mw_304 : (Jvm.Cond.lays "java/util/NoSuchElementException" "java/lang/Throwable" "suppressedExceptions" "Ljava/util/List;") ∈ mt_all := List.mem_append_right _ (List.mem_append_right _ (List.mem_append_right _ (List.mem_append_right _ (List.mem_append_right _ (List.mem_append_left _ (List.mem_of_getElem? (i := 4) rfl))))))
theorem mw_305 : (Jvm.Cond.lays "java/util/NoSuchElementException" "java/lang/Throwable" "detailMessage" "Ljava/lang/String;") ∈ mt_all := List.mem_append_right _ (List.mem_append_right _ (List.mem_append_right _ (List.mem_append_right _ (List.mem_append_right _ (List.mem_append_left _ (List.mem_of_getElem? (i := 5) rfl))))))
theorem mw_306 : (Jvm.Cond.lays "java/util/NoSuchElementException" "java/lang/Throwable" "backtrace" "Ljava/lang/Object;") ∈ mt_all := List.mem_append_right _ (List.mem_append_right _ (List.mem_append_right _ (List.mem_append_right _ (List.mem_append_right _ (List.mem_append_left _ (List.mem_of_getElem? (i := 6) rfl))))))
theorem mw_307 : (Jvm.Cond.methodLink "MeldTree" (59 : Nat) (⟨"java/util/NoSuchElementException", "<init>", "(Ljava/lang/String;)V"⟩ : MethodName)) ∈ mt_all := List.mem_append_right _ (List.mem_append_right _ (List.mem_append_right _ (List.mem_append_right _ (List.mem_append_right _ (List.mem_append_left _ (List.mem_of_getElem? (i := 7) rfl))))))
theorem mw_308 : (Jvm.Cond.instanceMethod (⟨"java/util/NoSuchElementException", "<init>", "(Ljava/lang/String;)V"⟩ : MethodName)) ∈ mt_all := List.mem_append_right _ (List.mem_append_right _ (List.mem_append_right _ (List.mem_append_right _ (List.mem_append_right _ (List.mem_append_left _ (List.mem_of_getElem? (i := 8) rfl))))))
theorem mw_309 : (Jvm.Cond.code (⟨"java/util/NoSuchElementException", "<init>", "(Ljava/lang/String;)V"⟩ : MethodName) prog_22_method_4_code (2 : Nat) (Option.none : Option Jvm.ClassFile.FieldType)) ∈ mt_all := List.mem_append_right _ (List.mem_append_right _ (List.mem_append_right _ (List.mem_append_right _ (List.mem_append_right _ (List.mem_append_left _ (List.mem_of_getElem? (i := 9) rfl))))))
theorem mw_310 : (Jvm.Cond.methodLink "java/util/NoSuchElementException" (13 : Nat) (⟨"java/lang/RuntimeException", "<init>", "(Ljava/lang/String;)V"⟩ : MethodName)) ∈ mt_all := List.mem_append_right _ (List.mem_append_right _ (List.mem_append_right _ (List.mem_append_right _ (List.mem_append_right _ (List.mem_append_left _ (List.mem_of_getElem? (i := 10) rfl))))))
theorem mw_311 : (Jvm.Cond.lays "java/util/NoSuchElementException" "java/lang/Throwable" "depth" "I") ∈ mt_all := List.mem_append_right _ (List.mem_append_right _ (List.mem_append_right _ (List.mem_append_right _ (List.mem_append_right _ (List.mem_append_left _ (List.mem_of_getElem? (i := 11) rfl))))))
theorem mw_312 : (Jvm.Cond.superclass "java/util/NoSuchElementException" "java/lang/RuntimeException") ∈ mt_all := List.mem_append_right _ (List.mem_append_right _ (List.mem_append_right _ (List.mem_append_right _ (List.mem_append_right _ (List.mem_append_left _ (List.mem_of_getElem? (i := 12) rfl))))))
theorem mw_313 : (Jvm.Cond.methodLink "MeldTreeLaw" (64 : Nat) yXL_join) ∈ mt_all := List.mem_append_right _ (List.mem_append_right _ (List.mem_append_right _ (List.mem_append_right _ (List.mem_append_right _ (List.mem_append_left _ (List.mem_of_getElem? (i := 13) rfl))))))
theorem mw_314 : (Jvm.Cond.static yXL_join) ∈ mt_all := List.mem_append_right _ (List.mem_append_right _ (List.mem_append_right _ (List.mem_append_right _ (List.mem_append_right _ (List.mem_append_left _ (List.mem_of_getElem? (i := 14) rfl))))))
theorem mw_315 : (Jvm.Cond.codeWith yXL_join method_5_code (6 : Nat) (Option.some Jvm.ClassFile.FieldType.int) [((0 : Nat), (12 : Nat), (15 : Nat), (13 : Nat)), ((0 : Nat), (12 : Nat), (19 : Nat), (15 : Nat))]) ∈ mt_all := List.mem_append_right _ (List.mem_append_right _ (List.mem_append_right _ (List.mem_append_right _ (List.mem_append_right _ (List.mem_append_left _ (List.mem_of_getElem? (i := 15) rfl))))))
theorem mw_316 : (Jvm.Cond.methodLink "MeldTreeLaw" (23 : Nat) yXT_join) ∈ mt_all := List.mem_append_right _ (List.mem_append_right _ (List.mem_append_right _ (List.mem_append_right _ (List.mem_append_right _ (List.mem_append_left _ (List.mem_of_getElem? (i := 16) rfl))))))
theorem mw_317 : (Jvm.Cond.instanceMethod yXT_join) ∈ mt_all := List.mem_append_right _ (List.mem_append_right _ (List.mem_append_right _ (List.mem_append_right _ (List.mem_append_right _ (List.mem_append_left _ (List.mem_of_getElem? (i := 17) rfl))))))
theorem mw_318 : (Jvm.Cond.selects "MeldTree" yXT_join yXT_join) ∈ mt_all := List.mem_append_right _ (List.mem_append_right _ (List.mem_append_right _ (List.mem_append_right _ (List.mem_append_right _ (List.mem_append_left _ (List.mem_of_getElem? (i := 18) rfl))))))
theorem mw_319 : (Jvm.Cond.code yXT_join prog_1_method_4_code (4 : Nat) (Option.some Jvm.ClassFile.FieldType.int)) ∈ mt_all := List.mem_append_right _ (List.mem_append_right _ (List.mem_append_right _ (List.mem_append_right _ (List.mem_append_right _ (List.mem_append_left _ (List.mem_of_getElem? (i := 19) rfl))))))
theorem mw_320 : (Jvm.Cond.methodLink "MeldTreeLaw" (67 : Nat) yXL_get) ∈ mt_all := List.mem_append_right _ (List.mem_append_right _ (List.mem_append_right _ (List.mem_append_right _ (List.mem_append_right _ (List.mem_append_left _ (List.mem_of_getElem? (i := 20) rfl))))))
theorem mw_321 : (Jvm.Cond.static yXL_get) ∈ mt_all := List.mem_append_right _ (List.mem_append_right _ (List.mem_append_right _ (List.mem_append_right _ (List.mem_append_right _ (List.mem_append_left _ (List.mem_of_getElem? (i := 21) rfl))))))
theorem mw_322 : (Jvm.Cond.codeWith yXL_get method_6_code (5 : Nat) (Option.some Jvm.ClassFile.FieldType.int) [((0 : Nat), (10 : Nat), (13 : Nat), (13 : Nat)), ((0 : Nat), (10 : Nat), (17 : Nat), (21 : Nat))]) ∈ mt_all := List.mem_append_right _ (List.mem_append_right _ (List.mem_append_right _ (List.mem_append_right _ (List.mem_append_right _ (List.mem_append_left _ (List.mem_of_getElem? (i := 22) rfl))))))
theorem mw_323 : (Jvm.Cond.methodLink "MeldTreeLaw" (26 : Nat) yXT_get) ∈ mt_all := List.mem_append_right _ (List.mem_append_right _ (List.mem_append_right _ (List.mem_append_right _ (List.mem_append_right _ (List.mem_append_left _ (List.mem_of_getElem? (i := 23) rfl))))))
theorem mw_324 : (Jvm.Cond.instanceMethod yXT_get) ∈ mt_all := List.mem_append_right _ (List.mem_append_right _ (List.mem_append_right _ (List.mem_append_right _ (List.mem_append_right _ (List.mem_append_left _ (List.mem_of_getElem? (i := 24) rfl))))))
theorem mw_325 : (Jvm.Cond.selects "MeldTree" yXT_get yXT_get) ∈ mt_all := List.mem_append_right _ (List.mem_append_right _ (List.mem_append_right _ (List.mem_append_right _ (List.mem_append_right _ (List.mem_append_left _ (List.mem_of_getElem? (i := 25) rfl))))))
theorem mw_326 : (Jvm.Cond.code yXT_get prog_1_method_5_code (4 : Nat) (Option.some Jvm.ClassFile.FieldType.int)) ∈ mt_all := List.mem_append_right _ (List.mem_append_right _ (List.mem_append_right _ (List.mem_append_right _ (List.mem_append_right _ (List.mem_append_left _ (List.mem_of_getElem? (i := 26) rfl))))))
theorem mw_327 : (Jvm.Cond.methodLink "MeldTreeLaw" (70 : Nat) yXL_select) ∈ mt_all := List.mem_append_right _ (List.mem_append_right _ (List.mem_append_right _ (List.mem_append_right _ (List.mem_append_right _ (List.mem_append_left _ (List.mem_of_getElem? (i := 27) rfl))))))
theorem mw_328 : (Jvm.Cond.static yXL_select) ∈ mt_all := List.mem_append_right _ (List.mem_append_right _ (List.mem_append_right _ (List.mem_append_right _ (List.mem_append_right _ (List.mem_append_left _ (List.mem_of_getElem? (i := 28) rfl))))))
theorem mw_329 : (Jvm.Cond.codeWith yXL_select method_7_code (5 : Nat) (Option.some Jvm.ClassFile.FieldType.int) [((0 : Nat), (10 : Nat), (13 : Nat), (13 : Nat))]) ∈ mt_all := List.mem_append_right _ (List.mem_append_right _ (List.mem_append_right _ (List.mem_append_right _ (List.mem_append_right _ (List.mem_append_left _ (List.mem_of_getElem? (i := 29) rfl))))))
theorem mw_330 : (Jvm.Cond.methodLink "MeldTreeLaw" (29 : Nat) yXT_select) ∈ mt_all := List.mem_append_right _ (List.mem_append_right _ (List.mem_append_right _ (List.mem_append_right _ (List.mem_append_right _ (List.mem_append_left _ (List.mem_of_getElem? (i := 30) rfl))))))
theorem mw_331 : (Jvm.Cond.instanceMethod yXT_select) ∈ mt_all := List.mem_append_right _ (List.mem_append_right _ (List.mem_append_right _ (List.mem_append_right _ (List.mem_append_right _ (List.mem_append_left _ (List.mem_of_getElem? (i := 31) rfl))))))
theorem mw_332 : (Jvm.Cond.selects "MeldTree" yXT_select yXT_select) ∈ mt_all := List.mem_append_right _ (List.mem_append_right _ (List.mem_append_right _ (List.mem_append_right _ (List.mem_append_right _ (List.mem_append_left _ (List.mem_of_getElem? (i := 32) rfl))))))
theorem mw_333 : (Jvm.Cond.code yXT_select prog_1_method_6_code (3 : Nat) (Option.some Jvm.ClassFile.FieldType.int)) ∈ mt_all := List.mem_append_right _ (List.mem_append_right _ (List.mem_append_right _ (List.mem_append_right _ (List.mem_append_right _ (List.mem_append_left _ (List.mem_of_getElem? (i := 33) rfl))))))
theorem mw_334 : (Jvm.Cond.methodLink "MeldTree" (75 : Nat) yXT_keyAt) ∈ mt_all := List.mem_append_right _ (List.mem_append_right _ (List.mem_append_right _ (List.mem_append_right _ (List.mem_append_right _ (List.mem_append_left _ (List.mem_of_getElem? (i := 34) rfl))))))
theorem mw_335 : (Jvm.Cond.static yXT_keyAt) ∈ mt_all := List.mem_append_right _ (List.mem_append_right _ (List.mem_append_right _ (List.mem_append_right _ (List.mem_append_right _ (List.mem_append_left _ (List.mem_of_getElem? (i := 35) rfl))))))
theorem mw_336 : (Jvm.Cond.code yXT_keyAt prog_1_method_20_code (7 : Nat) (Option.some Jvm.ClassFile.FieldType.int)) ∈ mt_all := List.mem_append_right _ (List.mem_append_right _ (List.mem_append_right _ (List.mem_append_right _ (List.mem_append_right _ (List.mem_append_left _ (List.mem_of_getElem? (i := 36) rfl))))))
theorem mw_337 : (Jvm.Cond.methodLink "MeldTreeLaw" (73 : Nat) yXL_many) ∈ mt_all := List.mem_append_right _ (List.mem_append_right _ (List.mem_append_right _ (List.mem_append_right _ (List.mem_append_right _ (List.mem_append_left _ (List.mem_of_getElem? (i := 37) rfl))))))
theorem mw_338 : (Jvm.Cond.static yXL_many) ∈ mt_all := List.mem_append_right _ (List.mem_append_right _ (List.mem_append_right _ (List.mem_append_right _ (List.mem_append_right _ (List.mem_append_left _ (List.mem_of_getElem? (i := 38) rfl))))))
theorem mw_339 : (Jvm.Cond.codeWith yXL_many method_8_code (6 : Nat) (Option.some Jvm.ClassFile.FieldType.int) [((0 : Nat), (12 : Nat), (15 : Nat), (13 : Nat))]) ∈ mt_all := List.mem_append_right _ (List.mem_append_right _ (List.mem_append_right _ (List.mem_append_right _ (List.mem_append_right _ (List.mem_append_left _ (List.mem_of_getElem? (i := 39) rfl))))))
theorem mw_340 : (Jvm.Cond.methodLink "MeldTreeLaw" (32 : Nat) yXT_many) ∈ mt_all := List.mem_append_right _ (List.mem_append_right _ (List.mem_append_right _ (List.mem_append_right _ (List.mem_append_right _ (List.mem_append_left _ (List.mem_of_getElem? (i := 40) rfl))))))
theorem mw_341 : (Jvm.Cond.instanceMethod yXT_many) ∈ mt_all := List.mem_append_right _ (List.mem_append_right _ (List.mem_append_right _ (List.mem_append_right _ (List.mem_append_right _ (List.mem_append_left _ (List.mem_of_getElem? (i := 41) rfl))))))
theorem mw_342 : (Jvm.Cond.selects "MeldTree" yXT_many yXT_many) ∈ mt_all := List.mem_append_right _ (List.mem_append_right _ (List.mem_append_right _ (List.mem_append_right _ (List.mem_append_right _ (List.mem_append_left _ (List.mem_of_getElem? (i := 42) rfl))))))
theorem mw_343 : (Jvm.Cond.code yXT_many prog_1_method_7_code (4 : Nat) (Option.some Jvm.ClassFile.FieldType.int)) ∈ mt_all := List.mem_append_right _ (List.mem_append_right _ (List.mem_append_right _ (List.mem_append_right _ (List.mem_append_right _ (List.mem_append_left _ (List.mem_of_getElem? (i := 43) rfl))))))
theorem mw_344 : (Jvm.Cond.methodLink "MeldTree" (79 : Nat) yXT_sizeBelow) ∈ mt_all := List.mem_append_right _ (List.mem_append_right _ (List.mem_append_right _ (List.mem_append_right _ (List.mem_append_right _ (List.mem_append_left _ (List.mem_of_getElem? (i := 44) rfl))))))
theorem mw_345 : (Jvm.Cond.static yXT_sizeBelow) ∈ mt_all := List.mem_append_right _ (List.mem_append_right _ (List.mem_append_right _ (List.mem_append_right _ (List.mem_append_right _ (List.mem_append_left _ (List.mem_of_getElem? (i := 45) rfl))))))
theorem mw_346 : (Jvm.Cond.code yXT_sizeBelow prog_1_method_21_code (5 : Nat) (Option.some Jvm.ClassFile.FieldType.int)) ∈ mt_all := List.mem_append_right _ (List.mem_append_right _ (List.mem_append_right _ (List.mem_append_right _ (List.mem_append_right _ (List.mem_append_left _ (List.mem_of_getElem? (i := 46) rfl))))))
theorem mw_347 : (Jvm.Cond.methodLink "MeldTreeLaw" (76 : Nat) yXL_sum) ∈ mt_all := List.mem_append_right _ (List.mem_append_right _ (List.mem_append_right _ (List.mem_append_right _ (List.mem_append_right _ (List.mem_append_left _ (List.mem_of_getElem? (i := 47) rfl))))))
theorem mw_348 : (Jvm.Cond.static yXL_sum) ∈ mt_all := List.mem_append_right _ (List.mem_append_right _ (List.mem_append_right _ (List.mem_append_right _ (List.mem_append_right _ (List.mem_append_left _ (List.mem_of_getElem? (i := 48) rfl))))))
theorem mw_349 : (Jvm.Cond.codeWith yXL_sum method_9_code (6 : Nat) (Option.some Jvm.ClassFile.FieldType.int) [((0 : Nat), (11 : Nat), (14 : Nat), (13 : Nat))]) ∈ mt_all := List.mem_append_right _ (List.mem_append_right _ (List.mem_append_right _ (List.mem_append_right _ (List.mem_append_right _ (List.mem_append_left _ (List.mem_of_getElem? (i := 49) rfl))))))
theorem mw_350 : (Jvm.Cond.methodLink "MeldTreeLaw" (35 : Nat) yXT_sum) ∈ mt_all := List.mem_append_right _ (List.mem_append_right _ (List.mem_append_right _ (List.mem_append_right _ (List.mem_append_right _ (List.mem_append_left _ (List.mem_of_getElem? (i := 50) rfl))))))
theorem mw_351 : (Jvm.Cond.instanceMethod yXT_sum) ∈ mt_all := List.mem_append_right _ (List.mem_append_right _ (List.mem_append_right _ (List.mem_append_right _ (List.mem_append_right _ (List.mem_append_left _ (List.mem_of_getElem? (i := 51) rfl))))))
theorem mw_352 : (Jvm.Cond.selects "MeldTree" yXT_sum yXT_sum) ∈ mt_all := List.mem_append_right _ (List.mem_append_right _ (List.mem_append_right _ (List.mem_append_right _ (List.mem_append_right _ (List.mem_append_left _ (List.mem_of_getElem? (i := 52) rfl))))))
theorem mw_353 : (Jvm.Cond.code yXT_sum prog_1_method_8_code (4 : Nat) (Option.some Jvm.ClassFile.FieldType.long)) ∈ mt_all := List.mem_append_right _ (List.mem_append_right _ (List.mem_append_right _ (List.mem_append_right _ (List.mem_append_right _ (List.mem_append_left _ (List.mem_of_getElem? (i := 53) rfl))))))
theorem mw_354 : (Jvm.Cond.methodLink "MeldTree" (82 : Nat) yXT_totalBelow) ∈ mt_all := List.mem_append_right _ (List.mem_append_right _ (List.mem_append_right _ (List.mem_append_right _ (List.mem_append_right _ (List.mem_append_left _ (List.mem_of_getElem? (i := 54) rfl))))))
theorem mw_355 : (Jvm.Cond.static yXT_totalBelow) ∈ mt_all := List.mem_append_right _ (List.mem_append_right _ (List.mem_append_right _ (List.mem_append_right _ (List.mem_append_right _ (List.mem_append_left _ (List.mem_of_getElem? (i := 55) rfl))))))
theorem mw_356 : (Jvm.Cond.code yXT_totalBelow prog_1_method_22_code (6 : Nat) (Option.some Jvm.ClassFile.FieldType.long)) ∈ mt_all := List.mem_append_right _ (List.mem_append_right _ (List.mem_append_right _ (List.mem_append_right _ (List.mem_append_right _ (List.mem_append_left _ (List.mem_of_getElem? (i := 56) rfl))))))
theorem mw_357 : (Jvm.Cond.methodLink "MeldTreeLaw" (79 : Nat) yXL_differ) ∈ mt_all := List.mem_append_right _ (List.mem_append_right _ (List.mem_append_right _ (List.mem_append_right _ (List.mem_append_right _ (List.mem_append_left _ (List.mem_of_getElem? (i := 57) rfl))))))
theorem mw_358 : (Jvm.Cond.static yXL_differ) ∈ mt_all := List.mem_append_right _ (List.mem_append_right _ (List.mem_append_right _ (List.mem_append_right _ (List.mem_append_right _ (List.mem_append_left _ (List.mem_of_getElem? (i := 58) rfl))))))
theorem mw_359 : (Jvm.Cond.codeWith yXL_differ method_10_code (5 : Nat) (Option.some Jvm.ClassFile.FieldType.int) [((0 : Nat), (10 : Nat), (13 : Nat), (13 : Nat))]) ∈ mt_all := List.mem_append_right _ (List.mem_append_right _ (List.mem_append_right _ (List.mem_append_right _ (List.mem_append_right _ (List.mem_append_left _ (List.mem_of_getElem? (i := 59) rfl))))))
theorem mw_360 : (Jvm.Cond.methodLink "MeldTreeLaw" (39 : Nat) yXT_differ) ∈ mt_all := List.mem_append_right _ (List.mem_append_right _ (List.mem_append_right _ (List.mem_append_right _ (List.mem_append_right _ (List.mem_append_right _ (List.mem_append_left _ (List.mem_of_getElem? (i := 0) rfl)))))))
theorem mw_361 : (Jvm.Cond.instanceMethod yXT_differ) ∈ mt_all := List.mem_append_right _ (List.mem_append_right _ (List.mem_append_right _ (List.mem_append_right _ (List.mem_append_right _ (List.mem_append_right _ (List.mem_append_left _ (List.mem_of_getElem? (i := 1) rfl)))))))
theorem mw_362 : (Jvm.Cond.selects "MeldTree" yXT_differ yXT_differ) ∈ mt_all := List.mem_append_right _ (List.mem_append_right _ (List.mem_append_right _ (List.mem_append_right _ (List.mem_append_right _ (List.mem_append_right _ (List.mem_append_left _ (List.mem_of_getElem? (i := 2) rfl)))))))
theorem mw_363 : (Jvm.Cond.code yXT_differ prog_1_method_9_code (3 : Nat) (Option.some Jvm.ClassFile.FieldType.int)) ∈ mt_all := List.mem_append_right _ (List.mem_append_right _ (List.mem_append_right _ (List.mem_append_right _ (List.mem_append_right _ (List.mem_append_right _ (List.mem_append_left _ (List.mem_of_getElem? (i := 3) rfl)))))))
theorem mw_364 : (Jvm.Cond.methodLink "MeldTree" (86 : Nat) yXT_differences) ∈ mt_all := List.mem_append_right _ (List.mem_append_right _ (List.mem_append_right _ (List.mem_append_right _ (List.mem_append_right _ (List.mem_append_right _ (List.mem_append_left _ (List.mem_of_getElem? (i := 4) rfl)))))))
theorem mw_365 : (Jvm.Cond.static yXT_differences) ∈ mt_all := List.mem_append_right _ (List.mem_append_right _ (List.mem_append_right _ (List.mem_append_right _ (List.mem_append_right _ (List.mem_append_right _ (List.mem_append_left _ (List.mem_of_getElem? (i := 5) rfl)))))))
theorem mw_366 : (Jvm.Cond.code yXT_differences prog_1_method_23_code (3 : Nat) (Option.some Jvm.ClassFile.FieldType.int)) ∈ mt_all := List.mem_append_right _ (List.mem_append_right _ (List.mem_append_right _ (List.mem_append_right _ (List.mem_append_right _ (List.mem_append_right _ (List.mem_append_left _ (List.mem_of_getElem? (i := 6) rfl)))))))
theorem mw_367 : (Jvm.Cond.methodLink "MeldTreeLaw" (82 : Nat) yXL_digest) ∈ mt_all := List.mem_append_right _ (List.mem_append_right _ (List.mem_append_right _ (List.mem_append_right _ (List.mem_append_right _ (List.mem_append_right _ (List.mem_append_left _ (List.mem_of_getElem? (i := 7) rfl)))))))
theorem mw_368 : (Jvm.Cond.static yXL_digest) ∈ mt_all := List.mem_append_right _ (List.mem_append_right _ (List.mem_append_right _ (List.mem_append_right _ (List.mem_append_right _ (List.mem_append_right _ (List.mem_append_left _ (List.mem_of_getElem? (i := 8) rfl)))))))
theorem mw_369 : (Jvm.Cond.codeWith yXL_digest method_11_code (4 : Nat) (Option.some Jvm.ClassFile.FieldType.int) [((0 : Nat), (8 : Nat), (11 : Nat), (13 : Nat))]) ∈ mt_all := List.mem_append_right _ (List.mem_append_right _ (List.mem_append_right _ (List.mem_append_right _ (List.mem_append_right _ (List.mem_append_right _ (List.mem_append_left _ (List.mem_of_getElem? (i := 9) rfl)))))))
theorem mw_370 : (Jvm.Cond.methodLink "MeldTreeLaw" (42 : Nat) yXT_digest) ∈ mt_all := List.mem_append_right _ (List.mem_append_right _ (List.mem_append_right _ (List.mem_append_right _ (List.mem_append_right _ (List.mem_append_right _ (List.mem_append_left _ (List.mem_of_getElem? (i := 10) rfl)))))))
theorem mw_371 : (Jvm.Cond.instanceMethod yXT_digest) ∈ mt_all := List.mem_append_right _ (List.mem_append_right _ (List.mem_append_right _ (List.mem_append_right _ (List.mem_append_right _ (List.mem_append_right _ (List.mem_append_left _ (List.mem_of_getElem? (i := 11) rfl)))))))
theorem mw_372 : (Jvm.Cond.selects "MeldTree" yXT_digest yXT_digest) ∈ mt_all := List.mem_append_right _ (List.mem_append_right _ (List.mem_append_right _ (List.mem_append_right _ (List.mem_append_right _ (List.mem_append_right _ (List.mem_append_left _ (List.mem_of_getElem? (i := 12) rfl)))))))
theorem mw_373 : (Jvm.Cond.code yXT_digest prog_1_method_10_code (2 : Nat) (Option.some Jvm.ClassFile.FieldType.long)) ∈ mt_all := List.mem_append_right _ (List.mem_append_right _ (List.mem_append_right _ (List.mem_append_right _ (List.mem_append_right _ (List.mem_append_right _ (List.mem_append_left _ (List.mem_of_getElem? (i := 13) rfl)))))))
theorem mw_374 : (Jvm.Cond.constantLong "MeldTree" (90 : Nat) (7 : Int64)) ∈ mt_all := List.mem_append_right _ (List.mem_append_right _ (List.mem_append_right _ (List.mem_append_right _ (List.mem_append_right _ (List.mem_append_right _ (List.mem_append_left _ (List.mem_of_getElem? (i := 14) rfl)))))))
theorem mw_375 : (Jvm.Cond.methodLink "MeldTree" (92 : Nat) yXT_digestOn) ∈ mt_all := List.mem_append_right _ (List.mem_append_right _ (List.mem_append_right _ (List.mem_append_right _ (List.mem_append_right _ (List.mem_append_right _ (List.mem_append_left _ (List.mem_of_getElem? (i := 15) rfl)))))))
theorem mw_376 : (Jvm.Cond.static yXT_digestOn) ∈ mt_all := List.mem_append_right _ (List.mem_append_right _ (List.mem_append_right _ (List.mem_append_right _ (List.mem_append_right _ (List.mem_append_right _ (List.mem_append_left _ (List.mem_of_getElem? (i := 16) rfl)))))))
theorem mw_377 : (Jvm.Cond.code yXT_digestOn prog_1_method_24_code (4 : Nat) (Option.some Jvm.ClassFile.FieldType.long)) ∈ mt_all := List.mem_append_right _ (List.mem_append_right _ (List.mem_append_right _ (List.mem_append_right _ (List.mem_append_right _ (List.mem_append_right _ (List.mem_append_left _ (List.mem_of_getElem? (i := 17) rfl)))))))
theorem mw_378 : (Jvm.Cond.constantLong "MeldTree" (145 : Nat) (31 : Int64)) ∈ mt_all := List.mem_append_right _ (List.mem_append_right _ (List.mem_append_right _ (List.mem_append_right _ (List.mem_append_right _ (List.mem_append_right _ (List.mem_append_left _ (List.mem_of_getElem? (i := 18) rfl)))))))
theorem mw_379 : (Jvm.Cond.classLink "MeldTreeLaw" (47 : Nat) "MeldTreeModel") ∈ mt_all := List.mem_append_right _ (List.mem_append_right _ (List.mem_append_right _ (List.mem_append_right _ (List.mem_append_right _ (List.mem_append_right _ (List.mem_append_left _ (List.mem_of_getElem? (i := 19) rfl)))))))
theorem mw_380 : (Jvm.Cond.instantiable "MeldTreeModel" (4 : Nat)) ∈ mt_all := List.mem_append_right _ (List.mem_append_right _ (List.mem_append_right _ (List.mem_append_right _ (List.mem_append_right _ (List.mem_append_right _ (List.mem_append_left _ (List.mem_of_getElem? (i := 20) rfl)))))))
theorem mw_381 : (Jvm.Cond.methodLink "MeldTreeLaw" (49 : Nat) yXM_init) ∈ mt_all := List.mem_append_right _ (List.mem_append_right _ (List.mem_append_right _ (List.mem_append_right _ (List.mem_append_right _ (List.mem_append_right _ (List.mem_append_left _ (List.mem_of_getElem? (i := 21) rfl)))))))
theorem mw_382 : (Jvm.Cond.instanceMethod yXM_init) ∈ mt_all := List.mem_append_right _ (List.mem_append_right _ (List.mem_append_right _ (List.mem_append_right _ (List.mem_append_right _ (List.mem_append_right _ (List.mem_append_left _ (List.mem_of_getElem? (i := 22) rfl)))))))
theorem mw_383 : (Jvm.Cond.code yXM_init prog_4_method_1_code (1 : Nat) (Option.none : Option Jvm.ClassFile.FieldType)) ∈ mt_all := List.mem_append_right _ (List.mem_append_right _ (List.mem_append_right _ (List.mem_append_right _ (List.mem_append_right _ (List.mem_append_right _ (List.mem_append_left _ (List.mem_of_getElem? (i := 23) rfl)))))))
theorem mw_384 : (Jvm.Cond.methodLink "MeldTreeModel" (1 : Nat) objectInit) ∈ mt_all := List.mem_append_right _ (List.mem_append_right _ (List.mem_append_right _ (List.mem_append_right _ (List.mem_append_right _ (List.mem_append_right _ (List.mem_append_left _ (List.mem_of_getElem? (i := 24) rfl)))))))
theorem mw_385 : (Jvm.Cond.constant "MeldTreeModel" (9 : Nat) (153600 : Int32)) ∈ mt_all := List.mem_append_right _ (List.mem_append_right _ (List.mem_append_right _ (List.mem_append_right _ (List.mem_append_right _ (List.mem_append_right _ (List.mem_append_left _ (List.mem_of_getElem? (i := 25) rfl)))))))
theorem mw_386 : (Jvm.Cond.fieldLink "MeldTreeModel" (10 : Nat) "MeldTreeModel" "value" "[I") ∈ mt_all := List.mem_append_right _ (List.mem_append_right _ (List.mem_append_right _ (List.mem_append_right _ (List.mem_append_right _ (List.mem_append_right _ (List.mem_append_left _ (List.mem_of_getElem? (i := 26) rfl)))))))
theorem mw_387 : (Jvm.Cond.fieldLink "MeldTreeModel" (14 : Nat) "MeldTreeModel" "has" "[Z") ∈ mt_all := List.mem_append_right _ (List.mem_append_right _ (List.mem_append_right _ (List.mem_append_right _ (List.mem_append_right _ (List.mem_append_right _ (List.mem_append_left _ (List.mem_of_getElem? (i := 27) rfl)))))))
theorem mw_388 : (Jvm.Cond.fieldLink "MeldTreeModel" (18 : Nat) "MeldTreeModel" "versions" "I") ∈ mt_all := List.mem_append_right _ (List.mem_append_right _ (List.mem_append_right _ (List.mem_append_right _ (List.mem_append_right _ (List.mem_append_right _ (List.mem_append_left _ (List.mem_of_getElem? (i := 28) rfl)))))))
theorem mw_389 : (Jvm.Cond.fieldLink "MeldTreeModel" (22 : Nat) "MeldTreeModel" "thrown" "I") ∈ mt_all := List.mem_append_right _ (List.mem_append_right _ (List.mem_append_right _ (List.mem_append_right _ (List.mem_append_right _ (List.mem_append_right _ (List.mem_append_left _ (List.mem_of_getElem? (i := 29) rfl)))))))
theorem mw_390 : (Jvm.Cond.laysFinal "MeldTreeModel" "MeldTreeModel" "value" "[I") ∈ mt_all := List.mem_append_right _ (List.mem_append_right _ (List.mem_append_right _ (List.mem_append_right _ (List.mem_append_right _ (List.mem_append_right _ (List.mem_append_left _ (List.mem_of_getElem? (i := 30) rfl)))))))
theorem mw_391 : (Jvm.Cond.soleField "MeldTreeModel" "value") ∈ mt_all := List.mem_append_right _ (List.mem_append_right _ (List.mem_append_right _ (List.mem_append_right _ (List.mem_append_right _ (List.mem_append_right _ (List.mem_append_left _ (List.mem_of_getElem? (i := 31) rfl)))))))
theorem mw_392 : (Jvm.Cond.laysFinal "MeldTreeModel" "MeldTreeModel" "has" "[Z") ∈ mt_all := List.mem_append_right _ (List.mem_append_right _ (List.mem_append_right _ (List.mem_append_right _ (List.mem_append_right _ (List.mem_append_right _ (List.mem_append_left _ (List.mem_of_getElem? (i := 32) rfl)))))))
theorem mw_393 : (Jvm.Cond.soleField "MeldTreeModel" "has") ∈ mt_all := List.mem_append_right _ (List.mem_append_right _ (List.mem_append_right _ (List.mem_append_right _ (List.mem_append_right _ (List.mem_append_right _ (List.mem_append_left _ (List.mem_of_getElem? (i := 33) rfl)))))))
theorem mw_394 : (Jvm.Cond.lays "MeldTreeModel" "MeldTreeModel" "versions" "I") ∈ mt_all := List.mem_append_right _ (List.mem_append_right _ (List.mem_append_right _ (List.mem_append_right _ (List.mem_append_right _ (List.mem_append_right _ (List.mem_append_left _ (List.mem_of_getElem? (i := 34) rfl)))))))
theorem mw_395 : (Jvm.Cond.soleField "MeldTreeModel" "versions") ∈ mt_all := List.mem_append_right _ (List.mem_append_right _ (List.mem_append_right _ (List.mem_append_right _ (List.mem_append_right _ (List.mem_append_right _ (List.mem_append_left _ (List.mem_of_getElem? (i := 35) rfl)))))))
theorem mw_396 : (Jvm.Cond.lays "MeldTreeModel" "MeldTreeModel" "thrown" "I") ∈ mt_all := List.mem_append_right _ (List.mem_append_right _ (List.mem_append_right _ (List.mem_append_right _ (List.mem_append_right _ (List.mem_append_right _ (List.mem_append_left _ (List.mem_of_getElem? (i := 36) rfl)))))))
theorem mw_397 : (Jvm.Cond.soleField "MeldTreeModel" "thrown") ∈ mt_all := List.mem_append_right _ (List.mem_append_right _ (List.mem_append_right _ (List.mem_append_right _ (List.mem_append_right _ (List.mem_append_right _ (List.mem_append_left _ (List.mem_of_getElem? (i := 37) rfl)))))))
theorem mw_398 : (Jvm.Cond.superclass "MeldTreeModel" "java/lang/Object") ∈ mt_all := List.mem_append_right _ (List.mem_append_right _ (List.mem_append_right _ (List.mem_append_right _ (List.mem_append_right _ (List.mem_append_right _ (List.mem_append_left _ (List.mem_of_getElem? (i := 38) rfl)))))))
theorem mw_399 : (Jvm.Cond.arrayClass Jvm.ClassFile.FieldType.int) ∈ mt_all := List.mem_append_right _ (List.mem_append_right _ (List.mem_append_right _ (List.mem_append_right _ (List.mem_append_right _ (List.mem_append_right _ (List.mem_append_left _ (List.mem_of_getElem? (i := 39) rfl)))))))
theorem mw_400 : (Jvm.Cond.arrayClass Jvm.ClassFile.FieldType.boolean) ∈ mt_all := List.mem_append_right _ (List.mem_append_right _ (List.mem_append_right _ (List.mem_append_right _ (List.mem_append_right _ (List.mem_append_right _ (List.mem_append_left _ (List.mem_of_getElem? (i := 40) rfl)))))))
theorem mw_401 : (Jvm.Cond.methodLink "MeldTreeLaw" (56 : Nat) yXM_thrown) ∈ mt_all := List.mem_append_right _ (List.mem_append_right _ (List.mem_append_right _ (List.mem_append_right _ (List.mem_append_right _ (List.mem_append_right _ (List.mem_append_left _ (List.mem_of_getElem? (i := 41) rfl)))))))
theorem mw_402 : (Jvm.Cond.instanceMethod yXM_thrown) ∈ mt_all := List.mem_append_right _ (List.mem_append_right _ (List.mem_append_right _ (List.mem_append_right _ (List.mem_append_right _ (List.mem_append_right _ (List.mem_append_left _ (List.mem_of_getElem? (i := 42) rfl)))))))
theorem mw_403 : (Jvm.Cond.selects "MeldTreeModel" yXM_thrown yXM_thrown) ∈ mt_all := List.mem_append_right _ (List.mem_append_right _ (List.mem_append_right _ (List.mem_append_right _ (List.mem_append_right _ (List.mem_append_right _ (List.mem_append_left _ (List.mem_of_getElem? (i := 43) rfl)))))))
theorem mw_404 : (Jvm.Cond.code yXM_thrown prog_4_method_2_code (1 : Nat) (Option.some Jvm.ClassFile.FieldType.int)) ∈ mt_all := List.mem_append_right _ (List.mem_append_right _ (List.mem_append_right _ (List.mem_append_right _ (List.mem_append_right _ (List.mem_append_right _ (List.mem_append_left _ (List.mem_of_getElem? (i := 44) rfl)))))))
theorem mw_405 : (Jvm.Cond.methodLink "MeldTreeLaw" (55 : Nat) yXM_put) ∈ mt_all := List.mem_append_right _ (List.mem_append_right _ (List.mem_append_right _ (List.mem_append_right _ (List.mem_append_right _ (List.mem_append_right _ (List.mem_append_left _ (List.mem_of_getElem? (i := 45) rfl)))))))
theorem mw_406 : (Jvm.Cond.instanceMethod yXM_put) ∈ mt_all := List.mem_append_right _ (List.mem_append_right _ (List.mem_append_right _ (List.mem_append_right _ (List.mem_append_right _ (List.mem_append_right _ (List.mem_append_left _ (List.mem_of_getElem? (i := 46) rfl)))))))
theorem mw_407 : (Jvm.Cond.selects "MeldTreeModel" yXM_put yXM_put) ∈ mt_all := List.mem_append_right _ (List.mem_append_right _ (List.mem_append_right _ (List.mem_append_right _ (List.mem_append_right _ (List.mem_append_right _ (List.mem_append_left _ (List.mem_of_getElem? (i := 47) rfl)))))))
theorem mw_408 : (Jvm.Cond.code yXM_put prog_4_method_6_code (5 : Nat) (Option.some Jvm.ClassFile.FieldType.int)) ∈ mt_all := List.mem_append_right _ (List.mem_append_right _ (List.mem_append_right _ (List.mem_append_right _ (List.mem_append_right _ (List.mem_append_right _ (List.mem_append_left _ (List.mem_of_getElem? (i := 48) rfl)))))))
theorem mw_409 : (Jvm.Cond.methodLink "MeldTreeModel" (25 : Nat) yXM_isOne) ∈ mt_all := List.mem_append_right _ (List.mem_append_right _ (List.mem_append_right _ (List.mem_append_right _ (List.mem_append_right _ (List.mem_append_right _ (List.mem_append_left _ (List.mem_of_getElem? (i := 49) rfl)))))))
theorem mw_410 : (Jvm.Cond.instanceMethod yXM_isOne) ∈ mt_all := List.mem_append_right _ (List.mem_append_right _ (List.mem_append_right _ (List.mem_append_right _ (List.mem_append_right _ (List.mem_append_right _ (List.mem_append_left _ (List.mem_of_getElem? (i := 50) rfl)))))))
theorem mw_411 : (Jvm.Cond.code yXM_isOne prog_4_method_3_code (2 : Nat) (Option.some Jvm.ClassFile.FieldType.boolean)) ∈ mt_all := List.mem_append_right _ (List.mem_append_right _ (List.mem_append_right _ (List.mem_append_right _ (List.mem_append_right _ (List.mem_append_right _ (List.mem_append_left _ (List.mem_of_getElem? (i := 51) rfl)))))))
theorem mw_412 : (Jvm.Cond.methodLink "MeldTreeModel" (29 : Nat) yXM_isKey) ∈ mt_all := List.mem_append_right _ (List.mem_append_right _ (List.mem_append_right _ (List.mem_append_right _ (List.mem_append_right _ (List.mem_append_right _ (List.mem_append_left _ (List.mem_of_getElem? (i := 52) rfl)))))))
theorem mw_413 : (Jvm.Cond.static yXM_isKey) ∈ mt_all := List.mem_append_right _ (List.mem_append_right _ (List.mem_append_right _ (List.mem_append_right _ (List.mem_append_right _ (List.mem_append_right _ (List.mem_append_left _ (List.mem_of_getElem? (i := 53) rfl)))))))
theorem mw_414 : (Jvm.Cond.code yXM_isKey prog_4_method_4_code (1 : Nat) (Option.some Jvm.ClassFile.FieldType.boolean)) ∈ mt_all := List.mem_append_right _ (List.mem_append_right _ (List.mem_append_right _ (List.mem_append_right _ (List.mem_append_right _ (List.mem_append_right _ (List.mem_append_left _ (List.mem_of_getElem? (i := 54) rfl)))))))
theorem mw_415 : (Jvm.Cond.methodLink "MeldTreeModel" (32 : Nat) yXM_made) ∈ mt_all := List.mem_append_right _ (List.mem_append_right _ (List.mem_append_right _ (List.mem_append_right _ (List.mem_append_right _ (List.mem_append_right _ (List.mem_append_left _ (List.mem_of_getElem? (i := 55) rfl)))))))
theorem mw_416 : (Jvm.Cond.instanceMethod yXM_made) ∈ mt_all := List.mem_append_right _ (List.mem_append_right _ (List.mem_append_right _ (List.mem_append_right _ (List.mem_append_right _ (List.mem_append_right _ (List.mem_append_left _ (List.mem_of_getElem? (i := 56) rfl)))))))
theorem mw_417 : (Jvm.Cond.code yXM_made prog_4_method_5_code (7 : Nat) (Option.some Jvm.ClassFile.FieldType.int)) ∈ mt_all := List.mem_append_right _ (List.mem_append_right _ (List.mem_append_right _ (List.mem_append_right _ (List.mem_append_right _ (List.mem_append_right _ (List.mem_append_left _ (List.mem_of_getElem? (i := 57) rfl)))))))
theorem mw_418 : (Jvm.Cond.methodLink "MeldTreeLaw" (63 : Nat) yXM_remove) ∈ mt_all := List.mem_append_right _ (List.mem_append_right _ (List.mem_append_right _ (List.mem_append_right _ (List.mem_append_right _ (List.mem_append_right _ (List.mem_append_left _ (List.mem_of_getElem? (i := 58) rfl)))))))
theorem mw_419 : (Jvm.Cond.instanceMethod yXM_remove) ∈ mt_all := List.mem_append_right _ (List.mem_append_right _ (List.mem_append_right _ (List.mem_append_right _ (List.mem_append_right _ (List.mem_append_right _ (List.mem_append_left _ (List.mem_of_getElem? (i := 59) rfl)))))))
theorem mw_420 : (Jvm.Cond.selects "MeldTreeModel" yXM_remove yXM_remove) ∈ mt_all := List.mem_append_right _ (List.mem_append_right _ (List.mem_append_right _ (List.mem_append_right _ (List.mem_append_right _ (List.mem_append_right _ (List.mem_append_right _ (List.mem_of_getElem? (i := 0) rfl)))))))
theorem mw_421 : (Jvm.Cond.code yXM_remove prog_4_method_7_code (4 : Nat) (Option.some Jvm.ClassFile.FieldType.int)) ∈ mt_all := List.mem_append_right _ (List.mem_append_right _ (List.mem_append_right _ (List.mem_append_right _ (List.mem_append_right _ (List.mem_append_right _ (List.mem_append_right _ (List.mem_of_getElem? (i := 1) rfl)))))))
theorem mw_422 : (Jvm.Cond.methodLink "MeldTreeLaw" (66 : Nat) yXM_join) ∈ mt_all := List.mem_append_right _ (List.mem_append_right _ (List.mem_append_right _ (List.mem_append_right _ (List.mem_append_right _ (List.mem_append_right _ (List.mem_append_right _ (List.mem_of_getElem? (i := 2) rfl)))))))
theorem mw_423 : (Jvm.Cond.instanceMethod yXM_join) ∈ mt_all := List.mem_append_right _ (List.mem_append_right _ (List.mem_append_right _ (List.mem_append_right _ (List.mem_append_right _ (List.mem_append_right _ (List.mem_append_right _ (List.mem_of_getElem? (i := 3) rfl)))))))
theorem mw_424 : (Jvm.Cond.selects "MeldTreeModel" yXM_join yXM_join) ∈ mt_all := List.mem_append_right _ (List.mem_append_right _ (List.mem_append_right _ (List.mem_append_right _ (List.mem_append_right _ (List.mem_append_right _ (List.mem_append_right _ (List.mem_of_getElem? (i := 4) rfl)))))))
theorem mw_425 : (Jvm.Cond.code yXM_join prog_4_method_8_code (4 : Nat) (Option.some Jvm.ClassFile.FieldType.int)) ∈ mt_all := List.mem_append_right _ (List.mem_append_right _ (List.mem_append_right _ (List.mem_append_right _ (List.mem_append_right _ (List.mem_append_right _ (List.mem_append_right _ (List.mem_of_getElem? (i := 5) rfl)))))))
theorem mw_426 : (Jvm.Cond.methodLink "MeldTreeLaw" (69 : Nat) yXM_get) ∈ mt_all := List.mem_append_right _ (List.mem_append_right _ (List.mem_append_right _ (List.mem_append_right _ (List.mem_append_right _ (List.mem_append_right _ (List.mem_append_right _ (List.mem_of_getElem? (i := 6) rfl)))))))
theorem mw_427 : (Jvm.Cond.instanceMethod yXM_get) ∈ mt_all := List.mem_append_right _ (List.mem_append_right _ (List.mem_append_right _ (List.mem_append_right _ (List.mem_append_right _ (List.mem_append_right _ (List.mem_append_right _ (List.mem_of_getElem? (i := 7) rfl)))))))
theorem mw_428 : (Jvm.Cond.selects "MeldTreeModel" yXM_get yXM_get) ∈ mt_all := List.mem_append_right _ (List.mem_append_right _ (List.mem_append_right _ (List.mem_append_right _ (List.mem_append_right _ (List.mem_append_right _ (List.mem_append_right _ (List.mem_of_getElem? (i := 8) rfl)))))))
theorem mw_429 : (Jvm.Cond.code yXM_get prog_4_method_9_code (3 : Nat) (Option.some Jvm.ClassFile.FieldType.int)) ∈ mt_all := List.mem_append_right _ (List.mem_append_right _ (List.mem_append_right _ (List.mem_append_right _ (List.mem_append_right _ (List.mem_append_right _ (List.mem_append_right _ (List.mem_of_getElem? (i := 9) rfl)))))))
theorem mw_430 : (Jvm.Cond.methodLink "MeldTreeLaw" (72 : Nat) yXM_select) ∈ mt_all := List.mem_append_right _ (List.mem_append_right _ (List.mem_append_right _ (List.mem_append_right _ (List.mem_append_right _ (List.mem_append_right _ (List.mem_append_right _ (List.mem_of_getElem? (i := 10) rfl)))))))
theorem mw_431 : (Jvm.Cond.instanceMethod yXM_select) ∈ mt_all := List.mem_append_right _ (List.mem_append_right _ (List.mem_append_right _ (List.mem_append_right _ (List.mem_append_right _ (List.mem_append_right _ (List.mem_append_right _ (List.mem_of_getElem? (i := 11) rfl)))))))
theorem mw_432 : (Jvm.Cond.selects "MeldTreeModel" yXM_select yXM_select) ∈ mt_all := List.mem_append_right _ (List.mem_append_right _ (List.mem_append_right _ (List.mem_append_right _ (List.mem_append_right _ (List.mem_append_right _ (List.mem_append_right _ (List.mem_of_getElem? (i := 12) rfl)))))))
theorem mw_433 : (Jvm.Cond.code yXM_select prog_4_method_10_code (5 : Nat) (Option.some Jvm.ClassFile.FieldType.int)) ∈ mt_all := List.mem_append_right _ (List.mem_append_right _ (List.mem_append_right _ (List.mem_append_right _ (List.mem_append_right _ (List.mem_append_right _ (List.mem_append_right _ (List.mem_of_getElem? (i := 13) rfl)))))))
theorem mw_434 : (Jvm.Cond.methodLink "MeldTreeLaw" (75 : Nat) yXM_many) ∈ mt_all := List.mem_append_right _ (List.mem_append_right _ (List.mem_append_right _ (List.mem_append_right _ (List.mem_append_right _ (List.mem_append_right _ (List.mem_append_right _ (List.mem_of_getElem? (i := 14) rfl)))))))
theorem mw_435 : (Jvm.Cond.instanceMethod yXM_many) ∈ mt_all := List.mem_append_right _ (List.mem_append_right _ (List.mem_append_right _ (List.mem_append_right _ (List.mem_append_right _ (List.mem_append_right _ (List.mem_append_right _ (List.mem_of_getElem? (i := 15) rfl)))))))
theorem mw_436 : (Jvm.Cond.selects "MeldTreeModel" yXM_many yXM_many) ∈ mt_all := List.mem_append_right _ (List.mem_append_right _ (List.mem_append_right _ (List.mem_append_right _ (List.mem_append_right _ (List.mem_append_right _ (List.mem_append_right _ (List.mem_of_getElem? (i := 16) rfl)))))))
theorem mw_437 : (Jvm.Cond.code yXM_many prog_4_method_11_code (6 : Nat) (Option.some Jvm.ClassFile.FieldType.int)) ∈ mt_all := List.mem_append_right _ (List.mem_append_right _ (List.mem_append_right _ (List.mem_append_right _ (List.mem_append_right _ (List.mem_append_right _ (List.mem_append_right _ (List.mem_of_getElem? (i := 17) rfl)))))))
theorem mw_438 : (Jvm.Cond.methodLink "MeldTreeLaw" (78 : Nat) yXM_sum) ∈ mt_all := List.mem_append_right _ (List.mem_append_right _ (List.mem_append_right _ (List.mem_append_right _ (List.mem_append_right _ (List.mem_append_right _ (List.mem_append_right _ (List.mem_of_getElem? (i := 18) rfl)))))))
theorem mw_439 : (Jvm.Cond.instanceMethod yXM_sum) ∈ mt_all := List.mem_append_right _ (List.mem_append_right _ (List.mem_append_right _ (List.mem_append_right _ (List.mem_append_right _ (List.mem_append_right _ (List.mem_append_right _ (List.mem_of_getElem? (i := 19) rfl)))))))
theorem mw_440 : (Jvm.Cond.selects "MeldTreeModel" yXM_sum yXM_sum) ∈ mt_all := List.mem_append_right _ (List.mem_append_right _ (List.mem_append_right _ (List.mem_append_right _ (List.mem_append_right _ (List.mem_append_right _ (List.mem_append_right _ (List.mem_of_getElem? (i := 20) rfl)))))))
theorem mw_441 : (Jvm.Cond.code yXM_sum prog_4_method_12_code (7 : Nat) (Option.some Jvm.ClassFile.FieldType.long)) ∈ mt_all := List.mem_append_right _ (List.mem_append_right _ (List.mem_append_right _ (List.mem_append_right _ (List.mem_append_right _ (List.mem_append_right _ (List.mem_append_right _ (List.mem_of_getElem? (i := 21) rfl)))))))
theorem mw_442 : (Jvm.Cond.methodLink "MeldTreeLaw" (81 : Nat) yXM_differ) ∈ mt_all := List.mem_append_right _ (List.mem_append_right _ (List.mem_append_right _ (List.mem_append_right _ (List.mem_append_right _ (List.mem_append_right _ (List.mem_append_right _ (List.mem_of_getElem? (i := 22) rfl)))))))
theorem mw_443 : (Jvm.Cond.instanceMethod yXM_differ) ∈ mt_all := List.mem_append_right _ (List.mem_append_right _ (List.mem_append_right _ (List.mem_append_right _ (List.mem_append_right _ (List.mem_append_right _ (List.mem_append_right _ (List.mem_of_getElem? (i := 23) rfl)))))))
theorem mw_444 : (Jvm.Cond.selects "MeldTreeModel" yXM_differ yXM_differ) ∈ mt_all := List.mem_append_right _ (List.mem_append_right _ (List.mem_append_right _ (List.mem_append_right _ (List.mem_append_right _ (List.mem_append_right _ (List.mem_append_right _ (List.mem_of_getElem? (i := 24) rfl)))))))
theorem mw_445 : (Jvm.Cond.code yXM_differ prog_4_method_13_code (7 : Nat) (Option.some Jvm.ClassFile.FieldType.int)) ∈ mt_all := List.mem_append_right _ (List.mem_append_right _ (List.mem_append_right _ (List.mem_append_right _ (List.mem_append_right _ (List.mem_append_right _ (List.mem_append_right _ (List.mem_of_getElem? (i := 25) rfl)))))))
theorem mw_446 : (Jvm.Cond.methodLink "MeldTreeLaw" (85 : Nat) yXM_digest) ∈ mt_all := List.mem_append_right _ (List.mem_append_right _ (List.mem_append_right _ (List.mem_append_right _ (List.mem_append_right _ (List.mem_append_right _ (List.mem_append_right _ (List.mem_of_getElem? (i := 26) rfl)))))))
theorem mw_447 : (Jvm.Cond.instanceMethod yXM_digest) ∈ mt_all := List.mem_append_right _ (List.mem_append_right _ (List.mem_append_right _ (List.mem_append_right _ (List.mem_append_right _ (List.mem_append_right _ (List.mem_append_right _ (List.mem_of_getElem? (i := 27) rfl)))))))
theorem mw_448 : (Jvm.Cond.selects "MeldTreeModel" yXM_digest yXM_digest) ∈ mt_all := List.mem_append_right _ (List.mem_append_right _ (List.mem_append_right _ (List.mem_append_right _ (List.mem_append_right _ (List.mem_append_right _ (List.mem_append_right _ (List.mem_of_getElem? (i := 28) rfl)))))))
theorem mw_449 : (Jvm.Cond.code yXM_digest prog_4_method_14_code (5 : Nat) (Option.some Jvm.ClassFile.FieldType.long)) ∈ mt_all := List.mem_append_right _ (List.mem_append_right _ (List.mem_append_right _ (List.mem_append_right _ (List.mem_append_right _ (List.mem_append_right _ (List.mem_append_right _ (List.mem_of_getElem? (i := 29) rfl)))))))
theorem mw_450 : (Jvm.Cond.constantLong "MeldTreeModel" (36 : Nat) (7 : Int64)) ∈ mt_all := List.mem_append_right _ (List.mem_append_right _ (List.mem_append_right _ (List.mem_append_right _ (List.mem_append_right _ (List.mem_append_right _ (List.mem_append_right _ (List.mem_of_getElem? (i := 30) rfl)))))))
theorem mw_451 : (Jvm.Cond.constantLong "MeldTreeModel" (38 : Nat) (31 : Int64)) ∈ mt_all := List.mem_append_right _ (List.mem_append_right _ (List.mem_append_right _ (List.mem_append_right _ (List.mem_append_right _ (List.mem_append_right _ (List.mem_append_right _ (List.mem_of_getElem? (i := 31) rfl)))))))
theorem mw_452 : (Jvm.Cond.methodLink "MeldTreeLaw" (89 : Nat) yXM_versions) ∈ mt_all := List.mem_append_right _ (List.mem_append_right _ (List.mem_append_right _ (List.mem_append_right _ (List.mem_append_right _ (List.mem_append_right _ (List.mem_append_right _ (List.mem_of_getElem? (i := 32) rfl)))))))
theorem mw_453 : (Jvm.Cond.instanceMethod yXM_versions) ∈ mt_all := List.mem_append_right _ (List.mem_append_right _ (List.mem_append_right _ (List.mem_append_right _ (List.mem_append_right _ (List.mem_append_right _ (List.mem_append_right _ (List.mem_of_getElem? (i := 33) rfl)))))))
theorem mw_454 : (Jvm.Cond.selects "MeldTreeModel" yXM_versions yXM_versions) ∈ mt_all := List.mem_append_right _ (List.mem_append_right _ (List.mem_append_right _ (List.mem_append_right _ (List.mem_append_right _ (List.mem_append_right _ (List.mem_append_right _ (List.mem_of_getElem? (i := 34) rfl)))))))
theorem mw_455 : (Jvm.Cond.code yXM_versions prog_4_method_15_code (1 : Nat) (Option.some Jvm.ClassFile.FieldType.int)) ∈ mt_all := List.mem_append_right _ (List.mem_append_right _ (List.mem_append_right _ (List.mem_append_right _ (List.mem_append_right _ (List.mem_append_right _ (List.mem_append_right _ (List.mem_of_getElem? (i := 35) rfl)))))))
theorem mw_456 : (Jvm.Cond.methodLink "MeldTreeLaw" (93 : Nat) yXM_check) ∈ mt_all := List.mem_append_right _ (List.mem_append_right _ (List.mem_append_right _ (List.mem_append_right _ (List.mem_append_right _ (List.mem_append_right _ (List.mem_append_right _ (List.mem_of_getElem? (i := 36) rfl)))))))
theorem mw_457 : (Jvm.Cond.instanceMethod yXM_check) ∈ mt_all := List.mem_append_right _ (List.mem_append_right _ (List.mem_append_right _ (List.mem_append_right _ (List.mem_append_right _ (List.mem_append_right _ (List.mem_append_right _ (List.mem_of_getElem? (i := 37) rfl)))))))
theorem mw_458 : (Jvm.Cond.selects "MeldTreeModel" yXM_check yXM_check) ∈ mt_all := List.mem_append_right _ (List.mem_append_right _ (List.mem_append_right _ (List.mem_append_right _ (List.mem_append_right _ (List.mem_append_right _ (List.mem_append_right _ (List.mem_of_getElem? (i := 38) rfl)))))))
theorem mw_459 : (Jvm.Cond.code yXM_check prog_4_method_16_code (1 : Nat) (Option.some Jvm.ClassFile.FieldType.int)) ∈ mt_all := List.mem_append_right _ (List.mem_append_right _ (List.mem_append_right _ (List.mem_append_right _ (List.mem_append_right _ (List.mem_append_right _ (List.mem_append_right _ (List.mem_of_getElem? (i := 39) rfl)))))))
theorem mw_460 : (Jvm.Cond.arrayClass Jvm.ClassFile.FieldType.long) ∈ mt_all := List.mem_append_right _ (List.mem_append_right _ (List.mem_append_right _ (List.mem_append_right _ (List.mem_append_right _ (List.mem_append_right _ (List.mem_append_right _ (List.mem_of_getElem? (i := 40) rfl)))))))
theorem mw_461 : (Jvm.Cond.sameMethod "java/lang/Throwable" "java/lang/Throwable" "fillInStackTrace" "(I)Ljava/lang/Throwable;") ∈ mt_all := List.mem_append_right _ (List.mem_append_right _ (List.mem_append_right _ (List.mem_append_right _ (List.mem_append_right _ (List.mem_append_right _ (List.mem_append_right _ (List.mem_of_getElem? (i := 41) rfl)))))))
theorem mw_462 : (Jvm.Cond.sameMethod "[Ljava/lang/Object;" "java/lang/Object" "getClass" "()Ljava/lang/Class;") ∈ mt_all := List.mem_append_right _ (List.mem_append_right _ (List.mem_append_right _ (List.mem_append_right _ (List.mem_append_right _ (List.mem_append_right _ (List.mem_append_right _ (List.mem_of_getElem? (i := 42) rfl)))))))
theorem mw_463 : (Jvm.Cond.selects "[Ljava/lang/Object;" (⟨"java/lang/Object", "getClass", "()Ljava/lang/Class;"⟩ : MethodName) (⟨"java/lang/Object", "getClass", "()Ljava/lang/Class;"⟩ : MethodName)) ∈ mt_all := List.mem_append_right _ (List.mem_append_right _ (List.mem_append_right _ (List.mem_append_right _ (List.mem_append_right _ (List.mem_append_right _ (List.mem_append_right _ (List.mem_of_getElem? (i := 43) rfl)))))))
theorem mw_464 : (Jvm.Cond.selects "MeldTree" yXT_needVersion yXT_needVersion) ∈ mt_all := List.mem_append_right _ (List.mem_append_right _ (List.mem_append_right _ (List.mem_append_right _ (List.mem_append_right _ (List.mem_append_right _ (List.mem_append_right _ (List.mem_of_getElem? (i := 44) rfl)))))))
theorem mw_465 : (Jvm.Cond.selects "java/lang/Throwable" (⟨"java/lang/Throwable", "fillInStackTrace", "(I)Ljava/lang/Throwable;"⟩ : MethodName) (⟨"java/lang/Throwable", "fillInStackTrace", "(I)Ljava/lang/Throwable;"⟩ : MethodName)) ∈ mt_all := List.mem_append_right _ (List.mem_append_right _ (List.mem_append_right _ (List.mem_append_right _ (List.mem_append_right _ (List.mem_append_right _ (List.mem_append_right _ (List.mem_of_getElem? (i := 45) rfl)))))))
theorem mw_466 : (Jvm.Cond.selects "MeldTree" yXT_needRoom yXT_needRoom) ∈ mt_all := List.mem_append_right _ (List.mem_append_right _ (List.mem_append_right _ (List.mem_append_right _ (List.mem_append_right _ (List.mem_append_right _ (List.mem_append_right _ (List.mem_of_getElem? (i := 46) rfl)))))))
theorem mw_467 : (Jvm.Cond.selects "java/util/ArrayList" yXA_add_2 yXA_add_2) ∈ mt_all := List.mem_append_right _ (List.mem_append_right _ (List.mem_append_right _ (List.mem_append_right _ (List.mem_append_right _ (List.mem_append_right _ (List.mem_append_right _ (List.mem_of_getElem? (i := 47) rfl)))))))
theorem mw_468 : (Jvm.Cond.selects "java/util/ArrayList" yXA_grow yXA_grow) ∈ mt_all := List.mem_append_right _ (List.mem_append_right _ (List.mem_append_right _ (List.mem_append_right _ (List.mem_append_right _ (List.mem_append_right _ (List.mem_append_right _ (List.mem_of_getElem? (i := 48) rfl)))))))
theorem mw_469 : (Jvm.Cond.selects "java/util/ArrayList" yXA_grow_2 yXA_grow_2) ∈ mt_all := List.mem_append_right _ (List.mem_append_right _ (List.mem_append_right _ (List.mem_append_right _ (List.mem_append_right _ (List.mem_append_right _ (List.mem_append_right _ (List.mem_of_getElem? (i := 49) rfl)))))))
theorem mw_470 : (Jvm.Cond.selects "MeldTree" yXT_keep yXT_keep) ∈ mt_all := List.mem_append_right _ (List.mem_append_right _ (List.mem_append_right _ (List.mem_append_right _ (List.mem_append_right _ (List.mem_append_right _ (List.mem_append_right _ (List.mem_of_getElem? (i := 50) rfl)))))))
theorem mw_471 : (Jvm.Cond.selects "MeldTreeModel" yXM_isOne yXM_isOne) ∈ mt_all := List.mem_append_right _ (List.mem_append_right _ (List.mem_append_right _ (List.mem_append_right _ (List.mem_append_right _ (List.mem_append_right _ (List.mem_append_right _ (List.mem_of_getElem? (i := 51) rfl)))))))
theorem mw_472 : (Jvm.Cond.selects "MeldTreeModel" yXM_made yXM_made) ∈ mt_all := List.mem_append_right _ (List.mem_append_right _ (List.mem_append_right _ (List.mem_append_right _ (List.mem_append_right _ (List.mem_append_right _ (List.mem_append_right _ (List.mem_of_getElem? (i := 52) rfl)))))))
theorem mt_good : ∀ w ∈ mt_all, (w.onTables && w.keeps) = true ∨ ∃ ty, w = .arrayClass ty := by
  intro w hw
  unfold mt_all at hw
  rcases List.mem_append.mp hw with hw | hw
  · exact good_of_word (List.all_eq_true.mp mt_good_0 w hw)
  rcases List.mem_append.mp hw with hw | hw
  · exact good_of_word (List.all_eq_true.mp mt_good_1 w hw)
  rcases List.mem_append.mp hw with hw | hw
  · exact good_of_word (List.all_eq_true.mp mt_good_2 w hw)
  rcases List.mem_append.mp hw with hw | hw
  · exact good_of_word (List.all_eq_true.mp mt_good_3 w hw)
  rcases List.mem_append.mp hw with hw | hw
  · exact good_of_word (List.all_eq_true.mp mt_good_4 w hw)
  rcases List.mem_append.mp hw with hw | hw
  · exact good_of_word (List.all_eq_true.mp mt_good_5 w hw)
  rcases List.mem_append.mp hw with hw | hw
  · exact good_of_word (List.all_eq_true.mp mt_good_6 w hw)
  exact good_of_word (List.all_eq_true.mp mt_good_7 w hw)
theorem mt_gi {a : Cond} {y : MethodName} {c : ByteArray} {n : Nat} {r : Option FieldType} (h : Cond.code y c n r ∈ mt_all) : GoodIn (a :: mt_all) (Cond.code y c n r :: mt_all) := fun w hw => by
  rcases List.mem_cons.mp hw with rfl | h2
  · exact ⟨List.mem_cons_of_mem _ h, mt_good _ h⟩
  · exact ⟨List.mem_cons_of_mem _ h2, mt_good w h2⟩
theorem mt_giW {a : Cond} {y : MethodName} {c : ByteArray} {n : Nat} {r : Option FieldType} {hh : List (Nat × Nat × Nat × Nat)} (h : Cond.codeWith y c n r hh ∈ mt_all) : GoodIn (a :: mt_all) (Cond.codeWith y c n r hh :: mt_all) := fun w hw => by
  rcases List.mem_cons.mp hw with rfl | h2
  · exact ⟨List.mem_cons_of_mem _ h, mt_good _ h⟩
  · exact ⟨List.mem_cons_of_mem _ h2, mt_good w h2⟩
theorem mt_gl {a : Cond} {l b : List Cond} (hl : ∀ w ∈ l, w ∈ mt_all) (hb : GoodIn (a :: mt_all) b) : GoodIn (a :: mt_all) (l ++ b) := fun w hw => by
  rcases List.mem_append.mp hw with h | h
  · exact ⟨List.mem_cons_of_mem _ (hl w h), mt_good w (hl w h)⟩
  · exact hb w h
theorem mt_giS {a : Cond} {own : String} {i : Nat} {y : MethodName} {ws : List Cond} (h1 : Cond.methodLink own i y ∈ mt_all) (h2 : Cond.static y ∈ mt_all) (h3 : Cond.initialized y.cls ∈ mt_all) (h : GoodIn (a :: mt_all) ws) : GoodIn (a :: mt_all) (va_wsS own i y ws) :=
  mt_gl (List.forall_mem_cons.mpr ⟨h1, List.forall_mem_cons.mpr ⟨h2, List.forall_mem_cons.mpr ⟨h3, fun _ z => nomatch z⟩⟩⟩) h
theorem mt_giV {a : Cond} {own C : String} {i : Nat} {y : MethodName} {ws : List Cond} (h1 : Cond.methodLink own i y ∈ mt_all) (h2 : Cond.instanceMethod y ∈ mt_all) (h3 : Cond.selects C y y ∈ mt_all) (h4 : Cond.initialized C ∈ mt_all) (h : GoodIn (a :: mt_all) ws) : GoodIn (a :: mt_all) (wsV own i C y ws) :=
  mt_gl (List.forall_mem_cons.mpr ⟨h1, List.forall_mem_cons.mpr ⟨h2, List.forall_mem_cons.mpr ⟨h3, List.forall_mem_cons.mpr ⟨h4, fun _ z => nomatch z⟩⟩⟩⟩) h
theorem in_XT : ∀ w ∈ u_ws RXT TXT 3, w ∈ mt_all := List.forall_mem_cons.mpr ⟨mw_56, List.forall_mem_cons.mpr ⟨mw_58, List.forall_mem_cons.mpr ⟨mw_60, fun _ z => nomatch z⟩⟩⟩
theorem in_XN : ∀ w ∈ u_ws RXN TXN 7, w ∈ mt_all := List.forall_mem_cons.mpr ⟨mw_206, List.forall_mem_cons.mpr ⟨mw_208, List.forall_mem_cons.mpr ⟨mw_210, List.forall_mem_cons.mpr ⟨mw_212, List.forall_mem_cons.mpr ⟨mw_214, List.forall_mem_cons.mpr ⟨mw_216, List.forall_mem_cons.mpr ⟨mw_218, fun _ z => nomatch z⟩⟩⟩⟩⟩⟩⟩
theorem in_XM : ∀ w ∈ u_ws RXM TXM 4, w ∈ mt_all := List.forall_mem_cons.mpr ⟨mw_390, List.forall_mem_cons.mpr ⟨mw_392, List.forall_mem_cons.mpr ⟨mw_394, List.forall_mem_cons.mpr ⟨mw_396, fun _ z => nomatch z⟩⟩⟩⟩
theorem in_XA : ∀ w ∈ u_ws RXA TXA 3, w ∈ mt_all := List.forall_mem_cons.mpr ⟨mw_50, List.forall_mem_cons.mpr ⟨mw_46, List.forall_mem_cons.mpr ⟨mw_48, fun _ z => nomatch z⟩⟩⟩
def wsXT_init : List Cond := Cond.code yXT_init cXT_init 1 (Option.none : Option Jvm.ClassFile.FieldType) :: mt_all
def wsXA_init : List Cond := Cond.code yXA_init cXA_init 1 (Option.none : Option Jvm.ClassFile.FieldType) :: mt_all
def wsXB_init : List Cond := Cond.code yXB_init cXB_init 1 (Option.none : Option Jvm.ClassFile.FieldType) :: mt_all
def wsXC_init : List Cond := Cond.code yXC_init cXC_init 1 (Option.none : Option Jvm.ClassFile.FieldType) :: mt_all
def wsXT_versions : List Cond := Cond.code yXT_versions cXT_versions 1 (Option.some Jvm.ClassFile.FieldType.int) :: mt_all
def wsXT_check : List Cond := Cond.code yXT_check cXT_check 3 (Option.some Jvm.ClassFile.FieldType.int) :: mt_all
def wsXT_isAt : List Cond := Cond.code yXT_isAt cXT_isAt 3 (Option.some Jvm.ClassFile.FieldType.boolean) :: mt_all
def wsXA_size : List Cond := Cond.code yXA_size cXA_size 1 (Option.some Jvm.ClassFile.FieldType.int) :: mt_all
def wsXA_get : List Cond := Cond.code yXA_get cXA_get 2 (Option.some (Jvm.ClassFile.FieldType.object "java/lang/Object")) :: mt_all
def wsXO_checkIndex : List Cond := Cond.code yXO_checkIndex cXO_checkIndex 2 (Option.some Jvm.ClassFile.FieldType.int) :: mt_all
def wsXP_checkIndex : List Cond := Cond.code yXP_checkIndex cXP_checkIndex 3 (Option.some Jvm.ClassFile.FieldType.int) :: mt_all
def wsXA_elementData : List Cond := Cond.code yXA_elementData cXA_elementData 2 (Option.some (Jvm.ClassFile.FieldType.object "java/lang/Object")) :: mt_all
def wsXT_faultsOf : List Cond := Cond.code yXT_faultsOf cXT_faultsOf 1 (Option.some Jvm.ClassFile.FieldType.int) :: mt_all
def wsXT_faultsOfLeaf : List Cond := Cond.code yXT_faultsOfLeaf cXT_faultsOfLeaf 2 (Option.some Jvm.ClassFile.FieldType.int) :: mt_all
def wsXT_faultsOfFork : List Cond := Cond.code yXT_faultsOfFork cXT_faultsOfFork 3 (Option.some Jvm.ClassFile.FieldType.int) :: mt_all
def wsXT_sizeOf : List Cond := Cond.code yXT_sizeOf cXT_sizeOf 1 (Option.some Jvm.ClassFile.FieldType.int) :: mt_all
def wsXT_totalOf : List Cond := Cond.code yXT_totalOf cXT_totalOf 1 (Option.some Jvm.ClassFile.FieldType.long) :: mt_all
def wsXL_put : List Cond := Cond.codeWith yXL_put cXL_put 6 (Option.some Jvm.ClassFile.FieldType.int) [(0, 12, 15, 13), (0, 12, 19, 15)] :: mt_all
def wsXT_put : List Cond := Cond.code yXT_put cXT_put 5 (Option.some Jvm.ClassFile.FieldType.int) :: mt_all
def wsXT_needVersion : List Cond := Cond.code yXT_needVersion cXT_needVersion 2 (Option.none : Option Jvm.ClassFile.FieldType) :: mt_all
def wsXT_needKey : List Cond := Cond.code yXT_needKey cXT_needKey 1 (Option.none : Option Jvm.ClassFile.FieldType) :: mt_all
def wsXT_needRoom : List Cond := Cond.code yXT_needRoom cXT_needRoom 1 (Option.none : Option Jvm.ClassFile.FieldType) :: mt_all
def wsXN_init : List Cond := Cond.code yXN_init cXN_init 3 (Option.none : Option Jvm.ClassFile.FieldType) :: mt_all
def wsXA_add : List Cond := Cond.code yXA_add cXA_add 2 (Option.some Jvm.ClassFile.FieldType.boolean) :: mt_all
def wsXA_add_2 : List Cond := Cond.code yXA_add_2 cXA_add_2 4 (Option.none : Option Jvm.ClassFile.FieldType) :: mt_all
def wsXA_grow : List Cond := Cond.code yXA_grow cXA_grow 1 (Option.some (Jvm.ClassFile.FieldType.array (Jvm.ClassFile.FieldType.object "java/lang/Object"))) :: mt_all
def wsXA_grow_2 : List Cond := Cond.code yXA_grow_2 cXA_grow_2 4 (Option.some (Jvm.ClassFile.FieldType.array (Jvm.ClassFile.FieldType.object "java/lang/Object"))) :: mt_all
def wsXS_newLength : List Cond := Cond.code yXS_newLength cXS_newLength 4 (Option.some Jvm.ClassFile.FieldType.int) :: mt_all
def wsXS_hugeLength : List Cond := Cond.code yXS_hugeLength cXS_hugeLength 3 (Option.some Jvm.ClassFile.FieldType.int) :: mt_all
def wsXR_copyOf : List Cond := Cond.code yXR_copyOf cXR_copyOf 2 (Option.some (Jvm.ClassFile.FieldType.array (Jvm.ClassFile.FieldType.object "java/lang/Object"))) :: mt_all
def wsXR_copyOf_2 : List Cond := Cond.code yXR_copyOf_2 cXR_copyOf_2 4 (Option.some (Jvm.ClassFile.FieldType.array (Jvm.ClassFile.FieldType.object "java/lang/Object"))) :: mt_all
def wsXT_meld : List Cond := Cond.code yXT_meld cXT_meld 9 (Option.some (Jvm.ClassFile.FieldType.object "MeldTree$Node")) :: mt_all
def wsXT_goesHigh : List Cond := Cond.code yXT_goesHigh cXT_goesHigh 2 (Option.some Jvm.ClassFile.FieldType.boolean) :: mt_all
def wsXT_lowOf : List Cond := Cond.code yXT_lowOf cXT_lowOf 1 (Option.some (Jvm.ClassFile.FieldType.object "MeldTree$Node")) :: mt_all
def wsXT_highOf : List Cond := Cond.code yXT_highOf cXT_highOf 1 (Option.some (Jvm.ClassFile.FieldType.object "MeldTree$Node")) :: mt_all
def wsXN_init_2 : List Cond := Cond.code yXN_init_2 cXN_init_2 5 (Option.none : Option Jvm.ClassFile.FieldType) :: mt_all
def wsXT_keep : List Cond := Cond.code yXT_keep cXT_keep 3 (Option.some Jvm.ClassFile.FieldType.int) :: mt_all
def wsXL_remove : List Cond := Cond.codeWith yXL_remove cXL_remove 5 (Option.some Jvm.ClassFile.FieldType.int) [(0, 10, 13, 13), (0, 10, 17, 15), (0, 10, 21, 21)] :: mt_all
def wsXT_remove : List Cond := Cond.code yXT_remove cXT_remove 3 (Option.some Jvm.ClassFile.FieldType.int) :: mt_all
def wsXT_leafAt : List Cond := Cond.code yXT_leafAt cXT_leafAt 4 (Option.some (Jvm.ClassFile.FieldType.object "MeldTree$Node")) :: mt_all
def wsXL_join : List Cond := Cond.codeWith yXL_join cXL_join 6 (Option.some Jvm.ClassFile.FieldType.int) [(0, 12, 15, 13), (0, 12, 19, 15)] :: mt_all
def wsXT_join : List Cond := Cond.code yXT_join cXT_join 4 (Option.some Jvm.ClassFile.FieldType.int) :: mt_all
def wsXL_get : List Cond := Cond.codeWith yXL_get cXL_get 5 (Option.some Jvm.ClassFile.FieldType.int) [(0, 10, 13, 13), (0, 10, 17, 21)] :: mt_all
def wsXT_get : List Cond := Cond.code yXT_get cXT_get 4 (Option.some Jvm.ClassFile.FieldType.int) :: mt_all
def wsXL_select : List Cond := Cond.codeWith yXL_select cXL_select 5 (Option.some Jvm.ClassFile.FieldType.int) [(0, 10, 13, 13)] :: mt_all
def wsXT_select : List Cond := Cond.code yXT_select cXT_select 3 (Option.some Jvm.ClassFile.FieldType.int) :: mt_all
def wsXT_keyAt : List Cond := Cond.code yXT_keyAt cXT_keyAt 7 (Option.some Jvm.ClassFile.FieldType.int) :: mt_all
def wsXL_many : List Cond := Cond.codeWith yXL_many cXL_many 6 (Option.some Jvm.ClassFile.FieldType.int) [(0, 12, 15, 13)] :: mt_all
def wsXT_many : List Cond := Cond.code yXT_many cXT_many 4 (Option.some Jvm.ClassFile.FieldType.int) :: mt_all
def wsXT_sizeBelow : List Cond := Cond.code yXT_sizeBelow cXT_sizeBelow 5 (Option.some Jvm.ClassFile.FieldType.int) :: mt_all
def wsXL_sum : List Cond := Cond.codeWith yXL_sum cXL_sum 6 (Option.some Jvm.ClassFile.FieldType.int) [(0, 11, 14, 13)] :: mt_all
def wsXT_sum : List Cond := Cond.code yXT_sum cXT_sum 4 (Option.some Jvm.ClassFile.FieldType.long) :: mt_all
def wsXT_totalBelow : List Cond := Cond.code yXT_totalBelow cXT_totalBelow 6 (Option.some Jvm.ClassFile.FieldType.long) :: mt_all
def wsXL_differ : List Cond := Cond.codeWith yXL_differ cXL_differ 5 (Option.some Jvm.ClassFile.FieldType.int) [(0, 10, 13, 13)] :: mt_all
def wsXT_differ : List Cond := Cond.code yXT_differ cXT_differ 3 (Option.some Jvm.ClassFile.FieldType.int) :: mt_all
def wsXT_differences : List Cond := Cond.code yXT_differences cXT_differences 3 (Option.some Jvm.ClassFile.FieldType.int) :: mt_all
def wsXL_digest : List Cond := Cond.codeWith yXL_digest cXL_digest 4 (Option.some Jvm.ClassFile.FieldType.int) [(0, 8, 11, 13)] :: mt_all
def wsXT_digest : List Cond := Cond.code yXT_digest cXT_digest 2 (Option.some Jvm.ClassFile.FieldType.long) :: mt_all
def wsXT_digestOn : List Cond := Cond.code yXT_digestOn cXT_digestOn 4 (Option.some Jvm.ClassFile.FieldType.long) :: mt_all
def wsXM_init : List Cond := Cond.code yXM_init cXM_init 1 (Option.none : Option Jvm.ClassFile.FieldType) :: mt_all
def wsXM_thrown : List Cond := Cond.code yXM_thrown cXM_thrown 1 (Option.some Jvm.ClassFile.FieldType.int) :: mt_all
def wsXM_put : List Cond := Cond.code yXM_put cXM_put 5 (Option.some Jvm.ClassFile.FieldType.int) :: mt_all
def wsXM_isOne : List Cond := Cond.code yXM_isOne cXM_isOne 2 (Option.some Jvm.ClassFile.FieldType.boolean) :: mt_all
def wsXM_isKey : List Cond := Cond.code yXM_isKey cXM_isKey 1 (Option.some Jvm.ClassFile.FieldType.boolean) :: mt_all
def wsXM_made : List Cond := Cond.code yXM_made cXM_made 7 (Option.some Jvm.ClassFile.FieldType.int) :: mt_all
def wsXM_remove : List Cond := Cond.code yXM_remove cXM_remove 4 (Option.some Jvm.ClassFile.FieldType.int) :: mt_all
def wsXM_join : List Cond := Cond.code yXM_join cXM_join 4 (Option.some Jvm.ClassFile.FieldType.int) :: mt_all
def wsXM_get : List Cond := Cond.code yXM_get cXM_get 3 (Option.some Jvm.ClassFile.FieldType.int) :: mt_all
def wsXM_select : List Cond := Cond.code yXM_select cXM_select 5 (Option.some Jvm.ClassFile.FieldType.int) :: mt_all
def wsXM_many : List Cond := Cond.code yXM_many cXM_many 6 (Option.some Jvm.ClassFile.FieldType.int) :: mt_all
def wsXM_sum : List Cond := Cond.code yXM_sum cXM_sum 7 (Option.some Jvm.ClassFile.FieldType.long) :: mt_all
def wsXM_differ : List Cond := Cond.code yXM_differ cXM_differ 7 (Option.some Jvm.ClassFile.FieldType.int) :: mt_all
def wsXM_digest : List Cond := Cond.code yXM_digest cXM_digest 5 (Option.some Jvm.ClassFile.FieldType.long) :: mt_all
def wsXM_versions : List Cond := Cond.code yXM_versions cXM_versions 1 (Option.some Jvm.ClassFile.FieldType.int) :: mt_all
def wsXM_check : List Cond := Cond.code yXM_check cXM_check 1 (Option.some Jvm.ClassFile.FieldType.int) :: mt_all
def wsXL_law : List Cond := Cond.code yXL_law cXL_law 8 (Option.some Jvm.ClassFile.FieldType.boolean) :: mt_all
end
section
theorem dXT_init_0 : decode cXT_init 0 = .ok (.aload_n 0, 1) := by decide +kernel
theorem dXT_init_1 : decode cXT_init 1 = .ok (.invokespecial 1, 3) := by decide +kernel
theorem dXT_init_4 : decode cXT_init 4 = .ok (.aload_n 0, 1) := by decide +kernel
theorem dXT_init_5 : decode cXT_init 5 = .ok (.sipush 600, 3) := by decide +kernel
theorem dXT_init_8 : decode cXT_init 8 = .ok (.anewarray 9, 3) := by decide +kernel
theorem dXT_init_11 : decode cXT_init 11 = .ok (.putfield 11, 3) := by decide +kernel
theorem dXT_init_14 : decode cXT_init 14 = .ok (.aload_n 0, 1) := by decide +kernel
theorem dXT_init_15 : decode cXT_init 15 = .ok (.new 15, 3) := by decide +kernel
theorem dXT_init_18 : decode cXT_init 18 = .ok (.dup, 1) := by decide +kernel
theorem dXT_init_19 : decode cXT_init 19 = .ok (.invokespecial 17, 3) := by decide +kernel
theorem dXT_init_22 : decode cXT_init 22 = .ok (.putfield 18, 3) := by decide +kernel
theorem dXT_init_25 : decode cXT_init 25 = .ok (.aload_n 0, 1) := by decide +kernel
theorem dXT_init_26 : decode cXT_init 26 = .ok (.iconst 1, 1) := by decide +kernel
theorem dXT_init_27 : decode cXT_init 27 = .ok (.putfield 22, 3) := by decide +kernel
theorem dXT_init_30 : decode cXT_init 30 = .ok (.return_, 1) := by decide +kernel
theorem dXT_versions_0 : decode cXT_versions 0 = .ok (.aload_n 0, 1) := by decide +kernel
theorem dXT_versions_1 : decode cXT_versions 1 = .ok (.getfield 22, 3) := by decide +kernel
theorem dXT_versions_4 : decode cXT_versions 4 = .ok (.ireturn, 1) := by decide +kernel
theorem dXT_check_0 : decode cXT_check 0 = .ok (.iconst 0, 1) := by decide +kernel
theorem dXT_check_1 : decode cXT_check 1 = .ok (.istore_n 1, 1) := by decide +kernel
theorem dXT_check_2 : decode cXT_check 2 = .ok (.iconst 0, 1) := by decide +kernel
theorem dXT_check_3 : decode cXT_check 3 = .ok (.istore_n 2, 1) := by decide +kernel
theorem dXT_check_4 : decode cXT_check 4 = .ok (.iload_n 2, 1) := by decide +kernel
theorem dXT_check_5 : decode cXT_check 5 = .ok (.aload_n 0, 1) := by decide +kernel
theorem dXT_check_6 : decode cXT_check 6 = .ok (.getfield 22, 3) := by decide +kernel
theorem dXT_check_9 : decode cXT_check 9 = .ok (.if_icmp .ge 32, 3) := by decide +kernel
theorem dXT_check_12 : decode cXT_check 12 = .ok (.iload_n 1, 1) := by decide +kernel
theorem dXT_check_13 : decode cXT_check 13 = .ok (.aload_n 0, 1) := by decide +kernel
theorem dXT_check_14 : decode cXT_check 14 = .ok (.getfield 11, 3) := by decide +kernel
theorem dXT_check_17 : decode cXT_check 17 = .ok (.iload_n 2, 1) := by decide +kernel
theorem dXT_check_18 : decode cXT_check 18 = .ok (.aaload, 1) := by decide +kernel
theorem dXT_check_19 : decode cXT_check 19 = .ok (.bipush 8, 2) := by decide +kernel
theorem dXT_check_21 : decode cXT_check 21 = .ok (.iconst 0, 1) := by decide +kernel
theorem dXT_check_22 : decode cXT_check 22 = .ok (.invokestatic 96, 3) := by decide +kernel
theorem dXT_check_25 : decode cXT_check 25 = .ok (.ifCond .eq 7, 3) := by decide +kernel
theorem dXT_check_28 : decode cXT_check 28 = .ok (.iconst 0, 1) := by decide +kernel
theorem dXT_check_29 : decode cXT_check 29 = .ok (.goto 4, 3) := by decide +kernel
theorem dXT_check_32 : decode cXT_check 32 = .ok (.iconst 1, 1) := by decide +kernel
theorem dXT_check_33 : decode cXT_check 33 = .ok (.iadd, 1) := by decide +kernel
theorem dXT_check_34 : decode cXT_check 34 = .ok (.istore_n 1, 1) := by decide +kernel
theorem dXT_check_35 : decode cXT_check 35 = .ok (.iinc 2 1, 3) := by decide +kernel
theorem dXT_check_38 : decode cXT_check 38 = .ok (.goto (-34), 3) := by decide +kernel
theorem dXT_check_41 : decode cXT_check 41 = .ok (.iconst 0, 1) := by decide +kernel
theorem dXT_check_42 : decode cXT_check 42 = .ok (.istore_n 2, 1) := by decide +kernel
theorem dXT_check_43 : decode cXT_check 43 = .ok (.iload_n 2, 1) := by decide +kernel
theorem dXT_check_44 : decode cXT_check 44 = .ok (.aload_n 0, 1) := by decide +kernel
theorem dXT_check_45 : decode cXT_check 45 = .ok (.getfield 18, 3) := by decide +kernel
theorem dXT_check_48 : decode cXT_check 48 = .ok (.invokevirtual 100, 3) := by decide +kernel
theorem dXT_check_51 : decode cXT_check 51 = .ok (.if_icmp .ge 26, 3) := by decide +kernel
theorem dXT_check_54 : decode cXT_check 54 = .ok (.iload_n 1, 1) := by decide +kernel
theorem dXT_check_55 : decode cXT_check 55 = .ok (.aload_n 0, 1) := by decide +kernel
theorem dXT_check_56 : decode cXT_check 56 = .ok (.getfield 18, 3) := by decide +kernel
theorem dXT_check_59 : decode cXT_check 59 = .ok (.iload_n 2, 1) := by decide +kernel
theorem dXT_check_60 : decode cXT_check 60 = .ok (.invokevirtual 104, 3) := by decide +kernel
theorem dXT_check_63 : decode cXT_check 63 = .ok (.checkcast 9, 3) := by decide +kernel
theorem dXT_check_66 : decode cXT_check 66 = .ok (.invokestatic 108, 3) := by decide +kernel
theorem dXT_check_69 : decode cXT_check 69 = .ok (.iadd, 1) := by decide +kernel
theorem dXT_check_70 : decode cXT_check 70 = .ok (.istore_n 1, 1) := by decide +kernel
theorem dXT_check_71 : decode cXT_check 71 = .ok (.iinc 2 1, 3) := by decide +kernel
theorem dXT_check_74 : decode cXT_check 74 = .ok (.goto (-31), 3) := by decide +kernel
theorem dXT_check_77 : decode cXT_check 77 = .ok (.iload_n 1, 1) := by decide +kernel
theorem dXT_check_78 : decode cXT_check 78 = .ok (.ireturn, 1) := by decide +kernel
theorem dXT_isAt_0 : decode cXT_isAt 0 = .ok (.aload_n 0, 1) := by decide +kernel
theorem dXT_isAt_1 : decode cXT_isAt 1 = .ok (.ifnull 19, 3) := by decide +kernel
theorem dXT_isAt_4 : decode cXT_isAt 4 = .ok (.aload_n 0, 1) := by decide +kernel
theorem dXT_isAt_5 : decode cXT_isAt 5 = .ok (.getfield 150, 3) := by decide +kernel
theorem dXT_isAt_8 : decode cXT_isAt 8 = .ok (.iload_n 1, 1) := by decide +kernel
theorem dXT_isAt_9 : decode cXT_isAt 9 = .ok (.if_icmp .ne 15, 3) := by decide +kernel
theorem dXT_isAt_12 : decode cXT_isAt 12 = .ok (.aload_n 0, 1) := by decide +kernel
theorem dXT_isAt_13 : decode cXT_isAt 13 = .ok (.getfield 147, 3) := by decide +kernel
theorem dXT_isAt_16 : decode cXT_isAt 16 = .ok (.iload_n 2, 1) := by decide +kernel
theorem dXT_isAt_17 : decode cXT_isAt 17 = .ok (.if_icmp .ne 7, 3) := by decide +kernel
theorem dXT_isAt_20 : decode cXT_isAt 20 = .ok (.iconst 1, 1) := by decide +kernel
theorem dXT_isAt_21 : decode cXT_isAt 21 = .ok (.goto 4, 3) := by decide +kernel
theorem dXT_isAt_24 : decode cXT_isAt 24 = .ok (.iconst 0, 1) := by decide +kernel
theorem dXT_isAt_25 : decode cXT_isAt 25 = .ok (.ireturn, 1) := by decide +kernel
theorem dXT_faultsOf_0 : decode cXT_faultsOf 0 = .ok (.aload_n 0, 1) := by decide +kernel
theorem dXT_faultsOf_1 : decode cXT_faultsOf 1 = .ok (.ifnonnull 5, 3) := by decide +kernel
theorem dXT_faultsOf_4 : decode cXT_faultsOf 4 = .ok (.iconst 1, 1) := by decide +kernel
theorem dXT_faultsOf_5 : decode cXT_faultsOf 5 = .ok (.ireturn, 1) := by decide +kernel
theorem dXT_faultsOf_6 : decode cXT_faultsOf 6 = .ok (.aload_n 0, 1) := by decide +kernel
theorem dXT_faultsOf_7 : decode cXT_faultsOf 7 = .ok (.getfield 150, 3) := by decide +kernel
theorem dXT_faultsOf_10 : decode cXT_faultsOf 10 = .ok (.ifCond .gt 10, 3) := by decide +kernel
theorem dXT_faultsOf_13 : decode cXT_faultsOf 13 = .ok (.aload_n 0, 1) := by decide +kernel
theorem dXT_faultsOf_14 : decode cXT_faultsOf 14 = .ok (.invokestatic 153, 3) := by decide +kernel
theorem dXT_faultsOf_17 : decode cXT_faultsOf 17 = .ok (.goto 7, 3) := by decide +kernel
theorem dXT_faultsOf_20 : decode cXT_faultsOf 20 = .ok (.aload_n 0, 1) := by decide +kernel
theorem dXT_faultsOf_21 : decode cXT_faultsOf 21 = .ok (.invokestatic 156, 3) := by decide +kernel
theorem dXT_faultsOf_24 : decode cXT_faultsOf 24 = .ok (.ireturn, 1) := by decide +kernel
theorem dXT_faultsOfLeaf_0 : decode cXT_faultsOfLeaf 0 = .ok (.aload_n 0, 1) := by decide +kernel
theorem dXT_faultsOfLeaf_1 : decode cXT_faultsOfLeaf 1 = .ok (.getfield 138, 3) := by decide +kernel
theorem dXT_faultsOfLeaf_4 : decode cXT_faultsOfLeaf 4 = .ok (.ifnonnull 14, 3) := by decide +kernel
theorem dXT_faultsOfLeaf_7 : decode cXT_faultsOfLeaf 7 = .ok (.aload_n 0, 1) := by decide +kernel
theorem dXT_faultsOfLeaf_8 : decode cXT_faultsOfLeaf 8 = .ok (.getfield 142, 3) := by decide +kernel
theorem dXT_faultsOfLeaf_11 : decode cXT_faultsOfLeaf 11 = .ok (.ifnonnull 7, 3) := by decide +kernel
theorem dXT_faultsOfLeaf_14 : decode cXT_faultsOfLeaf 14 = .ok (.iconst 0, 1) := by decide +kernel
theorem dXT_faultsOfLeaf_15 : decode cXT_faultsOfLeaf 15 = .ok (.goto 4, 3) := by decide +kernel
theorem dXT_faultsOfLeaf_18 : decode cXT_faultsOfLeaf 18 = .ok (.iconst 1, 1) := by decide +kernel
theorem dXT_faultsOfLeaf_19 : decode cXT_faultsOfLeaf 19 = .ok (.istore_n 1, 1) := by decide +kernel
theorem dXT_faultsOfLeaf_20 : decode cXT_faultsOfLeaf 20 = .ok (.iload_n 1, 1) := by decide +kernel
theorem dXT_faultsOfLeaf_21 : decode cXT_faultsOfLeaf 21 = .ok (.aload_n 0, 1) := by decide +kernel
theorem dXT_faultsOfLeaf_22 : decode cXT_faultsOfLeaf 22 = .ok (.getfield 159, 3) := by decide +kernel
theorem dXT_faultsOfLeaf_25 : decode cXT_faultsOfLeaf 25 = .ok (.iconst 1, 1) := by decide +kernel
theorem dXT_faultsOfLeaf_26 : decode cXT_faultsOfLeaf 26 = .ok (.if_icmp .ne 7, 3) := by decide +kernel
theorem dXT_faultsOfLeaf_29 : decode cXT_faultsOfLeaf 29 = .ok (.iconst 0, 1) := by decide +kernel
theorem dXT_faultsOfLeaf_30 : decode cXT_faultsOfLeaf 30 = .ok (.goto 4, 3) := by decide +kernel
theorem dXT_faultsOfLeaf_33 : decode cXT_faultsOfLeaf 33 = .ok (.iconst 1, 1) := by decide +kernel
theorem dXT_faultsOfLeaf_34 : decode cXT_faultsOfLeaf 34 = .ok (.iadd, 1) := by decide +kernel
theorem dXT_faultsOfLeaf_35 : decode cXT_faultsOfLeaf 35 = .ok (.istore_n 1, 1) := by decide +kernel
theorem dXT_faultsOfLeaf_36 : decode cXT_faultsOfLeaf 36 = .ok (.iload_n 1, 1) := by decide +kernel
theorem dXT_faultsOfLeaf_37 : decode cXT_faultsOfLeaf 37 = .ok (.aload_n 0, 1) := by decide +kernel
theorem dXT_faultsOfLeaf_38 : decode cXT_faultsOfLeaf 38 = .ok (.getfield 161, 3) := by decide +kernel
theorem dXT_faultsOfLeaf_41 : decode cXT_faultsOfLeaf 41 = .ok (.aload_n 0, 1) := by decide +kernel
theorem dXT_faultsOfLeaf_42 : decode cXT_faultsOfLeaf 42 = .ok (.getfield 67, 3) := by decide +kernel
theorem dXT_faultsOfLeaf_45 : decode cXT_faultsOfLeaf 45 = .ok (.i2l, 1) := by decide +kernel
theorem dXT_faultsOfLeaf_46 : decode cXT_faultsOfLeaf 46 = .ok (.lcmp, 1) := by decide +kernel
theorem dXT_faultsOfLeaf_47 : decode cXT_faultsOfLeaf 47 = .ok (.ifCond .ne 7, 3) := by decide +kernel
theorem dXT_faultsOfLeaf_50 : decode cXT_faultsOfLeaf 50 = .ok (.iconst 0, 1) := by decide +kernel
theorem dXT_faultsOfLeaf_51 : decode cXT_faultsOfLeaf 51 = .ok (.goto 4, 3) := by decide +kernel
theorem dXT_faultsOfLeaf_54 : decode cXT_faultsOfLeaf 54 = .ok (.iconst 1, 1) := by decide +kernel
theorem dXT_faultsOfLeaf_55 : decode cXT_faultsOfLeaf 55 = .ok (.iadd, 1) := by decide +kernel
theorem dXT_faultsOfLeaf_56 : decode cXT_faultsOfLeaf 56 = .ok (.istore_n 1, 1) := by decide +kernel
theorem dXT_faultsOfLeaf_57 : decode cXT_faultsOfLeaf 57 = .ok (.iload_n 1, 1) := by decide +kernel
theorem dXT_faultsOfLeaf_58 : decode cXT_faultsOfLeaf 58 = .ok (.ireturn, 1) := by decide +kernel
theorem dXT_faultsOfFork_0 : decode cXT_faultsOfFork 0 = .ok (.aload_n 0, 1) := by decide +kernel
theorem dXT_faultsOfFork_1 : decode cXT_faultsOfFork 1 = .ok (.getfield 150, 3) := by decide +kernel
theorem dXT_faultsOfFork_4 : decode cXT_faultsOfFork 4 = .ok (.iconst 1, 1) := by decide +kernel
theorem dXT_faultsOfFork_5 : decode cXT_faultsOfFork 5 = .ok (.isub, 1) := by decide +kernel
theorem dXT_faultsOfFork_6 : decode cXT_faultsOfFork 6 = .ok (.istore_n 1, 1) := by decide +kernel
theorem dXT_faultsOfFork_7 : decode cXT_faultsOfFork 7 = .ok (.aload_n 0, 1) := by decide +kernel
theorem dXT_faultsOfFork_8 : decode cXT_faultsOfFork 8 = .ok (.getfield 138, 3) := by decide +kernel
theorem dXT_faultsOfFork_11 : decode cXT_faultsOfFork 11 = .ok (.iload_n 1, 1) := by decide +kernel
theorem dXT_faultsOfFork_12 : decode cXT_faultsOfFork 12 = .ok (.aload_n 0, 1) := by decide +kernel
theorem dXT_faultsOfFork_13 : decode cXT_faultsOfFork 13 = .ok (.getfield 147, 3) := by decide +kernel
theorem dXT_faultsOfFork_16 : decode cXT_faultsOfFork 16 = .ok (.invokestatic 96, 3) := by decide +kernel
theorem dXT_faultsOfFork_19 : decode cXT_faultsOfFork 19 = .ok (.ifCond .eq 7, 3) := by decide +kernel
theorem dXT_faultsOfFork_22 : decode cXT_faultsOfFork 22 = .ok (.iconst 0, 1) := by decide +kernel
theorem dXT_faultsOfFork_23 : decode cXT_faultsOfFork 23 = .ok (.goto 4, 3) := by decide +kernel
theorem dXT_faultsOfFork_26 : decode cXT_faultsOfFork 26 = .ok (.iconst 1, 1) := by decide +kernel
theorem dXT_faultsOfFork_27 : decode cXT_faultsOfFork 27 = .ok (.istore_n 2, 1) := by decide +kernel
theorem dXT_faultsOfFork_28 : decode cXT_faultsOfFork 28 = .ok (.iload_n 2, 1) := by decide +kernel
theorem dXT_faultsOfFork_29 : decode cXT_faultsOfFork 29 = .ok (.aload_n 0, 1) := by decide +kernel
theorem dXT_faultsOfFork_30 : decode cXT_faultsOfFork 30 = .ok (.getfield 142, 3) := by decide +kernel
theorem dXT_faultsOfFork_33 : decode cXT_faultsOfFork 33 = .ok (.iload_n 1, 1) := by decide +kernel
theorem dXT_faultsOfFork_34 : decode cXT_faultsOfFork 34 = .ok (.aload_n 0, 1) := by decide +kernel
theorem dXT_faultsOfFork_35 : decode cXT_faultsOfFork 35 = .ok (.getfield 147, 3) := by decide +kernel
theorem dXT_faultsOfFork_38 : decode cXT_faultsOfFork 38 = .ok (.iconst 1, 1) := by decide +kernel
theorem dXT_faultsOfFork_39 : decode cXT_faultsOfFork 39 = .ok (.iload_n 1, 1) := by decide +kernel
theorem dXT_faultsOfFork_40 : decode cXT_faultsOfFork 40 = .ok (.ishl, 1) := by decide +kernel
theorem dXT_faultsOfFork_41 : decode cXT_faultsOfFork 41 = .ok (.iadd, 1) := by decide +kernel
theorem dXT_faultsOfFork_42 : decode cXT_faultsOfFork 42 = .ok (.invokestatic 96, 3) := by decide +kernel
theorem dXT_faultsOfFork_45 : decode cXT_faultsOfFork 45 = .ok (.ifCond .eq 7, 3) := by decide +kernel
theorem dXT_faultsOfFork_48 : decode cXT_faultsOfFork 48 = .ok (.iconst 0, 1) := by decide +kernel
theorem dXT_faultsOfFork_49 : decode cXT_faultsOfFork 49 = .ok (.goto 4, 3) := by decide +kernel
theorem dXT_faultsOfFork_52 : decode cXT_faultsOfFork 52 = .ok (.iconst 1, 1) := by decide +kernel
theorem dXT_faultsOfFork_53 : decode cXT_faultsOfFork 53 = .ok (.iadd, 1) := by decide +kernel
theorem dXT_faultsOfFork_54 : decode cXT_faultsOfFork 54 = .ok (.istore_n 2, 1) := by decide +kernel
theorem dXT_faultsOfFork_55 : decode cXT_faultsOfFork 55 = .ok (.iload_n 2, 1) := by decide +kernel
theorem dXT_faultsOfFork_56 : decode cXT_faultsOfFork 56 = .ok (.aload_n 0, 1) := by decide +kernel
theorem dXT_faultsOfFork_57 : decode cXT_faultsOfFork 57 = .ok (.getfield 138, 3) := by decide +kernel
theorem dXT_faultsOfFork_60 : decode cXT_faultsOfFork 60 = .ok (.ifnonnull 14, 3) := by decide +kernel
theorem dXT_faultsOfFork_63 : decode cXT_faultsOfFork 63 = .ok (.aload_n 0, 1) := by decide +kernel
theorem dXT_faultsOfFork_64 : decode cXT_faultsOfFork 64 = .ok (.getfield 142, 3) := by decide +kernel
theorem dXT_faultsOfFork_67 : decode cXT_faultsOfFork 67 = .ok (.ifnonnull 7, 3) := by decide +kernel
theorem dXT_faultsOfFork_70 : decode cXT_faultsOfFork 70 = .ok (.iconst 1, 1) := by decide +kernel
theorem dXT_faultsOfFork_71 : decode cXT_faultsOfFork 71 = .ok (.goto 4, 3) := by decide +kernel
theorem dXT_faultsOfFork_74 : decode cXT_faultsOfFork 74 = .ok (.iconst 0, 1) := by decide +kernel
theorem dXT_faultsOfFork_75 : decode cXT_faultsOfFork 75 = .ok (.iadd, 1) := by decide +kernel
theorem dXT_faultsOfFork_76 : decode cXT_faultsOfFork 76 = .ok (.istore_n 2, 1) := by decide +kernel
theorem dXT_faultsOfFork_77 : decode cXT_faultsOfFork 77 = .ok (.iload_n 2, 1) := by decide +kernel
theorem dXT_faultsOfFork_78 : decode cXT_faultsOfFork 78 = .ok (.aload_n 0, 1) := by decide +kernel
theorem dXT_faultsOfFork_79 : decode cXT_faultsOfFork 79 = .ok (.getfield 159, 3) := by decide +kernel
theorem dXT_faultsOfFork_82 : decode cXT_faultsOfFork 82 = .ok (.aload_n 0, 1) := by decide +kernel
theorem dXT_faultsOfFork_83 : decode cXT_faultsOfFork 83 = .ok (.getfield 138, 3) := by decide +kernel
theorem dXT_faultsOfFork_86 : decode cXT_faultsOfFork 86 = .ok (.invokestatic 70, 3) := by decide +kernel
theorem dXT_faultsOfFork_89 : decode cXT_faultsOfFork 89 = .ok (.aload_n 0, 1) := by decide +kernel
theorem dXT_faultsOfFork_90 : decode cXT_faultsOfFork 90 = .ok (.getfield 142, 3) := by decide +kernel
theorem dXT_faultsOfFork_93 : decode cXT_faultsOfFork 93 = .ok (.invokestatic 70, 3) := by decide +kernel
theorem dXT_faultsOfFork_96 : decode cXT_faultsOfFork 96 = .ok (.iadd, 1) := by decide +kernel
theorem dXT_faultsOfFork_97 : decode cXT_faultsOfFork 97 = .ok (.if_icmp .ne 7, 3) := by decide +kernel
theorem dXT_faultsOfFork_100 : decode cXT_faultsOfFork 100 = .ok (.iconst 0, 1) := by decide +kernel
theorem dXT_faultsOfFork_101 : decode cXT_faultsOfFork 101 = .ok (.goto 4, 3) := by decide +kernel
theorem dXT_faultsOfFork_104 : decode cXT_faultsOfFork 104 = .ok (.iconst 1, 1) := by decide +kernel
theorem dXT_faultsOfFork_105 : decode cXT_faultsOfFork 105 = .ok (.iadd, 1) := by decide +kernel
theorem dXT_faultsOfFork_106 : decode cXT_faultsOfFork 106 = .ok (.istore_n 2, 1) := by decide +kernel
theorem dXT_faultsOfFork_107 : decode cXT_faultsOfFork 107 = .ok (.iload_n 2, 1) := by decide +kernel
theorem dXT_faultsOfFork_108 : decode cXT_faultsOfFork 108 = .ok (.aload_n 0, 1) := by decide +kernel
theorem dXT_faultsOfFork_109 : decode cXT_faultsOfFork 109 = .ok (.getfield 161, 3) := by decide +kernel
theorem dXT_faultsOfFork_112 : decode cXT_faultsOfFork 112 = .ok (.aload_n 0, 1) := by decide +kernel
theorem dXT_faultsOfFork_113 : decode cXT_faultsOfFork 113 = .ok (.getfield 138, 3) := by decide +kernel
theorem dXT_faultsOfFork_116 : decode cXT_faultsOfFork 116 = .ok (.invokestatic 134, 3) := by decide +kernel
theorem dXT_faultsOfFork_119 : decode cXT_faultsOfFork 119 = .ok (.aload_n 0, 1) := by decide +kernel
theorem dXT_faultsOfFork_120 : decode cXT_faultsOfFork 120 = .ok (.getfield 142, 3) := by decide +kernel
theorem dXT_faultsOfFork_123 : decode cXT_faultsOfFork 123 = .ok (.invokestatic 134, 3) := by decide +kernel
theorem dXT_faultsOfFork_126 : decode cXT_faultsOfFork 126 = .ok (.ladd, 1) := by decide +kernel
theorem dXT_faultsOfFork_127 : decode cXT_faultsOfFork 127 = .ok (.lcmp, 1) := by decide +kernel
theorem dXT_faultsOfFork_128 : decode cXT_faultsOfFork 128 = .ok (.ifCond .ne 7, 3) := by decide +kernel
theorem dXT_faultsOfFork_131 : decode cXT_faultsOfFork 131 = .ok (.iconst 0, 1) := by decide +kernel
theorem dXT_faultsOfFork_132 : decode cXT_faultsOfFork 132 = .ok (.goto 4, 3) := by decide +kernel
theorem dXT_faultsOfFork_135 : decode cXT_faultsOfFork 135 = .ok (.iconst 1, 1) := by decide +kernel
theorem dXT_faultsOfFork_136 : decode cXT_faultsOfFork 136 = .ok (.iadd, 1) := by decide +kernel
theorem dXT_faultsOfFork_137 : decode cXT_faultsOfFork 137 = .ok (.istore_n 2, 1) := by decide +kernel
theorem dXT_faultsOfFork_138 : decode cXT_faultsOfFork 138 = .ok (.iload_n 2, 1) := by decide +kernel
theorem dXT_faultsOfFork_139 : decode cXT_faultsOfFork 139 = .ok (.ireturn, 1) := by decide +kernel
theorem dXT_sizeOf_0 : decode cXT_sizeOf 0 = .ok (.aload_n 0, 1) := by decide +kernel
theorem dXT_sizeOf_1 : decode cXT_sizeOf 1 = .ok (.ifnonnull 7, 3) := by decide +kernel
theorem dXT_sizeOf_4 : decode cXT_sizeOf 4 = .ok (.iconst 0, 1) := by decide +kernel
theorem dXT_sizeOf_5 : decode cXT_sizeOf 5 = .ok (.goto 7, 3) := by decide +kernel
theorem dXT_sizeOf_8 : decode cXT_sizeOf 8 = .ok (.aload_n 0, 1) := by decide +kernel
theorem dXT_sizeOf_9 : decode cXT_sizeOf 9 = .ok (.getfield 159, 3) := by decide +kernel
theorem dXT_sizeOf_12 : decode cXT_sizeOf 12 = .ok (.ireturn, 1) := by decide +kernel
theorem dXT_totalOf_0 : decode cXT_totalOf 0 = .ok (.aload_n 0, 1) := by decide +kernel
theorem dXT_totalOf_1 : decode cXT_totalOf 1 = .ok (.ifnonnull 7, 3) := by decide +kernel
theorem dXT_totalOf_4 : decode cXT_totalOf 4 = .ok (.lconst 0, 1) := by decide +kernel
theorem dXT_totalOf_5 : decode cXT_totalOf 5 = .ok (.goto 7, 3) := by decide +kernel
theorem dXT_totalOf_8 : decode cXT_totalOf 8 = .ok (.aload_n 0, 1) := by decide +kernel
theorem dXT_totalOf_9 : decode cXT_totalOf 9 = .ok (.getfield 161, 3) := by decide +kernel
theorem dXT_totalOf_12 : decode cXT_totalOf 12 = .ok (.lreturn, 1) := by decide +kernel
theorem dXT_put_0 : decode cXT_put 0 = .ok (.aload_n 0, 1) := by decide +kernel
theorem dXT_put_1 : decode cXT_put 1 = .ok (.iload_n 1, 1) := by decide +kernel
theorem dXT_put_2 : decode cXT_put 2 = .ok (.invokevirtual 26, 3) := by decide +kernel
theorem dXT_put_5 : decode cXT_put 5 = .ok (.iload_n 2, 1) := by decide +kernel
theorem dXT_put_6 : decode cXT_put 6 = .ok (.invokestatic 30, 3) := by decide +kernel
theorem dXT_put_9 : decode cXT_put 9 = .ok (.aload_n 0, 1) := by decide +kernel
theorem dXT_put_10 : decode cXT_put 10 = .ok (.invokevirtual 33, 3) := by decide +kernel
theorem dXT_put_13 : decode cXT_put 13 = .ok (.new 9, 3) := by decide +kernel
theorem dXT_put_16 : decode cXT_put 16 = .ok (.dup, 1) := by decide +kernel
theorem dXT_put_17 : decode cXT_put 17 = .ok (.iload_n 2, 1) := by decide +kernel
theorem dXT_put_18 : decode cXT_put 18 = .ok (.iload_n 3, 1) := by decide +kernel
theorem dXT_put_19 : decode cXT_put 19 = .ok (.invokespecial 36, 3) := by decide +kernel
theorem dXT_put_22 : decode cXT_put 22 = .ok (.astore 4, 2) := by decide +kernel
theorem dXT_put_24 : decode cXT_put 24 = .ok (.aload_n 0, 1) := by decide +kernel
theorem dXT_put_25 : decode cXT_put 25 = .ok (.getfield 18, 3) := by decide +kernel
theorem dXT_put_28 : decode cXT_put 28 = .ok (.aload 4, 2) := by decide +kernel
theorem dXT_put_30 : decode cXT_put 30 = .ok (.invokevirtual 39, 3) := by decide +kernel
theorem dXT_put_33 : decode cXT_put 33 = .ok (.pop, 1) := by decide +kernel
theorem dXT_put_34 : decode cXT_put 34 = .ok (.aload_n 0, 1) := by decide +kernel
theorem dXT_put_35 : decode cXT_put 35 = .ok (.aload_n 0, 1) := by decide +kernel
theorem dXT_put_36 : decode cXT_put 36 = .ok (.getfield 11, 3) := by decide +kernel
theorem dXT_put_39 : decode cXT_put 39 = .ok (.iload_n 1, 1) := by decide +kernel
theorem dXT_put_40 : decode cXT_put 40 = .ok (.aaload, 1) := by decide +kernel
theorem dXT_put_41 : decode cXT_put 41 = .ok (.aload_n 0, 1) := by decide +kernel
theorem dXT_put_42 : decode cXT_put 42 = .ok (.getfield 11, 3) := by decide +kernel
theorem dXT_put_45 : decode cXT_put 45 = .ok (.iload_n 1, 1) := by decide +kernel
theorem dXT_put_46 : decode cXT_put 46 = .ok (.aaload, 1) := by decide +kernel
theorem dXT_put_47 : decode cXT_put 47 = .ok (.bipush 8, 2) := by decide +kernel
theorem dXT_put_49 : decode cXT_put 49 = .ok (.iload_n 2, 1) := by decide +kernel
theorem dXT_put_50 : decode cXT_put 50 = .ok (.aload 4, 2) := by decide +kernel
theorem dXT_put_52 : decode cXT_put 52 = .ok (.aload_n 0, 1) := by decide +kernel
theorem dXT_put_53 : decode cXT_put 53 = .ok (.getfield 18, 3) := by decide +kernel
theorem dXT_put_56 : decode cXT_put 56 = .ok (.invokestatic 43, 3) := by decide +kernel
theorem dXT_put_59 : decode cXT_put 59 = .ok (.invokevirtual 47, 3) := by decide +kernel
theorem dXT_put_62 : decode cXT_put 62 = .ok (.ireturn, 1) := by decide +kernel
theorem dXT_needVersion_0 : decode cXT_needVersion 0 = .ok (.iload_n 1, 1) := by decide +kernel
theorem dXT_needVersion_1 : decode cXT_needVersion 1 = .ok (.ifCond .lt 11, 3) := by decide +kernel
theorem dXT_needVersion_4 : decode cXT_needVersion 4 = .ok (.iload_n 1, 1) := by decide +kernel
theorem dXT_needVersion_5 : decode cXT_needVersion 5 = .ok (.aload_n 0, 1) := by decide +kernel
theorem dXT_needVersion_6 : decode cXT_needVersion 6 = .ok (.getfield 22, 3) := by decide +kernel
theorem dXT_needVersion_9 : decode cXT_needVersion 9 = .ok (.if_icmp .lt 13, 3) := by decide +kernel
theorem dXT_needVersion_12 : decode cXT_needVersion 12 = .ok (.new 62, 3) := by decide +kernel
theorem dXT_needVersion_15 : decode cXT_needVersion 15 = .ok (.dup, 1) := by decide +kernel
theorem dXT_needVersion_16 : decode cXT_needVersion 16 = .ok (.ldc 111, 2) := by decide +kernel
theorem dXT_needVersion_18 : decode cXT_needVersion 18 = .ok (.invokespecial 66, 3) := by decide +kernel
theorem dXT_needVersion_21 : decode cXT_needVersion 21 = .ok (.athrow, 1) := by decide +kernel
theorem dXT_needVersion_22 : decode cXT_needVersion 22 = .ok (.return_, 1) := by decide +kernel
theorem dXT_needKey_0 : decode cXT_needKey 0 = .ok (.iload_n 0, 1) := by decide +kernel
theorem dXT_needKey_1 : decode cXT_needKey 1 = .ok (.ifCond .lt 10, 3) := by decide +kernel
theorem dXT_needKey_4 : decode cXT_needKey 4 = .ok (.iload_n 0, 1) := by decide +kernel
theorem dXT_needKey_5 : decode cXT_needKey 5 = .ok (.sipush 256, 3) := by decide +kernel
theorem dXT_needKey_8 : decode cXT_needKey 8 = .ok (.if_icmp .lt 13, 3) := by decide +kernel
theorem dXT_needKey_11 : decode cXT_needKey 11 = .ok (.new 62, 3) := by decide +kernel
theorem dXT_needKey_14 : decode cXT_needKey 14 = .ok (.dup, 1) := by decide +kernel
theorem dXT_needKey_15 : decode cXT_needKey 15 = .ok (.ldc 113, 2) := by decide +kernel
theorem dXT_needKey_17 : decode cXT_needKey 17 = .ok (.invokespecial 66, 3) := by decide +kernel
theorem dXT_needKey_20 : decode cXT_needKey 20 = .ok (.athrow, 1) := by decide +kernel
theorem dXT_needKey_21 : decode cXT_needKey 21 = .ok (.return_, 1) := by decide +kernel
theorem dXT_needRoom_0 : decode cXT_needRoom 0 = .ok (.aload_n 0, 1) := by decide +kernel
theorem dXT_needRoom_1 : decode cXT_needRoom 1 = .ok (.getfield 22, 3) := by decide +kernel
theorem dXT_needRoom_4 : decode cXT_needRoom 4 = .ok (.sipush 600, 3) := by decide +kernel
theorem dXT_needRoom_7 : decode cXT_needRoom 7 = .ok (.if_icmp .lt 13, 3) := by decide +kernel
theorem dXT_needRoom_10 : decode cXT_needRoom 10 = .ok (.new 115, 3) := by decide +kernel
theorem dXT_needRoom_13 : decode cXT_needRoom 13 = .ok (.dup, 1) := by decide +kernel
theorem dXT_needRoom_14 : decode cXT_needRoom 14 = .ok (.ldc 117, 2) := by decide +kernel
theorem dXT_needRoom_16 : decode cXT_needRoom 16 = .ok (.invokespecial 119, 3) := by decide +kernel
theorem dXT_needRoom_19 : decode cXT_needRoom 19 = .ok (.athrow, 1) := by decide +kernel
theorem dXT_needRoom_20 : decode cXT_needRoom 20 = .ok (.return_, 1) := by decide +kernel
theorem dXN_init_0 : decode cXN_init 0 = .ok (.aload_n 0, 1) := by decide +kernel
theorem dXN_init_1 : decode cXN_init 1 = .ok (.invokespecial 1, 3) := by decide +kernel
theorem dXN_init_4 : decode cXN_init 4 = .ok (.aload_n 0, 1) := by decide +kernel
theorem dXN_init_5 : decode cXN_init 5 = .ok (.iconst 0, 1) := by decide +kernel
theorem dXN_init_6 : decode cXN_init 6 = .ok (.putfield 7, 3) := by decide +kernel
theorem dXN_init_9 : decode cXN_init 9 = .ok (.aload_n 0, 1) := by decide +kernel
theorem dXN_init_10 : decode cXN_init 10 = .ok (.iload_n 1, 1) := by decide +kernel
theorem dXN_init_11 : decode cXN_init 11 = .ok (.putfield 13, 3) := by decide +kernel
theorem dXN_init_14 : decode cXN_init 14 = .ok (.aload_n 0, 1) := by decide +kernel
theorem dXN_init_15 : decode cXN_init 15 = .ok (.aconst_null, 1) := by decide +kernel
theorem dXN_init_16 : decode cXN_init 16 = .ok (.putfield 16, 3) := by decide +kernel
theorem dXN_init_19 : decode cXN_init 19 = .ok (.aload_n 0, 1) := by decide +kernel
theorem dXN_init_20 : decode cXN_init 20 = .ok (.aconst_null, 1) := by decide +kernel
theorem dXN_init_21 : decode cXN_init 21 = .ok (.putfield 20, 3) := by decide +kernel
theorem dXN_init_24 : decode cXN_init 24 = .ok (.aload_n 0, 1) := by decide +kernel
theorem dXN_init_25 : decode cXN_init 25 = .ok (.iload_n 2, 1) := by decide +kernel
theorem dXN_init_26 : decode cXN_init 26 = .ok (.putfield 23, 3) := by decide +kernel
theorem dXN_init_29 : decode cXN_init 29 = .ok (.aload_n 0, 1) := by decide +kernel
theorem dXN_init_30 : decode cXN_init 30 = .ok (.iconst 1, 1) := by decide +kernel
theorem dXN_init_31 : decode cXN_init 31 = .ok (.putfield 26, 3) := by decide +kernel
theorem dXN_init_34 : decode cXN_init 34 = .ok (.aload_n 0, 1) := by decide +kernel
theorem dXN_init_35 : decode cXN_init 35 = .ok (.iload_n 2, 1) := by decide +kernel
theorem dXN_init_36 : decode cXN_init 36 = .ok (.i2l, 1) := by decide +kernel
theorem dXN_init_37 : decode cXN_init 37 = .ok (.putfield 29, 3) := by decide +kernel
theorem dXN_init_40 : decode cXN_init 40 = .ok (.return_, 1) := by decide +kernel
theorem dXT_meld_0 : decode cXT_meld 0 = .ok (.iload_n 2, 1) := by decide +kernel
theorem dXT_meld_1 : decode cXT_meld 1 = .ok (.ifCond .gt 6, 3) := by decide +kernel
theorem dXT_meld_4 : decode cXT_meld 4 = .ok (.aload 4, 2) := by decide +kernel
theorem dXT_meld_6 : decode cXT_meld 6 = .ok (.areturn, 1) := by decide +kernel
theorem dXT_meld_7 : decode cXT_meld 7 = .ok (.iload_n 3, 1) := by decide +kernel
theorem dXT_meld_8 : decode cXT_meld 8 = .ok (.iload_n 2, 1) := by decide +kernel
theorem dXT_meld_9 : decode cXT_meld 9 = .ok (.invokestatic 120, 3) := by decide +kernel
theorem dXT_meld_12 : decode cXT_meld 12 = .ok (.ifCond .eq 33, 3) := by decide +kernel
theorem dXT_meld_15 : decode cXT_meld 15 = .ok (.aload_n 0, 1) := by decide +kernel
theorem dXT_meld_16 : decode cXT_meld 16 = .ok (.invokestatic 124, 3) := by decide +kernel
theorem dXT_meld_19 : decode cXT_meld 19 = .ok (.astore 6, 2) := by decide +kernel
theorem dXT_meld_21 : decode cXT_meld 21 = .ok (.aload_n 0, 1) := by decide +kernel
theorem dXT_meld_22 : decode cXT_meld 22 = .ok (.invokestatic 128, 3) := by decide +kernel
theorem dXT_meld_25 : decode cXT_meld 25 = .ok (.aload_n 1, 1) := by decide +kernel
theorem dXT_meld_26 : decode cXT_meld 26 = .ok (.invokestatic 128, 3) := by decide +kernel
theorem dXT_meld_29 : decode cXT_meld 29 = .ok (.iload_n 2, 1) := by decide +kernel
theorem dXT_meld_30 : decode cXT_meld 30 = .ok (.iconst 1, 1) := by decide +kernel
theorem dXT_meld_31 : decode cXT_meld 31 = .ok (.isub, 1) := by decide +kernel
theorem dXT_meld_32 : decode cXT_meld 32 = .ok (.iload_n 3, 1) := by decide +kernel
theorem dXT_meld_33 : decode cXT_meld 33 = .ok (.aload 4, 2) := by decide +kernel
theorem dXT_meld_35 : decode cXT_meld 35 = .ok (.aload 5, 2) := by decide +kernel
theorem dXT_meld_37 : decode cXT_meld 37 = .ok (.invokestatic 43, 3) := by decide +kernel
theorem dXT_meld_40 : decode cXT_meld 40 = .ok (.astore 7, 2) := by decide +kernel
theorem dXT_meld_42 : decode cXT_meld 42 = .ok (.goto 30, 3) := by decide +kernel
theorem dXT_meld_45 : decode cXT_meld 45 = .ok (.aload_n 0, 1) := by decide +kernel
theorem dXT_meld_46 : decode cXT_meld 46 = .ok (.invokestatic 124, 3) := by decide +kernel
theorem dXT_meld_49 : decode cXT_meld 49 = .ok (.aload_n 1, 1) := by decide +kernel
theorem dXT_meld_50 : decode cXT_meld 50 = .ok (.invokestatic 124, 3) := by decide +kernel
theorem dXT_meld_53 : decode cXT_meld 53 = .ok (.iload_n 2, 1) := by decide +kernel
theorem dXT_meld_54 : decode cXT_meld 54 = .ok (.iconst 1, 1) := by decide +kernel
theorem dXT_meld_55 : decode cXT_meld 55 = .ok (.isub, 1) := by decide +kernel
theorem dXT_meld_56 : decode cXT_meld 56 = .ok (.iload_n 3, 1) := by decide +kernel
theorem dXT_meld_57 : decode cXT_meld 57 = .ok (.aload 4, 2) := by decide +kernel
theorem dXT_meld_59 : decode cXT_meld 59 = .ok (.aload 5, 2) := by decide +kernel
theorem dXT_meld_61 : decode cXT_meld 61 = .ok (.invokestatic 43, 3) := by decide +kernel
theorem dXT_meld_64 : decode cXT_meld 64 = .ok (.astore 6, 2) := by decide +kernel
theorem dXT_meld_66 : decode cXT_meld 66 = .ok (.aload_n 1, 1) := by decide +kernel
theorem dXT_meld_67 : decode cXT_meld 67 = .ok (.invokestatic 128, 3) := by decide +kernel
theorem dXT_meld_70 : decode cXT_meld 70 = .ok (.astore 7, 2) := by decide +kernel
theorem dXT_meld_72 : decode cXT_meld 72 = .ok (.aload 6, 2) := by decide +kernel
theorem dXT_meld_74 : decode cXT_meld 74 = .ok (.ifnonnull 10, 3) := by decide +kernel
theorem dXT_meld_77 : decode cXT_meld 77 = .ok (.aload 7, 2) := by decide +kernel
theorem dXT_meld_79 : decode cXT_meld 79 = .ok (.ifnonnull 5, 3) := by decide +kernel
theorem dXT_meld_82 : decode cXT_meld 82 = .ok (.aconst_null, 1) := by decide +kernel
theorem dXT_meld_83 : decode cXT_meld 83 = .ok (.areturn, 1) := by decide +kernel
theorem dXT_meld_84 : decode cXT_meld 84 = .ok (.new 9, 3) := by decide +kernel
theorem dXT_meld_87 : decode cXT_meld 87 = .ok (.dup, 1) := by decide +kernel
theorem dXT_meld_88 : decode cXT_meld 88 = .ok (.iload_n 2, 1) := by decide +kernel
theorem dXT_meld_89 : decode cXT_meld 89 = .ok (.iload_n 3, 1) := by decide +kernel
theorem dXT_meld_90 : decode cXT_meld 90 = .ok (.aload 6, 2) := by decide +kernel
theorem dXT_meld_92 : decode cXT_meld 92 = .ok (.aload 7, 2) := by decide +kernel
theorem dXT_meld_94 : decode cXT_meld 94 = .ok (.invokespecial 131, 3) := by decide +kernel
theorem dXT_meld_97 : decode cXT_meld 97 = .ok (.astore 8, 2) := by decide +kernel
theorem dXT_meld_99 : decode cXT_meld 99 = .ok (.aload 5, 2) := by decide +kernel
theorem dXT_meld_101 : decode cXT_meld 101 = .ok (.aload 8, 2) := by decide +kernel
theorem dXT_meld_103 : decode cXT_meld 103 = .ok (.invokevirtual 39, 3) := by decide +kernel
theorem dXT_meld_106 : decode cXT_meld 106 = .ok (.pop, 1) := by decide +kernel
theorem dXT_meld_107 : decode cXT_meld 107 = .ok (.aload 8, 2) := by decide +kernel
theorem dXT_meld_109 : decode cXT_meld 109 = .ok (.areturn, 1) := by decide +kernel
theorem dXT_goesHigh_0 : decode cXT_goesHigh 0 = .ok (.iload_n 0, 1) := by decide +kernel
theorem dXT_goesHigh_1 : decode cXT_goesHigh 1 = .ok (.iload_n 1, 1) := by decide +kernel
theorem dXT_goesHigh_2 : decode cXT_goesHigh 2 = .ok (.iconst 1, 1) := by decide +kernel
theorem dXT_goesHigh_3 : decode cXT_goesHigh 3 = .ok (.isub, 1) := by decide +kernel
theorem dXT_goesHigh_4 : decode cXT_goesHigh 4 = .ok (.ishr, 1) := by decide +kernel
theorem dXT_goesHigh_5 : decode cXT_goesHigh 5 = .ok (.iconst 1, 1) := by decide +kernel
theorem dXT_goesHigh_6 : decode cXT_goesHigh 6 = .ok (.iand, 1) := by decide +kernel
theorem dXT_goesHigh_7 : decode cXT_goesHigh 7 = .ok (.iconst 1, 1) := by decide +kernel
theorem dXT_goesHigh_8 : decode cXT_goesHigh 8 = .ok (.if_icmp .ne 7, 3) := by decide +kernel
theorem dXT_goesHigh_11 : decode cXT_goesHigh 11 = .ok (.iconst 1, 1) := by decide +kernel
theorem dXT_goesHigh_12 : decode cXT_goesHigh 12 = .ok (.goto 4, 3) := by decide +kernel
theorem dXT_goesHigh_15 : decode cXT_goesHigh 15 = .ok (.iconst 0, 1) := by decide +kernel
theorem dXT_goesHigh_16 : decode cXT_goesHigh 16 = .ok (.ireturn, 1) := by decide +kernel
theorem dXT_lowOf_0 : decode cXT_lowOf 0 = .ok (.aload_n 0, 1) := by decide +kernel
theorem dXT_lowOf_1 : decode cXT_lowOf 1 = .ok (.ifnonnull 7, 3) := by decide +kernel
theorem dXT_lowOf_4 : decode cXT_lowOf 4 = .ok (.aconst_null, 1) := by decide +kernel
theorem dXT_lowOf_5 : decode cXT_lowOf 5 = .ok (.goto 7, 3) := by decide +kernel
theorem dXT_lowOf_8 : decode cXT_lowOf 8 = .ok (.aload_n 0, 1) := by decide +kernel
theorem dXT_lowOf_9 : decode cXT_lowOf 9 = .ok (.getfield 138, 3) := by decide +kernel
theorem dXT_lowOf_12 : decode cXT_lowOf 12 = .ok (.areturn, 1) := by decide +kernel
theorem dXT_highOf_0 : decode cXT_highOf 0 = .ok (.aload_n 0, 1) := by decide +kernel
theorem dXT_highOf_1 : decode cXT_highOf 1 = .ok (.ifnonnull 7, 3) := by decide +kernel
theorem dXT_highOf_4 : decode cXT_highOf 4 = .ok (.aconst_null, 1) := by decide +kernel
theorem dXT_highOf_5 : decode cXT_highOf 5 = .ok (.goto 7, 3) := by decide +kernel
theorem dXT_highOf_8 : decode cXT_highOf 8 = .ok (.aload_n 0, 1) := by decide +kernel
theorem dXT_highOf_9 : decode cXT_highOf 9 = .ok (.getfield 142, 3) := by decide +kernel
theorem dXT_highOf_12 : decode cXT_highOf 12 = .ok (.areturn, 1) := by decide +kernel
theorem dXN_init_2_0 : decode cXN_init_2 0 = .ok (.aload_n 0, 1) := by decide +kernel
theorem dXN_init_2_1 : decode cXN_init_2 1 = .ok (.invokespecial 1, 3) := by decide +kernel
theorem dXN_init_2_4 : decode cXN_init_2 4 = .ok (.aload_n 0, 1) := by decide +kernel
theorem dXN_init_2_5 : decode cXN_init_2 5 = .ok (.iload_n 1, 1) := by decide +kernel
theorem dXN_init_2_6 : decode cXN_init_2 6 = .ok (.putfield 7, 3) := by decide +kernel
theorem dXN_init_2_9 : decode cXN_init_2 9 = .ok (.aload_n 0, 1) := by decide +kernel
theorem dXN_init_2_10 : decode cXN_init_2 10 = .ok (.iload_n 2, 1) := by decide +kernel
theorem dXN_init_2_11 : decode cXN_init_2 11 = .ok (.iload_n 1, 1) := by decide +kernel
theorem dXN_init_2_12 : decode cXN_init_2 12 = .ok (.ishr, 1) := by decide +kernel
theorem dXN_init_2_13 : decode cXN_init_2 13 = .ok (.iload_n 1, 1) := by decide +kernel
theorem dXN_init_2_14 : decode cXN_init_2 14 = .ok (.ishl, 1) := by decide +kernel
theorem dXN_init_2_15 : decode cXN_init_2 15 = .ok (.putfield 13, 3) := by decide +kernel
theorem dXN_init_2_18 : decode cXN_init_2 18 = .ok (.aload_n 0, 1) := by decide +kernel
theorem dXN_init_2_19 : decode cXN_init_2 19 = .ok (.aload_n 3, 1) := by decide +kernel
theorem dXN_init_2_20 : decode cXN_init_2 20 = .ok (.putfield 16, 3) := by decide +kernel
theorem dXN_init_2_23 : decode cXN_init_2 23 = .ok (.aload_n 0, 1) := by decide +kernel
theorem dXN_init_2_24 : decode cXN_init_2 24 = .ok (.aload 4, 2) := by decide +kernel
theorem dXN_init_2_26 : decode cXN_init_2 26 = .ok (.putfield 20, 3) := by decide +kernel
theorem dXN_init_2_29 : decode cXN_init_2 29 = .ok (.aload_n 0, 1) := by decide +kernel
theorem dXN_init_2_30 : decode cXN_init_2 30 = .ok (.iconst 0, 1) := by decide +kernel
theorem dXN_init_2_31 : decode cXN_init_2 31 = .ok (.putfield 23, 3) := by decide +kernel
theorem dXN_init_2_34 : decode cXN_init_2 34 = .ok (.aload_n 0, 1) := by decide +kernel
theorem dXN_init_2_35 : decode cXN_init_2 35 = .ok (.aload_n 3, 1) := by decide +kernel
theorem dXN_init_2_36 : decode cXN_init_2 36 = .ok (.invokestatic 33, 3) := by decide +kernel
theorem dXN_init_2_39 : decode cXN_init_2 39 = .ok (.aload 4, 2) := by decide +kernel
theorem dXN_init_2_41 : decode cXN_init_2 41 = .ok (.invokestatic 33, 3) := by decide +kernel
theorem dXN_init_2_44 : decode cXN_init_2 44 = .ok (.iadd, 1) := by decide +kernel
theorem dXN_init_2_45 : decode cXN_init_2 45 = .ok (.putfield 26, 3) := by decide +kernel
theorem dXN_init_2_48 : decode cXN_init_2 48 = .ok (.aload_n 0, 1) := by decide +kernel
theorem dXN_init_2_49 : decode cXN_init_2 49 = .ok (.aload_n 3, 1) := by decide +kernel
theorem dXN_init_2_50 : decode cXN_init_2 50 = .ok (.invokestatic 39, 3) := by decide +kernel
theorem dXN_init_2_53 : decode cXN_init_2 53 = .ok (.aload 4, 2) := by decide +kernel
theorem dXN_init_2_55 : decode cXN_init_2 55 = .ok (.invokestatic 39, 3) := by decide +kernel
theorem dXN_init_2_58 : decode cXN_init_2 58 = .ok (.ladd, 1) := by decide +kernel
theorem dXN_init_2_59 : decode cXN_init_2 59 = .ok (.putfield 29, 3) := by decide +kernel
theorem dXN_init_2_62 : decode cXN_init_2 62 = .ok (.return_, 1) := by decide +kernel
theorem dXT_keep_0 : decode cXT_keep 0 = .ok (.aload_n 0, 1) := by decide +kernel
theorem dXT_keep_1 : decode cXT_keep 1 = .ok (.getfield 22, 3) := by decide +kernel
theorem dXT_keep_4 : decode cXT_keep 4 = .ok (.istore_n 2, 1) := by decide +kernel
theorem dXT_keep_5 : decode cXT_keep 5 = .ok (.aload_n 0, 1) := by decide +kernel
theorem dXT_keep_6 : decode cXT_keep 6 = .ok (.getfield 11, 3) := by decide +kernel
theorem dXT_keep_9 : decode cXT_keep 9 = .ok (.iload_n 2, 1) := by decide +kernel
theorem dXT_keep_10 : decode cXT_keep 10 = .ok (.aload_n 1, 1) := by decide +kernel
theorem dXT_keep_11 : decode cXT_keep 11 = .ok (.aastore, 1) := by decide +kernel
theorem dXT_keep_12 : decode cXT_keep 12 = .ok (.aload_n 0, 1) := by decide +kernel
theorem dXT_keep_13 : decode cXT_keep 13 = .ok (.dup, 1) := by decide +kernel
theorem dXT_keep_14 : decode cXT_keep 14 = .ok (.getfield 22, 3) := by decide +kernel
theorem dXT_keep_17 : decode cXT_keep 17 = .ok (.iconst 1, 1) := by decide +kernel
theorem dXT_keep_18 : decode cXT_keep 18 = .ok (.iadd, 1) := by decide +kernel
theorem dXT_keep_19 : decode cXT_keep 19 = .ok (.putfield 22, 3) := by decide +kernel
theorem dXT_keep_22 : decode cXT_keep 22 = .ok (.iload_n 2, 1) := by decide +kernel
theorem dXT_keep_23 : decode cXT_keep 23 = .ok (.ireturn, 1) := by decide +kernel
theorem dXT_remove_0 : decode cXT_remove 0 = .ok (.aload_n 0, 1) := by decide +kernel
theorem dXT_remove_1 : decode cXT_remove 1 = .ok (.iload_n 1, 1) := by decide +kernel
theorem dXT_remove_2 : decode cXT_remove 2 = .ok (.invokevirtual 26, 3) := by decide +kernel
theorem dXT_remove_5 : decode cXT_remove 5 = .ok (.iload_n 2, 1) := by decide +kernel
theorem dXT_remove_6 : decode cXT_remove 6 = .ok (.invokestatic 30, 3) := by decide +kernel
theorem dXT_remove_9 : decode cXT_remove 9 = .ok (.aload_n 0, 1) := by decide +kernel
theorem dXT_remove_10 : decode cXT_remove 10 = .ok (.invokevirtual 33, 3) := by decide +kernel
theorem dXT_remove_13 : decode cXT_remove 13 = .ok (.aload_n 0, 1) := by decide +kernel
theorem dXT_remove_14 : decode cXT_remove 14 = .ok (.getfield 11, 3) := by decide +kernel
theorem dXT_remove_17 : decode cXT_remove 17 = .ok (.iload_n 1, 1) := by decide +kernel
theorem dXT_remove_18 : decode cXT_remove 18 = .ok (.aaload, 1) := by decide +kernel
theorem dXT_remove_19 : decode cXT_remove 19 = .ok (.iload_n 2, 1) := by decide +kernel
theorem dXT_remove_20 : decode cXT_remove 20 = .ok (.invokestatic 51, 3) := by decide +kernel
theorem dXT_remove_23 : decode cXT_remove 23 = .ok (.ifnonnull 13, 3) := by decide +kernel
theorem dXT_remove_26 : decode cXT_remove 26 = .ok (.new 55, 3) := by decide +kernel
theorem dXT_remove_29 : decode cXT_remove 29 = .ok (.dup, 1) := by decide +kernel
theorem dXT_remove_30 : decode cXT_remove 30 = .ok (.ldc 57, 2) := by decide +kernel
theorem dXT_remove_32 : decode cXT_remove 32 = .ok (.invokespecial 59, 3) := by decide +kernel
theorem dXT_remove_35 : decode cXT_remove 35 = .ok (.athrow, 1) := by decide +kernel
theorem dXT_remove_36 : decode cXT_remove 36 = .ok (.aload_n 0, 1) := by decide +kernel
theorem dXT_remove_37 : decode cXT_remove 37 = .ok (.aload_n 0, 1) := by decide +kernel
theorem dXT_remove_38 : decode cXT_remove 38 = .ok (.getfield 11, 3) := by decide +kernel
theorem dXT_remove_41 : decode cXT_remove 41 = .ok (.iload_n 1, 1) := by decide +kernel
theorem dXT_remove_42 : decode cXT_remove 42 = .ok (.aaload, 1) := by decide +kernel
theorem dXT_remove_43 : decode cXT_remove 43 = .ok (.aload_n 0, 1) := by decide +kernel
theorem dXT_remove_44 : decode cXT_remove 44 = .ok (.getfield 11, 3) := by decide +kernel
theorem dXT_remove_47 : decode cXT_remove 47 = .ok (.iload_n 1, 1) := by decide +kernel
theorem dXT_remove_48 : decode cXT_remove 48 = .ok (.aaload, 1) := by decide +kernel
theorem dXT_remove_49 : decode cXT_remove 49 = .ok (.bipush 8, 2) := by decide +kernel
theorem dXT_remove_51 : decode cXT_remove 51 = .ok (.iload_n 2, 1) := by decide +kernel
theorem dXT_remove_52 : decode cXT_remove 52 = .ok (.aconst_null, 1) := by decide +kernel
theorem dXT_remove_53 : decode cXT_remove 53 = .ok (.aload_n 0, 1) := by decide +kernel
theorem dXT_remove_54 : decode cXT_remove 54 = .ok (.getfield 18, 3) := by decide +kernel
theorem dXT_remove_57 : decode cXT_remove 57 = .ok (.invokestatic 43, 3) := by decide +kernel
theorem dXT_remove_60 : decode cXT_remove 60 = .ok (.invokevirtual 47, 3) := by decide +kernel
theorem dXT_remove_63 : decode cXT_remove 63 = .ok (.ireturn, 1) := by decide +kernel
theorem dXT_leafAt_0 : decode cXT_leafAt 0 = .ok (.aload_n 0, 1) := by decide +kernel
theorem dXT_leafAt_1 : decode cXT_leafAt 1 = .ok (.astore_n 2, 1) := by decide +kernel
theorem dXT_leafAt_2 : decode cXT_leafAt 2 = .ok (.bipush 8, 2) := by decide +kernel
theorem dXT_leafAt_4 : decode cXT_leafAt 4 = .ok (.istore_n 3, 1) := by decide +kernel
theorem dXT_leafAt_5 : decode cXT_leafAt 5 = .ok (.iload_n 3, 1) := by decide +kernel
theorem dXT_leafAt_6 : decode cXT_leafAt 6 = .ok (.ifCond .le 29, 3) := by decide +kernel
theorem dXT_leafAt_9 : decode cXT_leafAt 9 = .ok (.iload_n 1, 1) := by decide +kernel
theorem dXT_leafAt_10 : decode cXT_leafAt 10 = .ok (.iload_n 3, 1) := by decide +kernel
theorem dXT_leafAt_11 : decode cXT_leafAt 11 = .ok (.invokestatic 120, 3) := by decide +kernel
theorem dXT_leafAt_14 : decode cXT_leafAt 14 = .ok (.ifCond .eq 10, 3) := by decide +kernel
theorem dXT_leafAt_17 : decode cXT_leafAt 17 = .ok (.aload_n 2, 1) := by decide +kernel
theorem dXT_leafAt_18 : decode cXT_leafAt 18 = .ok (.invokestatic 128, 3) := by decide +kernel
theorem dXT_leafAt_21 : decode cXT_leafAt 21 = .ok (.goto 7, 3) := by decide +kernel
theorem dXT_leafAt_24 : decode cXT_leafAt 24 = .ok (.aload_n 2, 1) := by decide +kernel
theorem dXT_leafAt_25 : decode cXT_leafAt 25 = .ok (.invokestatic 124, 3) := by decide +kernel
theorem dXT_leafAt_28 : decode cXT_leafAt 28 = .ok (.astore_n 2, 1) := by decide +kernel
theorem dXT_leafAt_29 : decode cXT_leafAt 29 = .ok (.iinc 3 (-1), 3) := by decide +kernel
theorem dXT_leafAt_32 : decode cXT_leafAt 32 = .ok (.goto (-27), 3) := by decide +kernel
theorem dXT_leafAt_35 : decode cXT_leafAt 35 = .ok (.aload_n 2, 1) := by decide +kernel
theorem dXT_leafAt_36 : decode cXT_leafAt 36 = .ok (.areturn, 1) := by decide +kernel
theorem dXT_join_0 : decode cXT_join 0 = .ok (.aload_n 0, 1) := by decide +kernel
theorem dXT_join_1 : decode cXT_join 1 = .ok (.iload_n 1, 1) := by decide +kernel
theorem dXT_join_2 : decode cXT_join 2 = .ok (.invokevirtual 26, 3) := by decide +kernel
theorem dXT_join_5 : decode cXT_join 5 = .ok (.aload_n 0, 1) := by decide +kernel
theorem dXT_join_6 : decode cXT_join 6 = .ok (.iload_n 2, 1) := by decide +kernel
theorem dXT_join_7 : decode cXT_join 7 = .ok (.invokevirtual 26, 3) := by decide +kernel
theorem dXT_join_10 : decode cXT_join 10 = .ok (.iload_n 3, 1) := by decide +kernel
theorem dXT_join_11 : decode cXT_join 11 = .ok (.ifCond .lt 10, 3) := by decide +kernel
theorem dXT_join_14 : decode cXT_join 14 = .ok (.iload_n 3, 1) := by decide +kernel
theorem dXT_join_15 : decode cXT_join 15 = .ok (.sipush 256, 3) := by decide +kernel
theorem dXT_join_18 : decode cXT_join 18 = .ok (.if_icmp .le 13, 3) := by decide +kernel
theorem dXT_join_21 : decode cXT_join 21 = .ok (.new 62, 3) := by decide +kernel
theorem dXT_join_24 : decode cXT_join 24 = .ok (.dup, 1) := by decide +kernel
theorem dXT_join_25 : decode cXT_join 25 = .ok (.ldc 64, 2) := by decide +kernel
theorem dXT_join_27 : decode cXT_join 27 = .ok (.invokespecial 66, 3) := by decide +kernel
theorem dXT_join_30 : decode cXT_join 30 = .ok (.athrow, 1) := by decide +kernel
theorem dXT_join_31 : decode cXT_join 31 = .ok (.aload_n 0, 1) := by decide +kernel
theorem dXT_join_32 : decode cXT_join 32 = .ok (.invokevirtual 33, 3) := by decide +kernel
theorem dXT_join_35 : decode cXT_join 35 = .ok (.iload_n 3, 1) := by decide +kernel
theorem dXT_join_36 : decode cXT_join 36 = .ok (.sipush 256, 3) := by decide +kernel
theorem dXT_join_39 : decode cXT_join 39 = .ok (.if_icmp .ne 14, 3) := by decide +kernel
theorem dXT_join_42 : decode cXT_join 42 = .ok (.aload_n 0, 1) := by decide +kernel
theorem dXT_join_43 : decode cXT_join 43 = .ok (.aload_n 0, 1) := by decide +kernel
theorem dXT_join_44 : decode cXT_join 44 = .ok (.getfield 11, 3) := by decide +kernel
theorem dXT_join_47 : decode cXT_join 47 = .ok (.iload_n 1, 1) := by decide +kernel
theorem dXT_join_48 : decode cXT_join 48 = .ok (.aaload, 1) := by decide +kernel
theorem dXT_join_49 : decode cXT_join 49 = .ok (.invokevirtual 47, 3) := by decide +kernel
theorem dXT_join_52 : decode cXT_join 52 = .ok (.ireturn, 1) := by decide +kernel
theorem dXT_join_53 : decode cXT_join 53 = .ok (.aload_n 0, 1) := by decide +kernel
theorem dXT_join_54 : decode cXT_join 54 = .ok (.aload_n 0, 1) := by decide +kernel
theorem dXT_join_55 : decode cXT_join 55 = .ok (.getfield 11, 3) := by decide +kernel
theorem dXT_join_58 : decode cXT_join 58 = .ok (.iload_n 1, 1) := by decide +kernel
theorem dXT_join_59 : decode cXT_join 59 = .ok (.aaload, 1) := by decide +kernel
theorem dXT_join_60 : decode cXT_join 60 = .ok (.aload_n 0, 1) := by decide +kernel
theorem dXT_join_61 : decode cXT_join 61 = .ok (.getfield 11, 3) := by decide +kernel
theorem dXT_join_64 : decode cXT_join 64 = .ok (.iload_n 2, 1) := by decide +kernel
theorem dXT_join_65 : decode cXT_join 65 = .ok (.aaload, 1) := by decide +kernel
theorem dXT_join_66 : decode cXT_join 66 = .ok (.bipush 8, 2) := by decide +kernel
theorem dXT_join_68 : decode cXT_join 68 = .ok (.iload_n 3, 1) := by decide +kernel
theorem dXT_join_69 : decode cXT_join 69 = .ok (.aload_n 0, 1) := by decide +kernel
theorem dXT_join_70 : decode cXT_join 70 = .ok (.getfield 11, 3) := by decide +kernel
theorem dXT_join_73 : decode cXT_join 73 = .ok (.iload_n 2, 1) := by decide +kernel
theorem dXT_join_74 : decode cXT_join 74 = .ok (.aaload, 1) := by decide +kernel
theorem dXT_join_75 : decode cXT_join 75 = .ok (.iload_n 3, 1) := by decide +kernel
theorem dXT_join_76 : decode cXT_join 76 = .ok (.invokestatic 51, 3) := by decide +kernel
theorem dXT_join_79 : decode cXT_join 79 = .ok (.aload_n 0, 1) := by decide +kernel
theorem dXT_join_80 : decode cXT_join 80 = .ok (.getfield 18, 3) := by decide +kernel
theorem dXT_join_83 : decode cXT_join 83 = .ok (.invokestatic 43, 3) := by decide +kernel
theorem dXT_join_86 : decode cXT_join 86 = .ok (.invokevirtual 47, 3) := by decide +kernel
theorem dXT_join_89 : decode cXT_join 89 = .ok (.ireturn, 1) := by decide +kernel
theorem dXT_get_0 : decode cXT_get 0 = .ok (.aload_n 0, 1) := by decide +kernel
theorem dXT_get_1 : decode cXT_get 1 = .ok (.iload_n 1, 1) := by decide +kernel
theorem dXT_get_2 : decode cXT_get 2 = .ok (.invokevirtual 26, 3) := by decide +kernel
theorem dXT_get_5 : decode cXT_get 5 = .ok (.iload_n 2, 1) := by decide +kernel
theorem dXT_get_6 : decode cXT_get 6 = .ok (.invokestatic 30, 3) := by decide +kernel
theorem dXT_get_9 : decode cXT_get 9 = .ok (.aload_n 0, 1) := by decide +kernel
theorem dXT_get_10 : decode cXT_get 10 = .ok (.getfield 11, 3) := by decide +kernel
theorem dXT_get_13 : decode cXT_get 13 = .ok (.iload_n 1, 1) := by decide +kernel
theorem dXT_get_14 : decode cXT_get 14 = .ok (.aaload, 1) := by decide +kernel
theorem dXT_get_15 : decode cXT_get 15 = .ok (.iload_n 2, 1) := by decide +kernel
theorem dXT_get_16 : decode cXT_get 16 = .ok (.invokestatic 51, 3) := by decide +kernel
theorem dXT_get_19 : decode cXT_get 19 = .ok (.astore_n 3, 1) := by decide +kernel
theorem dXT_get_20 : decode cXT_get 20 = .ok (.aload_n 3, 1) := by decide +kernel
theorem dXT_get_21 : decode cXT_get 21 = .ok (.ifnonnull 13, 3) := by decide +kernel
theorem dXT_get_24 : decode cXT_get 24 = .ok (.new 55, 3) := by decide +kernel
theorem dXT_get_27 : decode cXT_get 27 = .ok (.dup, 1) := by decide +kernel
theorem dXT_get_28 : decode cXT_get 28 = .ok (.ldc 57, 2) := by decide +kernel
theorem dXT_get_30 : decode cXT_get 30 = .ok (.invokespecial 59, 3) := by decide +kernel
theorem dXT_get_33 : decode cXT_get 33 = .ok (.athrow, 1) := by decide +kernel
theorem dXT_get_34 : decode cXT_get 34 = .ok (.aload_n 3, 1) := by decide +kernel
theorem dXT_get_35 : decode cXT_get 35 = .ok (.getfield 67, 3) := by decide +kernel
theorem dXT_get_38 : decode cXT_get 38 = .ok (.ireturn, 1) := by decide +kernel
theorem dXT_select_0 : decode cXT_select 0 = .ok (.aload_n 0, 1) := by decide +kernel
theorem dXT_select_1 : decode cXT_select 1 = .ok (.iload_n 1, 1) := by decide +kernel
theorem dXT_select_2 : decode cXT_select 2 = .ok (.invokevirtual 26, 3) := by decide +kernel
theorem dXT_select_5 : decode cXT_select 5 = .ok (.iload_n 2, 1) := by decide +kernel
theorem dXT_select_6 : decode cXT_select 6 = .ok (.ifCond .lt 16, 3) := by decide +kernel
theorem dXT_select_9 : decode cXT_select 9 = .ok (.iload_n 2, 1) := by decide +kernel
theorem dXT_select_10 : decode cXT_select 10 = .ok (.aload_n 0, 1) := by decide +kernel
theorem dXT_select_11 : decode cXT_select 11 = .ok (.getfield 11, 3) := by decide +kernel
theorem dXT_select_14 : decode cXT_select 14 = .ok (.iload_n 1, 1) := by decide +kernel
theorem dXT_select_15 : decode cXT_select 15 = .ok (.aaload, 1) := by decide +kernel
theorem dXT_select_16 : decode cXT_select 16 = .ok (.invokestatic 70, 3) := by decide +kernel
theorem dXT_select_19 : decode cXT_select 19 = .ok (.if_icmp .lt 13, 3) := by decide +kernel
theorem dXT_select_22 : decode cXT_select 22 = .ok (.new 62, 3) := by decide +kernel
theorem dXT_select_25 : decode cXT_select 25 = .ok (.dup, 1) := by decide +kernel
theorem dXT_select_26 : decode cXT_select 26 = .ok (.ldc 73, 2) := by decide +kernel
theorem dXT_select_28 : decode cXT_select 28 = .ok (.invokespecial 66, 3) := by decide +kernel
theorem dXT_select_31 : decode cXT_select 31 = .ok (.athrow, 1) := by decide +kernel
theorem dXT_select_32 : decode cXT_select 32 = .ok (.aload_n 0, 1) := by decide +kernel
theorem dXT_select_33 : decode cXT_select 33 = .ok (.getfield 11, 3) := by decide +kernel
theorem dXT_select_36 : decode cXT_select 36 = .ok (.iload_n 1, 1) := by decide +kernel
theorem dXT_select_37 : decode cXT_select 37 = .ok (.aaload, 1) := by decide +kernel
theorem dXT_select_38 : decode cXT_select 38 = .ok (.iload_n 2, 1) := by decide +kernel
theorem dXT_select_39 : decode cXT_select 39 = .ok (.invokestatic 75, 3) := by decide +kernel
theorem dXT_select_42 : decode cXT_select 42 = .ok (.ireturn, 1) := by decide +kernel
theorem dXT_keyAt_0 : decode cXT_keyAt 0 = .ok (.aload_n 0, 1) := by decide +kernel
theorem dXT_keyAt_1 : decode cXT_keyAt 1 = .ok (.astore_n 2, 1) := by decide +kernel
theorem dXT_keyAt_2 : decode cXT_keyAt 2 = .ok (.iconst 0, 1) := by decide +kernel
theorem dXT_keyAt_3 : decode cXT_keyAt 3 = .ok (.istore_n 3, 1) := by decide +kernel
theorem dXT_keyAt_4 : decode cXT_keyAt 4 = .ok (.iload_n 1, 1) := by decide +kernel
theorem dXT_keyAt_5 : decode cXT_keyAt 5 = .ok (.istore 4, 2) := by decide +kernel
theorem dXT_keyAt_7 : decode cXT_keyAt 7 = .ok (.bipush 8, 2) := by decide +kernel
theorem dXT_keyAt_9 : decode cXT_keyAt 9 = .ok (.istore 5, 2) := by decide +kernel
theorem dXT_keyAt_11 : decode cXT_keyAt 11 = .ok (.iload 5, 2) := by decide +kernel
theorem dXT_keyAt_13 : decode cXT_keyAt 13 = .ok (.ifCond .le 55, 3) := by decide +kernel
theorem dXT_keyAt_16 : decode cXT_keyAt 16 = .ok (.aload_n 2, 1) := by decide +kernel
theorem dXT_keyAt_17 : decode cXT_keyAt 17 = .ok (.invokestatic 124, 3) := by decide +kernel
theorem dXT_keyAt_20 : decode cXT_keyAt 20 = .ok (.invokestatic 70, 3) := by decide +kernel
theorem dXT_keyAt_23 : decode cXT_keyAt 23 = .ok (.istore 6, 2) := by decide +kernel
theorem dXT_keyAt_25 : decode cXT_keyAt 25 = .ok (.iload 4, 2) := by decide +kernel
theorem dXT_keyAt_27 : decode cXT_keyAt 27 = .ok (.iload 6, 2) := by decide +kernel
theorem dXT_keyAt_29 : decode cXT_keyAt 29 = .ok (.if_icmp .ge 15, 3) := by decide +kernel
theorem dXT_keyAt_32 : decode cXT_keyAt 32 = .ok (.iconst 2, 1) := by decide +kernel
theorem dXT_keyAt_33 : decode cXT_keyAt 33 = .ok (.iload_n 3, 1) := by decide +kernel
theorem dXT_keyAt_34 : decode cXT_keyAt 34 = .ok (.imul, 1) := by decide +kernel
theorem dXT_keyAt_35 : decode cXT_keyAt 35 = .ok (.istore_n 3, 1) := by decide +kernel
theorem dXT_keyAt_36 : decode cXT_keyAt 36 = .ok (.aload_n 2, 1) := by decide +kernel
theorem dXT_keyAt_37 : decode cXT_keyAt 37 = .ok (.invokestatic 124, 3) := by decide +kernel
theorem dXT_keyAt_40 : decode cXT_keyAt 40 = .ok (.astore_n 2, 1) := by decide +kernel
theorem dXT_keyAt_41 : decode cXT_keyAt 41 = .ok (.goto 21, 3) := by decide +kernel
theorem dXT_keyAt_44 : decode cXT_keyAt 44 = .ok (.iconst 2, 1) := by decide +kernel
theorem dXT_keyAt_45 : decode cXT_keyAt 45 = .ok (.iload_n 3, 1) := by decide +kernel
theorem dXT_keyAt_46 : decode cXT_keyAt 46 = .ok (.imul, 1) := by decide +kernel
theorem dXT_keyAt_47 : decode cXT_keyAt 47 = .ok (.iconst 1, 1) := by decide +kernel
theorem dXT_keyAt_48 : decode cXT_keyAt 48 = .ok (.iadd, 1) := by decide +kernel
theorem dXT_keyAt_49 : decode cXT_keyAt 49 = .ok (.istore_n 3, 1) := by decide +kernel
theorem dXT_keyAt_50 : decode cXT_keyAt 50 = .ok (.iload 4, 2) := by decide +kernel
theorem dXT_keyAt_52 : decode cXT_keyAt 52 = .ok (.iload 6, 2) := by decide +kernel
theorem dXT_keyAt_54 : decode cXT_keyAt 54 = .ok (.isub, 1) := by decide +kernel
theorem dXT_keyAt_55 : decode cXT_keyAt 55 = .ok (.istore 4, 2) := by decide +kernel
theorem dXT_keyAt_57 : decode cXT_keyAt 57 = .ok (.aload_n 2, 1) := by decide +kernel
theorem dXT_keyAt_58 : decode cXT_keyAt 58 = .ok (.invokestatic 128, 3) := by decide +kernel
theorem dXT_keyAt_61 : decode cXT_keyAt 61 = .ok (.astore_n 2, 1) := by decide +kernel
theorem dXT_keyAt_62 : decode cXT_keyAt 62 = .ok (.iinc 5 (-1), 3) := by decide +kernel
theorem dXT_keyAt_65 : decode cXT_keyAt 65 = .ok (.goto (-54), 3) := by decide +kernel
theorem dXT_keyAt_68 : decode cXT_keyAt 68 = .ok (.iload_n 3, 1) := by decide +kernel
theorem dXT_keyAt_69 : decode cXT_keyAt 69 = .ok (.ireturn, 1) := by decide +kernel
theorem dXT_many_0 : decode cXT_many 0 = .ok (.aload_n 0, 1) := by decide +kernel
theorem dXT_many_1 : decode cXT_many 1 = .ok (.iload_n 1, 1) := by decide +kernel
theorem dXT_many_2 : decode cXT_many 2 = .ok (.invokevirtual 26, 3) := by decide +kernel
theorem dXT_many_5 : decode cXT_many 5 = .ok (.iload_n 2, 1) := by decide +kernel
theorem dXT_many_6 : decode cXT_many 6 = .ok (.iload_n 3, 1) := by decide +kernel
theorem dXT_many_7 : decode cXT_many 7 = .ok (.if_icmp .ge 27, 3) := by decide +kernel
theorem dXT_many_10 : decode cXT_many 10 = .ok (.aload_n 0, 1) := by decide +kernel
theorem dXT_many_11 : decode cXT_many 11 = .ok (.getfield 11, 3) := by decide +kernel
theorem dXT_many_14 : decode cXT_many 14 = .ok (.iload_n 1, 1) := by decide +kernel
theorem dXT_many_15 : decode cXT_many 15 = .ok (.aaload, 1) := by decide +kernel
theorem dXT_many_16 : decode cXT_many 16 = .ok (.iload_n 3, 1) := by decide +kernel
theorem dXT_many_17 : decode cXT_many 17 = .ok (.invokestatic 79, 3) := by decide +kernel
theorem dXT_many_20 : decode cXT_many 20 = .ok (.aload_n 0, 1) := by decide +kernel
theorem dXT_many_21 : decode cXT_many 21 = .ok (.getfield 11, 3) := by decide +kernel
theorem dXT_many_24 : decode cXT_many 24 = .ok (.iload_n 1, 1) := by decide +kernel
theorem dXT_many_25 : decode cXT_many 25 = .ok (.aaload, 1) := by decide +kernel
theorem dXT_many_26 : decode cXT_many 26 = .ok (.iload_n 2, 1) := by decide +kernel
theorem dXT_many_27 : decode cXT_many 27 = .ok (.invokestatic 79, 3) := by decide +kernel
theorem dXT_many_30 : decode cXT_many 30 = .ok (.isub, 1) := by decide +kernel
theorem dXT_many_31 : decode cXT_many 31 = .ok (.goto 4, 3) := by decide +kernel
theorem dXT_many_34 : decode cXT_many 34 = .ok (.iconst 0, 1) := by decide +kernel
theorem dXT_many_35 : decode cXT_many 35 = .ok (.ireturn, 1) := by decide +kernel
theorem dXT_sizeBelow_0 : decode cXT_sizeBelow 0 = .ok (.iload_n 1, 1) := by decide +kernel
theorem dXT_sizeBelow_1 : decode cXT_sizeBelow 1 = .ok (.ifCond .gt 5, 3) := by decide +kernel
theorem dXT_sizeBelow_4 : decode cXT_sizeBelow 4 = .ok (.iconst 0, 1) := by decide +kernel
theorem dXT_sizeBelow_5 : decode cXT_sizeBelow 5 = .ok (.ireturn, 1) := by decide +kernel
theorem dXT_sizeBelow_6 : decode cXT_sizeBelow 6 = .ok (.iload_n 1, 1) := by decide +kernel
theorem dXT_sizeBelow_7 : decode cXT_sizeBelow 7 = .ok (.sipush 256, 3) := by decide +kernel
theorem dXT_sizeBelow_10 : decode cXT_sizeBelow 10 = .ok (.if_icmp .lt 8, 3) := by decide +kernel
theorem dXT_sizeBelow_13 : decode cXT_sizeBelow 13 = .ok (.aload_n 0, 1) := by decide +kernel
theorem dXT_sizeBelow_14 : decode cXT_sizeBelow 14 = .ok (.invokestatic 70, 3) := by decide +kernel
theorem dXT_sizeBelow_17 : decode cXT_sizeBelow 17 = .ok (.ireturn, 1) := by decide +kernel
theorem dXT_sizeBelow_18 : decode cXT_sizeBelow 18 = .ok (.aload_n 0, 1) := by decide +kernel
theorem dXT_sizeBelow_19 : decode cXT_sizeBelow 19 = .ok (.astore_n 2, 1) := by decide +kernel
theorem dXT_sizeBelow_20 : decode cXT_sizeBelow 20 = .ok (.iconst 0, 1) := by decide +kernel
theorem dXT_sizeBelow_21 : decode cXT_sizeBelow 21 = .ok (.istore_n 3, 1) := by decide +kernel
theorem dXT_sizeBelow_22 : decode cXT_sizeBelow 22 = .ok (.bipush 8, 2) := by decide +kernel
theorem dXT_sizeBelow_24 : decode cXT_sizeBelow 24 = .ok (.istore 4, 2) := by decide +kernel
theorem dXT_sizeBelow_26 : decode cXT_sizeBelow 26 = .ok (.iload 4, 2) := by decide +kernel
theorem dXT_sizeBelow_28 : decode cXT_sizeBelow 28 = .ok (.ifCond .le 41, 3) := by decide +kernel
theorem dXT_sizeBelow_31 : decode cXT_sizeBelow 31 = .ok (.iload_n 1, 1) := by decide +kernel
theorem dXT_sizeBelow_32 : decode cXT_sizeBelow 32 = .ok (.iload 4, 2) := by decide +kernel
theorem dXT_sizeBelow_34 : decode cXT_sizeBelow 34 = .ok (.invokestatic 120, 3) := by decide +kernel
theorem dXT_sizeBelow_37 : decode cXT_sizeBelow 37 = .ok (.ifCond .eq 21, 3) := by decide +kernel
theorem dXT_sizeBelow_40 : decode cXT_sizeBelow 40 = .ok (.iload_n 3, 1) := by decide +kernel
theorem dXT_sizeBelow_41 : decode cXT_sizeBelow 41 = .ok (.aload_n 2, 1) := by decide +kernel
theorem dXT_sizeBelow_42 : decode cXT_sizeBelow 42 = .ok (.invokestatic 124, 3) := by decide +kernel
theorem dXT_sizeBelow_45 : decode cXT_sizeBelow 45 = .ok (.invokestatic 70, 3) := by decide +kernel
theorem dXT_sizeBelow_48 : decode cXT_sizeBelow 48 = .ok (.iadd, 1) := by decide +kernel
theorem dXT_sizeBelow_49 : decode cXT_sizeBelow 49 = .ok (.istore_n 3, 1) := by decide +kernel
theorem dXT_sizeBelow_50 : decode cXT_sizeBelow 50 = .ok (.aload_n 2, 1) := by decide +kernel
theorem dXT_sizeBelow_51 : decode cXT_sizeBelow 51 = .ok (.invokestatic 128, 3) := by decide +kernel
theorem dXT_sizeBelow_54 : decode cXT_sizeBelow 54 = .ok (.astore_n 2, 1) := by decide +kernel
theorem dXT_sizeBelow_55 : decode cXT_sizeBelow 55 = .ok (.goto 8, 3) := by decide +kernel
theorem dXT_sizeBelow_58 : decode cXT_sizeBelow 58 = .ok (.aload_n 2, 1) := by decide +kernel
theorem dXT_sizeBelow_59 : decode cXT_sizeBelow 59 = .ok (.invokestatic 124, 3) := by decide +kernel
theorem dXT_sizeBelow_62 : decode cXT_sizeBelow 62 = .ok (.astore_n 2, 1) := by decide +kernel
theorem dXT_sizeBelow_63 : decode cXT_sizeBelow 63 = .ok (.iinc 4 (-1), 3) := by decide +kernel
theorem dXT_sizeBelow_66 : decode cXT_sizeBelow 66 = .ok (.goto (-40), 3) := by decide +kernel
theorem dXT_sizeBelow_69 : decode cXT_sizeBelow 69 = .ok (.iload_n 3, 1) := by decide +kernel
theorem dXT_sizeBelow_70 : decode cXT_sizeBelow 70 = .ok (.ireturn, 1) := by decide +kernel
theorem dXT_sum_0 : decode cXT_sum 0 = .ok (.aload_n 0, 1) := by decide +kernel
theorem dXT_sum_1 : decode cXT_sum 1 = .ok (.iload_n 1, 1) := by decide +kernel
theorem dXT_sum_2 : decode cXT_sum 2 = .ok (.invokevirtual 26, 3) := by decide +kernel
theorem dXT_sum_5 : decode cXT_sum 5 = .ok (.iload_n 2, 1) := by decide +kernel
theorem dXT_sum_6 : decode cXT_sum 6 = .ok (.iload_n 3, 1) := by decide +kernel
theorem dXT_sum_7 : decode cXT_sum 7 = .ok (.if_icmp .ge 27, 3) := by decide +kernel
theorem dXT_sum_10 : decode cXT_sum 10 = .ok (.aload_n 0, 1) := by decide +kernel
theorem dXT_sum_11 : decode cXT_sum 11 = .ok (.getfield 11, 3) := by decide +kernel
theorem dXT_sum_14 : decode cXT_sum 14 = .ok (.iload_n 1, 1) := by decide +kernel
theorem dXT_sum_15 : decode cXT_sum 15 = .ok (.aaload, 1) := by decide +kernel
theorem dXT_sum_16 : decode cXT_sum 16 = .ok (.iload_n 3, 1) := by decide +kernel
theorem dXT_sum_17 : decode cXT_sum 17 = .ok (.invokestatic 82, 3) := by decide +kernel
theorem dXT_sum_20 : decode cXT_sum 20 = .ok (.aload_n 0, 1) := by decide +kernel
theorem dXT_sum_21 : decode cXT_sum 21 = .ok (.getfield 11, 3) := by decide +kernel
theorem dXT_sum_24 : decode cXT_sum 24 = .ok (.iload_n 1, 1) := by decide +kernel
theorem dXT_sum_25 : decode cXT_sum 25 = .ok (.aaload, 1) := by decide +kernel
theorem dXT_sum_26 : decode cXT_sum 26 = .ok (.iload_n 2, 1) := by decide +kernel
theorem dXT_sum_27 : decode cXT_sum 27 = .ok (.invokestatic 82, 3) := by decide +kernel
theorem dXT_sum_30 : decode cXT_sum 30 = .ok (.lsub, 1) := by decide +kernel
theorem dXT_sum_31 : decode cXT_sum 31 = .ok (.goto 4, 3) := by decide +kernel
theorem dXT_sum_34 : decode cXT_sum 34 = .ok (.lconst 0, 1) := by decide +kernel
theorem dXT_sum_35 : decode cXT_sum 35 = .ok (.lreturn, 1) := by decide +kernel
theorem dXT_totalBelow_0 : decode cXT_totalBelow 0 = .ok (.iload_n 1, 1) := by decide +kernel
theorem dXT_totalBelow_1 : decode cXT_totalBelow 1 = .ok (.ifCond .gt 5, 3) := by decide +kernel
theorem dXT_totalBelow_4 : decode cXT_totalBelow 4 = .ok (.lconst 0, 1) := by decide +kernel
theorem dXT_totalBelow_5 : decode cXT_totalBelow 5 = .ok (.lreturn, 1) := by decide +kernel
theorem dXT_totalBelow_6 : decode cXT_totalBelow 6 = .ok (.iload_n 1, 1) := by decide +kernel
theorem dXT_totalBelow_7 : decode cXT_totalBelow 7 = .ok (.sipush 256, 3) := by decide +kernel
theorem dXT_totalBelow_10 : decode cXT_totalBelow 10 = .ok (.if_icmp .lt 8, 3) := by decide +kernel
theorem dXT_totalBelow_13 : decode cXT_totalBelow 13 = .ok (.aload_n 0, 1) := by decide +kernel
theorem dXT_totalBelow_14 : decode cXT_totalBelow 14 = .ok (.invokestatic 134, 3) := by decide +kernel
theorem dXT_totalBelow_17 : decode cXT_totalBelow 17 = .ok (.lreturn, 1) := by decide +kernel
theorem dXT_totalBelow_18 : decode cXT_totalBelow 18 = .ok (.aload_n 0, 1) := by decide +kernel
theorem dXT_totalBelow_19 : decode cXT_totalBelow 19 = .ok (.astore_n 2, 1) := by decide +kernel
theorem dXT_totalBelow_20 : decode cXT_totalBelow 20 = .ok (.lconst 0, 1) := by decide +kernel
theorem dXT_totalBelow_21 : decode cXT_totalBelow 21 = .ok (.lstore_n 3, 1) := by decide +kernel
theorem dXT_totalBelow_22 : decode cXT_totalBelow 22 = .ok (.bipush 8, 2) := by decide +kernel
theorem dXT_totalBelow_24 : decode cXT_totalBelow 24 = .ok (.istore 5, 2) := by decide +kernel
theorem dXT_totalBelow_26 : decode cXT_totalBelow 26 = .ok (.iload 5, 2) := by decide +kernel
theorem dXT_totalBelow_28 : decode cXT_totalBelow 28 = .ok (.ifCond .le 41, 3) := by decide +kernel
theorem dXT_totalBelow_31 : decode cXT_totalBelow 31 = .ok (.iload_n 1, 1) := by decide +kernel
theorem dXT_totalBelow_32 : decode cXT_totalBelow 32 = .ok (.iload 5, 2) := by decide +kernel
theorem dXT_totalBelow_34 : decode cXT_totalBelow 34 = .ok (.invokestatic 120, 3) := by decide +kernel
theorem dXT_totalBelow_37 : decode cXT_totalBelow 37 = .ok (.ifCond .eq 21, 3) := by decide +kernel
theorem dXT_totalBelow_40 : decode cXT_totalBelow 40 = .ok (.lload_n 3, 1) := by decide +kernel
theorem dXT_totalBelow_41 : decode cXT_totalBelow 41 = .ok (.aload_n 2, 1) := by decide +kernel
theorem dXT_totalBelow_42 : decode cXT_totalBelow 42 = .ok (.invokestatic 124, 3) := by decide +kernel
theorem dXT_totalBelow_45 : decode cXT_totalBelow 45 = .ok (.invokestatic 134, 3) := by decide +kernel
theorem dXT_totalBelow_48 : decode cXT_totalBelow 48 = .ok (.ladd, 1) := by decide +kernel
theorem dXT_totalBelow_49 : decode cXT_totalBelow 49 = .ok (.lstore_n 3, 1) := by decide +kernel
theorem dXT_totalBelow_50 : decode cXT_totalBelow 50 = .ok (.aload_n 2, 1) := by decide +kernel
theorem dXT_totalBelow_51 : decode cXT_totalBelow 51 = .ok (.invokestatic 128, 3) := by decide +kernel
theorem dXT_totalBelow_54 : decode cXT_totalBelow 54 = .ok (.astore_n 2, 1) := by decide +kernel
theorem dXT_totalBelow_55 : decode cXT_totalBelow 55 = .ok (.goto 8, 3) := by decide +kernel
theorem dXT_totalBelow_58 : decode cXT_totalBelow 58 = .ok (.aload_n 2, 1) := by decide +kernel
theorem dXT_totalBelow_59 : decode cXT_totalBelow 59 = .ok (.invokestatic 124, 3) := by decide +kernel
theorem dXT_totalBelow_62 : decode cXT_totalBelow 62 = .ok (.astore_n 2, 1) := by decide +kernel
theorem dXT_totalBelow_63 : decode cXT_totalBelow 63 = .ok (.iinc 5 (-1), 3) := by decide +kernel
theorem dXT_totalBelow_66 : decode cXT_totalBelow 66 = .ok (.goto (-40), 3) := by decide +kernel
theorem dXT_totalBelow_69 : decode cXT_totalBelow 69 = .ok (.lload_n 3, 1) := by decide +kernel
theorem dXT_totalBelow_70 : decode cXT_totalBelow 70 = .ok (.lreturn, 1) := by decide +kernel
theorem dXT_differ_0 : decode cXT_differ 0 = .ok (.aload_n 0, 1) := by decide +kernel
theorem dXT_differ_1 : decode cXT_differ 1 = .ok (.iload_n 1, 1) := by decide +kernel
theorem dXT_differ_2 : decode cXT_differ 2 = .ok (.invokevirtual 26, 3) := by decide +kernel
theorem dXT_differ_5 : decode cXT_differ 5 = .ok (.aload_n 0, 1) := by decide +kernel
theorem dXT_differ_6 : decode cXT_differ 6 = .ok (.iload_n 2, 1) := by decide +kernel
theorem dXT_differ_7 : decode cXT_differ 7 = .ok (.invokevirtual 26, 3) := by decide +kernel
theorem dXT_differ_10 : decode cXT_differ 10 = .ok (.aload_n 0, 1) := by decide +kernel
theorem dXT_differ_11 : decode cXT_differ 11 = .ok (.getfield 11, 3) := by decide +kernel
theorem dXT_differ_14 : decode cXT_differ 14 = .ok (.iload_n 1, 1) := by decide +kernel
theorem dXT_differ_15 : decode cXT_differ 15 = .ok (.aaload, 1) := by decide +kernel
theorem dXT_differ_16 : decode cXT_differ 16 = .ok (.aload_n 0, 1) := by decide +kernel
theorem dXT_differ_17 : decode cXT_differ 17 = .ok (.getfield 11, 3) := by decide +kernel
theorem dXT_differ_20 : decode cXT_differ 20 = .ok (.iload_n 2, 1) := by decide +kernel
theorem dXT_differ_21 : decode cXT_differ 21 = .ok (.aaload, 1) := by decide +kernel
theorem dXT_differ_22 : decode cXT_differ 22 = .ok (.bipush 8, 2) := by decide +kernel
theorem dXT_differ_24 : decode cXT_differ 24 = .ok (.invokestatic 86, 3) := by decide +kernel
theorem dXT_differ_27 : decode cXT_differ 27 = .ok (.ireturn, 1) := by decide +kernel
theorem dXT_differences_0 : decode cXT_differences 0 = .ok (.aload_n 0, 1) := by decide +kernel
theorem dXT_differences_1 : decode cXT_differences 1 = .ok (.aload_n 1, 1) := by decide +kernel
theorem dXT_differences_2 : decode cXT_differences 2 = .ok (.if_acmp .ne 5, 3) := by decide +kernel
theorem dXT_differences_5 : decode cXT_differences 5 = .ok (.iconst 0, 1) := by decide +kernel
theorem dXT_differences_6 : decode cXT_differences 6 = .ok (.ireturn, 1) := by decide +kernel
theorem dXT_differences_7 : decode cXT_differences 7 = .ok (.aload_n 0, 1) := by decide +kernel
theorem dXT_differences_8 : decode cXT_differences 8 = .ok (.ifnull 7, 3) := by decide +kernel
theorem dXT_differences_11 : decode cXT_differences 11 = .ok (.aload_n 1, 1) := by decide +kernel
theorem dXT_differences_12 : decode cXT_differences 12 = .ok (.ifnonnull 13, 3) := by decide +kernel
theorem dXT_differences_15 : decode cXT_differences 15 = .ok (.aload_n 0, 1) := by decide +kernel
theorem dXT_differences_16 : decode cXT_differences 16 = .ok (.invokestatic 70, 3) := by decide +kernel
theorem dXT_differences_19 : decode cXT_differences 19 = .ok (.aload_n 1, 1) := by decide +kernel
theorem dXT_differences_20 : decode cXT_differences 20 = .ok (.invokestatic 70, 3) := by decide +kernel
theorem dXT_differences_23 : decode cXT_differences 23 = .ok (.iadd, 1) := by decide +kernel
theorem dXT_differences_24 : decode cXT_differences 24 = .ok (.ireturn, 1) := by decide +kernel
theorem dXT_differences_25 : decode cXT_differences 25 = .ok (.iload_n 2, 1) := by decide +kernel
theorem dXT_differences_26 : decode cXT_differences 26 = .ok (.ifCond .gt 20, 3) := by decide +kernel
theorem dXT_differences_29 : decode cXT_differences 29 = .ok (.aload_n 0, 1) := by decide +kernel
theorem dXT_differences_30 : decode cXT_differences 30 = .ok (.getfield 67, 3) := by decide +kernel
theorem dXT_differences_33 : decode cXT_differences 33 = .ok (.aload_n 1, 1) := by decide +kernel
theorem dXT_differences_34 : decode cXT_differences 34 = .ok (.getfield 67, 3) := by decide +kernel
theorem dXT_differences_37 : decode cXT_differences 37 = .ok (.if_icmp .ne 7, 3) := by decide +kernel
theorem dXT_differences_40 : decode cXT_differences 40 = .ok (.iconst 0, 1) := by decide +kernel
theorem dXT_differences_41 : decode cXT_differences 41 = .ok (.goto 4, 3) := by decide +kernel
theorem dXT_differences_44 : decode cXT_differences 44 = .ok (.iconst 1, 1) := by decide +kernel
theorem dXT_differences_45 : decode cXT_differences 45 = .ok (.ireturn, 1) := by decide +kernel
theorem dXT_differences_46 : decode cXT_differences 46 = .ok (.aload_n 0, 1) := by decide +kernel
theorem dXT_differences_47 : decode cXT_differences 47 = .ok (.getfield 138, 3) := by decide +kernel
theorem dXT_differences_50 : decode cXT_differences 50 = .ok (.aload_n 1, 1) := by decide +kernel
theorem dXT_differences_51 : decode cXT_differences 51 = .ok (.getfield 138, 3) := by decide +kernel
theorem dXT_differences_54 : decode cXT_differences 54 = .ok (.iload_n 2, 1) := by decide +kernel
theorem dXT_differences_55 : decode cXT_differences 55 = .ok (.iconst 1, 1) := by decide +kernel
theorem dXT_differences_56 : decode cXT_differences 56 = .ok (.isub, 1) := by decide +kernel
theorem dXT_differences_57 : decode cXT_differences 57 = .ok (.invokestatic 86, 3) := by decide +kernel
theorem dXT_differences_60 : decode cXT_differences 60 = .ok (.aload_n 0, 1) := by decide +kernel
theorem dXT_differences_61 : decode cXT_differences 61 = .ok (.getfield 142, 3) := by decide +kernel
theorem dXT_differences_64 : decode cXT_differences 64 = .ok (.aload_n 1, 1) := by decide +kernel
theorem dXT_differences_65 : decode cXT_differences 65 = .ok (.getfield 142, 3) := by decide +kernel
theorem dXT_differences_68 : decode cXT_differences 68 = .ok (.iload_n 2, 1) := by decide +kernel
theorem dXT_differences_69 : decode cXT_differences 69 = .ok (.iconst 1, 1) := by decide +kernel
theorem dXT_differences_70 : decode cXT_differences 70 = .ok (.isub, 1) := by decide +kernel
theorem dXT_differences_71 : decode cXT_differences 71 = .ok (.invokestatic 86, 3) := by decide +kernel
theorem dXT_differences_74 : decode cXT_differences 74 = .ok (.iadd, 1) := by decide +kernel
theorem dXT_differences_75 : decode cXT_differences 75 = .ok (.ireturn, 1) := by decide +kernel
theorem dXT_digest_0 : decode cXT_digest 0 = .ok (.aload_n 0, 1) := by decide +kernel
theorem dXT_digest_1 : decode cXT_digest 1 = .ok (.iload_n 1, 1) := by decide +kernel
theorem dXT_digest_2 : decode cXT_digest 2 = .ok (.invokevirtual 26, 3) := by decide +kernel
theorem dXT_digest_5 : decode cXT_digest 5 = .ok (.ldc2_w 90, 3) := by decide +kernel
theorem dXT_digest_8 : decode cXT_digest 8 = .ok (.aload_n 0, 1) := by decide +kernel
theorem dXT_digest_9 : decode cXT_digest 9 = .ok (.getfield 11, 3) := by decide +kernel
theorem dXT_digest_12 : decode cXT_digest 12 = .ok (.iload_n 1, 1) := by decide +kernel
theorem dXT_digest_13 : decode cXT_digest 13 = .ok (.aaload, 1) := by decide +kernel
theorem dXT_digest_14 : decode cXT_digest 14 = .ok (.bipush 8, 2) := by decide +kernel
theorem dXT_digest_16 : decode cXT_digest 16 = .ok (.invokestatic 92, 3) := by decide +kernel
theorem dXT_digest_19 : decode cXT_digest 19 = .ok (.lreturn, 1) := by decide +kernel
theorem dXT_digestOn_0 : decode cXT_digestOn 0 = .ok (.aload_n 2, 1) := by decide +kernel
theorem dXT_digestOn_1 : decode cXT_digestOn 1 = .ok (.ifnonnull 5, 3) := by decide +kernel
theorem dXT_digestOn_4 : decode cXT_digestOn 4 = .ok (.lload_n 0, 1) := by decide +kernel
theorem dXT_digestOn_5 : decode cXT_digestOn 5 = .ok (.lreturn, 1) := by decide +kernel
theorem dXT_digestOn_6 : decode cXT_digestOn 6 = .ok (.iload_n 3, 1) := by decide +kernel
theorem dXT_digestOn_7 : decode cXT_digestOn 7 = .ok (.ifCond .gt 25, 3) := by decide +kernel
theorem dXT_digestOn_10 : decode cXT_digestOn 10 = .ok (.lload_n 0, 1) := by decide +kernel
theorem dXT_digestOn_11 : decode cXT_digestOn 11 = .ok (.ldc2_w 145, 3) := by decide +kernel
theorem dXT_digestOn_14 : decode cXT_digestOn 14 = .ok (.lmul, 1) := by decide +kernel
theorem dXT_digestOn_15 : decode cXT_digestOn 15 = .ok (.aload_n 2, 1) := by decide +kernel
theorem dXT_digestOn_16 : decode cXT_digestOn 16 = .ok (.getfield 147, 3) := by decide +kernel
theorem dXT_digestOn_19 : decode cXT_digestOn 19 = .ok (.i2l, 1) := by decide +kernel
theorem dXT_digestOn_20 : decode cXT_digestOn 20 = .ok (.ladd, 1) := by decide +kernel
theorem dXT_digestOn_21 : decode cXT_digestOn 21 = .ok (.ldc2_w 145, 3) := by decide +kernel
theorem dXT_digestOn_24 : decode cXT_digestOn 24 = .ok (.lmul, 1) := by decide +kernel
theorem dXT_digestOn_25 : decode cXT_digestOn 25 = .ok (.aload_n 2, 1) := by decide +kernel
theorem dXT_digestOn_26 : decode cXT_digestOn 26 = .ok (.getfield 67, 3) := by decide +kernel
theorem dXT_digestOn_29 : decode cXT_digestOn 29 = .ok (.i2l, 1) := by decide +kernel
theorem dXT_digestOn_30 : decode cXT_digestOn 30 = .ok (.ladd, 1) := by decide +kernel
theorem dXT_digestOn_31 : decode cXT_digestOn 31 = .ok (.lreturn, 1) := by decide +kernel
theorem dXT_digestOn_32 : decode cXT_digestOn 32 = .ok (.lload_n 0, 1) := by decide +kernel
theorem dXT_digestOn_33 : decode cXT_digestOn 33 = .ok (.aload_n 2, 1) := by decide +kernel
theorem dXT_digestOn_34 : decode cXT_digestOn 34 = .ok (.getfield 138, 3) := by decide +kernel
theorem dXT_digestOn_37 : decode cXT_digestOn 37 = .ok (.iload_n 3, 1) := by decide +kernel
theorem dXT_digestOn_38 : decode cXT_digestOn 38 = .ok (.iconst 1, 1) := by decide +kernel
theorem dXT_digestOn_39 : decode cXT_digestOn 39 = .ok (.isub, 1) := by decide +kernel
theorem dXT_digestOn_40 : decode cXT_digestOn 40 = .ok (.invokestatic 92, 3) := by decide +kernel
theorem dXT_digestOn_43 : decode cXT_digestOn 43 = .ok (.aload_n 2, 1) := by decide +kernel
theorem dXT_digestOn_44 : decode cXT_digestOn 44 = .ok (.getfield 142, 3) := by decide +kernel
theorem dXT_digestOn_47 : decode cXT_digestOn 47 = .ok (.iload_n 3, 1) := by decide +kernel
theorem dXT_digestOn_48 : decode cXT_digestOn 48 = .ok (.iconst 1, 1) := by decide +kernel
theorem dXT_digestOn_49 : decode cXT_digestOn 49 = .ok (.isub, 1) := by decide +kernel
theorem dXT_digestOn_50 : decode cXT_digestOn 50 = .ok (.invokestatic 92, 3) := by decide +kernel
theorem dXT_digestOn_53 : decode cXT_digestOn 53 = .ok (.lreturn, 1) := by decide +kernel
end
section
/-! pure: tables of keys, trees over their bits, how much an ArrayList grows -/
section
/-- a table: which key has which value -/
abbrev mt_T : Type := Nat → Option Int32
/-- a node: height, first, low, high, value, size, total -/
abbrev mt_N : Type := Int32 × Int32 × Option Nat × Option Nat × Int32 × Int32 × Int64
def mt_lo (p : Nat → mt_N) : Option Nat → Option Nat
  | none => none
  | some a => (p a).2.2.1
def mt_hi (p : Nat → mt_N) : Option Nat → Option Nat
  | none => none
  | some a => (p a).2.2.2.1
def mt_sz (p : Nat → mt_N) : Option Nat → Int32
  | none => 0
  | some a => (p a).2.2.2.2.2.1
def mt_to (p : Nat → mt_N) : Option Nat → Int64
  | none => 0
  | some a => (p a).2.2.2.2.2.2
def mt_1 (t : mt_T) (k : Nat) : Nat := if t k = none then 0 else 1
def mt_v (t : mt_T) (k : Nat) : Int64 := match t k with
  | none => 0
  | some x => x.toInt64
/-- how many keys from b on, n places -/
def mt_c (t : mt_T) (b : Nat) : Nat → Nat
  | 0 => 0
  | n + 1 => mt_c t b n + mt_1 t (b + n)
def mt_s (t : mt_T) (b : Nat) : Nat → Int64
  | 0 => 0
  | n + 1 => mt_s t b n + mt_v t (b + n)
def mt_d (t u : mt_T) (b : Nat) : Nat → Nat
  | 0 => 0
  | n + 1 => mt_d t u b n + (if t (b + n) = u (b + n) then 0 else 1)
def mt_gs (z : Int64) (k : Nat) : Option Int32 → Int64
  | none => z
  | some x => (z * 31 + (nI k).toInt64) * 31 + x.toInt64
def mt_g (t : mt_T) (b : Nat) (z : Int64) : Nat → Int64
  | 0 => z
  | n + 1 => mt_gs (mt_g t b z n) (b + n) (t (b + n))
theorem mt_c_add (t : mt_T) (b m n : Nat) : mt_c t b (m + n) = mt_c t b m + mt_c t (b + m) n := by
  induction n with
  | zero => simp [mt_c]
  | succ n ih =>
    show mt_c t b (m + n) + mt_1 t (b + (m + n)) = mt_c t b m + (mt_c t (b + m) n + mt_1 t (b + m + n))
    rw [ih, ← Nat.add_assoc b m n, Nat.add_assoc]
theorem mt_s_add (t : mt_T) (b m n : Nat) : mt_s t b (m + n) = mt_s t b m + mt_s t (b + m) n := by
  induction n with
  | zero => simp [mt_s]
  | succ n ih =>
    show mt_s t b (m + n) + mt_v t (b + (m + n)) = mt_s t b m + (mt_s t (b + m) n + mt_v t (b + m + n))
    rw [ih, ← Nat.add_assoc b m n, Int64.add_assoc]
theorem mt_d_add (t u : mt_T) (b m n : Nat) : mt_d t u b (m + n) = mt_d t u b m + mt_d t u (b + m) n := by
  induction n with
  | zero => simp [mt_d]
  | succ n ih =>
    show mt_d t u b (m + n) + (if t (b + (m + n)) = u (b + (m + n)) then 0 else 1) = mt_d t u b m + (mt_d t u (b + m) n + (if t (b + m + n) = u (b + m + n) then 0 else 1))
    rw [ih, ← Nat.add_assoc b m n, Nat.add_assoc]
theorem mt_g_add (t : mt_T) (b : Nat) (z : Int64) (m n : Nat) : mt_g t b z (m + n) = mt_g t (b + m) (mt_g t b z m) n := by
  induction n with
  | zero => rfl
  | succ n ih =>
    show mt_gs (mt_g t b z (m + n)) (b + (m + n)) (t (b + (m + n))) = mt_gs (mt_g t (b + m) (mt_g t b z m) n) (b + m + n) (t (b + m + n))
    rw [ih, ← Nat.add_assoc b m n]
theorem mt_1_le (t : mt_T) (k : Nat) : mt_1 t k ≤ 1 := by
  unfold mt_1
  split <;> omega
theorem mt_1_0 {t : mt_T} {k : Nat} (h : t k = none) : mt_1 t k = 0 := by simp [mt_1, h]
theorem mt_1_1 {t : mt_T} {k : Nat} (h : t k ≠ none) : mt_1 t k = 1 := by simp [mt_1, h]
theorem mt_c_le (t : mt_T) (b n : Nat) : mt_c t b n ≤ n := by
  induction n with
  | zero => exact Nat.le_refl _
  | succ n ih =>
    have h := mt_1_le t (b + n)
    show mt_c t b n + mt_1 t (b + n) ≤ n + 1
    omega
theorem mt_c_ext {t u : mt_T} {b n : Nat} (h : ∀ k, k < n → u (b + k) = t (b + k)) : mt_c u b n = mt_c t b n := by
  induction n with
  | zero => rfl
  | succ n ih =>
    show mt_c u b n + mt_1 u (b + n) = mt_c t b n + mt_1 t (b + n)
    rw [ih (fun k hk => h k (by omega))]
    unfold mt_1
    rw [h n (by omega)]
theorem mt_s_ext {t u : mt_T} {b n : Nat} (h : ∀ k, k < n → u (b + k) = t (b + k)) : mt_s u b n = mt_s t b n := by
  induction n with
  | zero => rfl
  | succ n ih =>
    show mt_s u b n + mt_v u (b + n) = mt_s t b n + mt_v t (b + n)
    rw [ih (fun k hk => h k (by omega))]
    unfold mt_v
    rw [h n (by omega)]
theorem mt_c_none {t : mt_T} {b n : Nat} (h : ∀ k, k < n → t (b + k) = none) : mt_c t b n = 0 := by
  induction n with
  | zero => rfl
  | succ n ih =>
    show mt_c t b n + mt_1 t (b + n) = 0
    rw [ih (fun k hk => h k (by omega)), mt_1_0 (h n (by omega))]
theorem mt_s_none {t : mt_T} {b n : Nat} (h : ∀ k, k < n → t (b + k) = none) : mt_s t b n = 0 := by
  induction n with
  | zero => rfl
  | succ n ih =>
    show mt_s t b n + mt_v t (b + n) = 0
    rw [ih (fun k hk => h k (by omega))]
    simp [mt_v, h n (by omega)]
theorem mt_c_zero {t : mt_T} {b n : Nat} (h : mt_c t b n = 0) : ∀ k, k < n → t (b + k) = none := by
  induction n with
  | zero => intro k hk; omega
  | succ n ih =>
    have h' : mt_c t b n + mt_1 t (b + n) = 0 := h
    intro k hk
    by_cases hk2 : k < n
    · exact ih (by omega) k hk2
    · have e : k = n := by omega
      subst e
      have h1 : mt_1 t (b + k) = 0 := by omega
      unfold mt_1 at h1
      split at h1
      · assumption
      · omega
theorem mt_d_same {t u : mt_T} {b n : Nat} (h : ∀ k, k < n → t (b + k) = u (b + k)) : mt_d t u b n = 0 := by
  induction n with
  | zero => rfl
  | succ n ih =>
    show mt_d t u b n + (if t (b + n) = u (b + n) then 0 else 1) = 0
    rw [ih (fun k hk => h k (by omega)), if_pos (h n (by omega))]
theorem mt_d_l {t u : mt_T} {b n : Nat} (h : ∀ k, k < n → t (b + k) = none) : mt_d t u b n = mt_c u b n := by
  induction n with
  | zero => rfl
  | succ n ih =>
    show mt_d t u b n + (if t (b + n) = u (b + n) then 0 else 1) = mt_c u b n + mt_1 u (b + n)
    rw [ih (fun k hk => h k (by omega)), h n (by omega)]
    unfold mt_1
    by_cases e : u (b + n) = none
    · simp [e]
    · simp [e, Ne.symm e]
theorem mt_d_r {t u : mt_T} {b n : Nat} (h : ∀ k, k < n → u (b + k) = none) : mt_d t u b n = mt_c t b n := by
  induction n with
  | zero => rfl
  | succ n ih =>
    show mt_d t u b n + (if t (b + n) = u (b + n) then 0 else 1) = mt_c t b n + mt_1 t (b + n)
    rw [ih (fun k hk => h k (by omega)), h n (by omega)]
    unfold mt_1
    by_cases e : t (b + n) = none <;> simp [e]
theorem mt_g_none {t : mt_T} {b : Nat} {z : Int64} {n : Nat} (h : ∀ k, k < n → t (b + k) = none) : mt_g t b z n = z := by
  induction n with
  | zero => rfl
  | succ n ih =>
    show mt_gs (mt_g t b z n) (b + n) (t (b + n)) = z
    rw [ih (fun k hk => h k (by omega)), h n (by omega)]
    rfl
/-- the tree of height h over the keys from b on, by its root: a node of the pool L, or null where there is no key -/
def mt_rep (L : List Nat) (p : Nat → mt_N) (t : mt_T) : Nat → Nat → Option Nat → Prop
  | 0, b, none => t b = none
  | 0, b, some a => a ∈ L ∧ ∃ x, t b = some x ∧ p a = (0, nI b, none, none, x, 1, x.toInt64)
  | h + 1, b, none => ∀ k, k < 2 ^ (h + 1) → t (b + k) = none
  | h + 1, b, some a => a ∈ L ∧ ∃ lo hi, p a = (nI (h + 1), nI b, lo, hi, 0, nI (mt_c t b (2 ^ (h + 1))), mt_s t b (2 ^ (h + 1))) ∧ mt_rep L p t h b lo ∧ mt_rep L p t h (b + 2 ^ h) hi ∧ ¬ (lo = none ∧ hi = none)
theorem mt_two (h : Nat) : 2 ^ (h + 1) = 2 ^ h + 2 ^ h := by rw [Nat.pow_succ]; omega
theorem mt_rep_none {L : List Nat} {p : Nat → mt_N} {t : mt_T} {h b : Nat} : mt_rep L p t h b none ↔ ∀ k, k < 2 ^ h → t (b + k) = none := by
  cases h with
  | zero =>
    constructor
    · intro q k hk
      have e : k = 0 := by simp at hk; exact hk
      subst e
      exact q
    · intro q
      exact q 0 (by simp)
  | succ h => exact Iff.rfl
theorem mt_rep_mem {L : List Nat} {p : Nat → mt_N} {t : mt_T} {h b : Nat} {r : Option Nat} (q : mt_rep L p t h b r) : ∀ a, r = some a → a ∈ L := by
  intro a e
  subst e
  cases h with
  | zero => exact q.1
  | succ h => exact q.1
theorem mt_rep_at {L : List Nat} {p : Nat → mt_N} {t : mt_T} {h b : Nat} {r : Option Nat} (q : mt_rep L p t h b r) : ∀ a, r = some a → a ∈ L ∧ (p a).1 = nI h ∧ (p a).2.1 = nI b := by
  intro a e
  subst e
  cases h with
  | zero =>
    obtain ⟨h1, x, -, h2⟩ := q
    rw [h2]
    exact ⟨h1, rfl, rfl⟩
  | succ h =>
    obtain ⟨h1, lo, hi, h2, -⟩ := q
    rw [h2]
    exact ⟨h1, rfl, rfl⟩
theorem mt_rep_down {L : List Nat} {p : Nat → mt_N} {t : mt_T} {h b : Nat} {r : Option Nat} (q : mt_rep L p t (h + 1) b r) : mt_rep L p t h b (mt_lo p r) ∧ mt_rep L p t h (b + 2 ^ h) (mt_hi p r) := by
  cases r with
  | none =>
    have q1 : ∀ k, k < 2 ^ (h + 1) → t (b + k) = none := q
    rw [mt_two] at q1
    refine ⟨mt_rep_none.mpr (fun k hk => q1 k (by omega)), mt_rep_none.mpr (fun k hk => ?_)⟩
    rw [Nat.add_assoc]
    exact q1 _ (by omega)
  | some a =>
    obtain ⟨-, lo, hi, h2, h3, h4, -⟩ := q
    show mt_rep L p t h b (p a).2.2.1 ∧ mt_rep L p t h (b + 2 ^ h) (p a).2.2.2.1
    rw [h2]
    exact ⟨h3, h4⟩
theorem mt_rep_sz {L : List Nat} {p : Nat → mt_N} {t : mt_T} {h b : Nat} {r : Option Nat} (q : mt_rep L p t h b r) : mt_sz p r = nI (mt_c t b (2 ^ h)) ∧ mt_to p r = mt_s t b (2 ^ h) := by
  cases r with
  | none =>
    have q1 := mt_rep_none.mp q
    rw [mt_c_none q1, mt_s_none q1]
    exact ⟨rfl, rfl⟩
  | some a =>
    cases h with
    | zero =>
      obtain ⟨-, x, h1, h2⟩ := q
      show (p a).2.2.2.2.2.1 = _ ∧ (p a).2.2.2.2.2.2 = _
      rw [h2]
      have e1 : mt_c t b (2 ^ 0) = 1 := by
        show 0 + mt_1 t (b + 0) = 1
        rw [Nat.add_zero, mt_1_1 (by rw [h1]; intro z; cases z)]
      have e2 : mt_s t b (2 ^ 0) = x.toInt64 := by
        show 0 + mt_v t (b + 0) = _
        rw [Nat.add_zero, Int64.zero_add]
        unfold mt_v
        rw [h1]
      rw [e1, e2]
      exact ⟨rfl, rfl⟩
    | succ h =>
      obtain ⟨-, lo, hi, h2, -⟩ := q
      show (p a).2.2.2.2.2.1 = _ ∧ (p a).2.2.2.2.2.2 = _
      rw [h2]
      exact ⟨rfl, rfl⟩
theorem mt_rep_keep {L L' : List Nat} {p p' : Nat → mt_N} {t : mt_T} (hk : ∀ a, a ∈ L → a ∈ L' ∧ p' a = p a) : ∀ {h b : Nat} {r : Option Nat}, mt_rep L p t h b r → mt_rep L' p' t h b r := by
  intro h
  induction h with
  | zero =>
    intro b r q
    cases r with
    | none => exact q
    | some a =>
      obtain ⟨h1, x, h2, h3⟩ := q
      exact ⟨(hk a h1).1, x, h2, by rw [(hk a h1).2]; exact h3⟩
  | succ h ih =>
    intro b r q
    cases r with
    | none => exact q
    | some a =>
      obtain ⟨h1, lo, hi, h2, h3, h4, h5⟩ := q
      exact ⟨(hk a h1).1, lo, hi, by rw [(hk a h1).2]; exact h2, ih h3, ih h4, h5⟩
theorem mt_rep_ext {L : List Nat} {p : Nat → mt_N} {t u : mt_T} : ∀ {h b : Nat} {r : Option Nat}, (∀ k, k < 2 ^ h → u (b + k) = t (b + k)) → mt_rep L p t h b r → mt_rep L p u h b r := by
  intro h
  induction h with
  | zero =>
    intro b r e q
    have e0 : u b = t b := e 0 (by simp)
    cases r with
    | none =>
      show u b = none
      rw [e0]
      exact q
    | some a =>
      obtain ⟨h1, x, h2, h3⟩ := q
      exact ⟨h1, x, by rw [e0]; exact h2, h3⟩
  | succ h ih =>
    intro b r e q
    have e2 : ∀ k, k < 2 ^ h + 2 ^ h → u (b + k) = t (b + k) := by rw [← mt_two]; exact e
    cases r with
    | none =>
      show ∀ k, k < 2 ^ (h + 1) → u (b + k) = none
      intro k hk
      rw [e k hk]
      exact q k hk
    | some a =>
      obtain ⟨h1, lo, hi, h2, h3, h4, h5⟩ := q
      refine ⟨h1, lo, hi, ?_, ih (fun k hk => e2 k (by omega)) h3, ih (fun k hk => ?_) h4, h5⟩
      · rw [mt_c_ext e, mt_s_ext e]
        exact h2
      · rw [Nat.add_assoc]
        exact e2 _ (by omega)
theorem mt_rep_some {L : List Nat} {p : Nat → mt_N} {t : mt_T} : ∀ {h b : Nat} {a : Nat}, mt_rep L p t h b (some a) → mt_c t b (2 ^ h) ≠ 0 := by
  intro h
  induction h with
  | zero =>
    intro b a q
    obtain ⟨-, x, h1, -⟩ := q
    show 0 + mt_1 t (b + 0) ≠ 0
    rw [Nat.add_zero, mt_1_1 (by rw [h1]; intro z; cases z)]
    omega
  | succ h ih =>
    intro b a q
    obtain ⟨-, lo, hi, -, h3, h4, h5⟩ := q
    rw [mt_two, mt_c_add]
    cases lo with
    | some x =>
      have := ih h3
      omega
    | none =>
      cases hi with
      | some y =>
        have := ih h4
        omega
      | none => exact absurd ⟨rfl, rfl⟩ h5
/-- one root, one table -/
theorem mt_rep_fun {L : List Nat} {p : Nat → mt_N} {t u : mt_T} : ∀ {h b : Nat} {r : Option Nat}, mt_rep L p t h b r → mt_rep L p u h b r → ∀ k, k < 2 ^ h → t (b + k) = u (b + k) := by
  intro h
  induction h with
  | zero =>
    intro b r q1 q2 k hk
    have e : k = 0 := by simp at hk; exact hk
    subst e
    cases r with
    | none => exact (show t b = none from q1).trans (show u b = none from q2).symm
    | some a =>
      obtain ⟨-, x, h1, h2⟩ := q1
      obtain ⟨-, y, h3, h4⟩ := q2
      rw [h2] at h4
      injection h4 with _ h4
      injection h4 with _ h4
      injection h4 with _ h4
      injection h4 with _ h4
      injection h4 with h4 _
      show t b = u b
      rw [h1, h3, h4]
  | succ h ih =>
    intro b r q1 q2 k hk
    cases r with
    | none => rw [mt_rep_none.mp q1 k hk, mt_rep_none.mp q2 k hk]
    | some a =>
      obtain ⟨d1, d2⟩ := mt_rep_down q1
      obtain ⟨d3, d4⟩ := mt_rep_down q2
      rw [mt_two] at hk
      by_cases hk2 : k < 2 ^ h
      · exact ih d1 d3 k hk2
      · have := ih d2 d4 (k - 2 ^ h) (by omega)
        rw [Nat.add_assoc, show 2 ^ h + (k - 2 ^ h) = k by omega] at this
        exact this
/-- what check asks of a node -/
def mt_is (L : List Nat) (p : Nat → mt_N) (r : Option Nat) (h b : Nat) : Prop := ∀ a, r = some a → a ∈ L ∧ (p a).1 = nI h ∧ (p a).2.1 = nI b
def mt_ok (L : List Nat) (p : Nat → mt_N) (a : Nat) : Prop :=
  (∃ b x, p a = (0, b, none, none, x, 1, x.toInt64)) ∨ ∃ h b lo hi, h < 8 ∧ b + 2 ^ (h + 1) ≤ 256 ∧ p a = (nI (h + 1), nI b, lo, hi, 0, mt_sz p lo + mt_sz p hi, mt_to p lo + mt_to p hi) ∧ ¬ (lo = none ∧ hi = none) ∧ mt_is L p lo h b ∧ mt_is L p hi h (b + 2 ^ h)
theorem mt_is_keep {L L' : List Nat} {p p' : Nat → mt_N} (hk : ∀ a, a ∈ L → a ∈ L' ∧ p' a = p a) {r : Option Nat} {h b : Nat} (q : mt_is L p r h b) : mt_is L' p' r h b ∧ mt_sz p' r = mt_sz p r ∧ mt_to p' r = mt_to p r := by
  cases r with
  | none => exact ⟨fun a e => (nomatch e), rfl, rfl⟩
  | some a =>
    obtain ⟨h1, h2, h3⟩ := q a rfl
    obtain ⟨k1, k2⟩ := hk a h1
    refine ⟨fun a' e => ?_, ?_, ?_⟩
    · cases e
      rw [k2]
      exact ⟨k1, h2, h3⟩
    · show (p' a).2.2.2.2.2.1 = (p a).2.2.2.2.2.1
      rw [k2]
    · show (p' a).2.2.2.2.2.2 = (p a).2.2.2.2.2.2
      rw [k2]
theorem mt_ok_keep {L L' : List Nat} {p p' : Nat → mt_N} (hk : ∀ a, a ∈ L → a ∈ L' ∧ p' a = p a) {a : Nat} (ha : a ∈ L) (q : mt_ok L p a) : mt_ok L' p' a := by
  have ea := (hk a ha).2
  rcases q with ⟨b, x, h1⟩ | ⟨h, b, lo, hi, h1, h2, h3, h4, h5, h6⟩
  · exact Or.inl ⟨b, x, by rw [ea]; exact h1⟩
  · obtain ⟨l1, l2, l3⟩ := mt_is_keep hk h5
    obtain ⟨r1, r2, r3⟩ := mt_is_keep hk h6
    exact Or.inr ⟨h, b, lo, hi, h1, h2, by rw [ea, l2, l3, r2, r3]; exact h3, h4, l1, r1⟩
/-- how many nodes meld makes on the way to k, up to height h -/
def mt_na (t : mt_T) (k : Nat) : Nat → Nat
  | 0 => 0
  | h + 1 => mt_na t k h + (if mt_c t (k / 2 ^ (h + 1) * 2 ^ (h + 1)) (2 ^ (h + 1)) = 0 then 0 else 1)
theorem mt_na_le (t : mt_T) (k h : Nat) : mt_na t k h ≤ h := by
  induction h with
  | zero => exact Nat.le_refl _
  | succ h ih =>
    unfold mt_na
    split <;> omega
/-- an ArrayList's places behind an add, and behind j adds -/
def mt_cap1 (n c : Nat) : Nat := if n < c then c else if c = 0 then 10 else c + c / 2
def mt_cap (n c : Nat) : Nat → Nat
  | 0 => c
  | j + 1 => mt_cap1 (n + j) (mt_cap n c j)
def mt_gr1 (n c : Nat) : Nat := if n < c then 0 else mt_cap1 n c
def mt_gr (n c : Nat) : Nat → Nat
  | 0 => 0
  | j + 1 => mt_gr n c j + mt_gr1 (n + j) (mt_cap n c j)
/-- a list's size and places: none yet, or at least ten and not many more than are used -/
def mt_lc (n c : Nat) : Prop := (n = 0 ∧ c = 0) ∨ (10 ≤ c ∧ n ≤ c ∧ 0 < n ∧ (c = 10 ∨ 2 * c ≤ 3 * n))
theorem mt_lc1 {n c : Nat} (h : mt_lc n c) : mt_lc (n + 1) (mt_cap1 n c) ∧ mt_gr1 n c + 4 * c ≤ 4 * mt_cap1 n c ∧ c ≤ mt_cap1 n c := by
  unfold mt_lc mt_cap1 mt_gr1 mt_cap1 at *
  split
  · omega
  · split <;> omega
theorem mt_lcj {n c : Nat} (h : mt_lc n c) (j : Nat) : mt_lc (n + j) (mt_cap n c j) ∧ mt_gr n c j + 4 * c ≤ 4 * mt_cap n c j ∧ c ≤ mt_cap n c j := by
  induction j with
  | zero => exact ⟨h, by simp [mt_gr, mt_cap], Nat.le_refl _⟩
  | succ j ih =>
    obtain ⟨h1, h2, h3⟩ := ih
    obtain ⟨k1, k2, k3⟩ := mt_lc1 h1
    refine ⟨k1, ?_, Nat.le_trans h3 k3⟩
    show mt_gr n c j + mt_gr1 (n + j) (mt_cap n c j) + 4 * c ≤ 4 * mt_cap1 (n + j) (mt_cap n c j)
    omega
theorem mt_lc_max {n c : Nat} (h : mt_lc n c) : n ≤ c ∧ c ≤ 2 * n + 10 := by
  unfold mt_lc at h
  omega
end
/-! pure: bits of a key, bounds, what the reference counts -/
section
theorem mt_sh31 : ∀ h, h < 9 → ((nI h &&& 31).toBitVec.smod 32).toNat = h := by decide +kernel
theorem mt_bit {k h : Nat} (hk : k < 256) (hh : h < 8) : ((nI k >>> ((nI (h + 1) - 1) &&& 31)) &&& 1) = nI (k / 2 ^ h % 2) := by
  rw [nI_pred, pk_shrN (by omega) _ h (mt_sh31 h (by omega)), pk_andN (Nat.lt_of_le_of_lt (Nat.div_le_self _ _) (by omega)) 1 (by decide +kernel)]
theorem mt_first {k h : Nat} (hk : k < 256) (hh : h < 9) : (nI k >>> (nI h &&& 31)) <<< (nI h &&& 31) = nI (k / 2 ^ h * 2 ^ h) := by
  rw [pk_shrN (by omega) _ h (mt_sh31 h hh), pk_shlN _ h (mt_sh31 h hh) (Nat.lt_of_le_of_lt (Nat.div_mul_le_self _ _) (by omega))]
theorem mt_one : ∀ h, h < 8 → (1 : Int32) <<< (nI h &&& 31) = nI (2 ^ h) := by decide +kernel
theorem mt_base (k h : Nat) : k / 2 ^ h * 2 ^ h = k / 2 ^ (h + 1) * 2 ^ (h + 1) + k / 2 ^ h % 2 * 2 ^ h := by
  rw [Nat.pow_succ, ← Nat.div_div_eq_div_mul]
  generalize k / 2 ^ h = q
  generalize 2 ^ h = P
  have e : q = q / 2 * 2 + q % 2 := by omega
  calc q * P = (q / 2 * 2 + q % 2) * P := by rw [← e]
    _ = q / 2 * (P * 2) + q % 2 * P := by rw [Nat.add_mul, Nat.mul_assoc, Nat.mul_comm 2 P]
theorem mt_in (k h : Nat) : k / 2 ^ h * 2 ^ h ≤ k ∧ k < k / 2 ^ h * 2 ^ h + 2 ^ h := by
  have h1 := Nat.div_add_mod k (2 ^ h)
  have h2 := Nat.mod_lt k (Nat.two_pow_pos h)
  rw [Nat.mul_comm] at h1
  omega
theorem mt_base0 (k : Nat) : k / 2 ^ 0 * 2 ^ 0 = k := by simp
theorem mt_base8 {k : Nat} (h : k < 256) : k / 2 ^ 8 * 2 ^ 8 = 0 := by
  rw [Nat.div_eq_of_lt (by omega), Nat.zero_mul]
theorem mt_256 {k h : Nat} (hk : k < 256) (hh : h < 9) : k / 2 ^ h * 2 ^ h + 2 ^ h ≤ 256 := by
  have e : (256 : Nat) = 2 ^ h * 2 ^ (8 - h) := by rw [← Nat.pow_add, show h + (8 - h) = 8 by omega]
  have h1 : k / 2 ^ h < 2 ^ (8 - h) := by
    rw [Nat.div_lt_iff_lt_mul (Nat.two_pow_pos h), Nat.mul_comm, ← e]
    exact hk
  calc k / 2 ^ h * 2 ^ h + 2 ^ h = (k / 2 ^ h + 1) * 2 ^ h := by rw [Nat.add_mul, Nat.one_mul]
    _ ≤ 2 ^ (8 - h) * 2 ^ h := Nat.mul_le_mul_right _ h1
    _ = 256 := by rw [Nat.mul_comm, ← e]
/-- a bound, cut to 0 .. 256 -/
def mt_cl (a : Int32) : Nat := if a ≤ 0 then 0 else if nI 256 ≤ a then 256 else a.toInt.toNat
theorem mt_cl_le (a : Int32) : mt_cl a ≤ 256 := by
  unfold mt_cl
  split
  · omega
  · split
    · omega
    · next h1 h2 =>
      rw [Int32.le_iff_toInt_le, nI_toInt (by omega)] at h2
      omega
theorem mt_cl_ge {a : Int32} {k : Nat} (hk : k < 256) : a ≤ nI k ↔ mt_cl a ≤ k := by
  rw [Int32.le_iff_toInt_le, nI_toInt (by omega)]
  unfold mt_cl
  split
  · next h =>
    rw [Int32.le_iff_toInt_le, Int32.toInt_zero] at h
    omega
  · next h =>
    rw [Int32.le_iff_toInt_le, Int32.toInt_zero] at h
    split
    · next h2 =>
      rw [Int32.le_iff_toInt_le, nI_toInt (by omega)] at h2
      omega
    · next h2 =>
      rw [Int32.le_iff_toInt_le, nI_toInt (by omega)] at h2
      omega
theorem mt_cl_lt {a : Int32} {k : Nat} (hk : k < 256) : nI k < a ↔ k < mt_cl a := by
  rw [Int32.lt_iff_toInt_lt, nI_toInt (by omega)]
  unfold mt_cl
  split
  · next h =>
    rw [Int32.le_iff_toInt_le, Int32.toInt_zero] at h
    omega
  · next h =>
    rw [Int32.le_iff_toInt_le, Int32.toInt_zero] at h
    split
    · next h2 =>
      rw [Int32.le_iff_toInt_le, nI_toInt (by omega)] at h2
      omega
    · next h2 =>
      rw [Int32.le_iff_toInt_le, nI_toInt (by omega)] at h2
      omega
theorem mt_cl_mono {a b : Int32} (h : a < b) : mt_cl a ≤ mt_cl b := by
  rw [Int32.lt_iff_toInt_lt] at h
  unfold mt_cl
  simp only [Int32.le_iff_toInt_le, Int32.toInt_zero, nI_toInt (show 256 < 2 ^ 31 by omega)]
  split
  · omega
  · split
    · split
      · omega
      · split <;> omega
    · split
      · omega
      · split <;> omega
theorem mt_cl_anti {a b : Int32} (h : ¬ a < b) : mt_cl b ≤ mt_cl a := by
  rw [Int32.lt_iff_toInt_lt] at h
  unfold mt_cl
  simp only [Int32.le_iff_toInt_le, Int32.toInt_zero, nI_toInt (show 256 < 2 ^ 31 by omega)]
  split
  · omega
  · split
    · split
      · omega
      · split <;> omega
    · split
      · omega
      · split <;> omega
/-- the keys below n that lie between a and b, as the reference counts them -/
def mt_m (t : mt_T) (x y : Nat) : Nat → Nat
  | 0 => 0
  | n + 1 => mt_m t x y n + (if x ≤ n ∧ n < y ∧ t n ≠ none then 1 else 0)
def mt_ms (t : mt_T) (x y : Nat) : Nat → Int64
  | 0 => 0
  | n + 1 => mt_ms t x y n + (if x ≤ n ∧ n < y then mt_v t n else 0)
theorem mt_m_le (t : mt_T) (x y n : Nat) : mt_m t x y n ≤ n := by
  induction n with
  | zero => exact Nat.le_refl _
  | succ n ih =>
    unfold mt_m
    split <;> omega
theorem mt_m_eq (t : mt_T) {x y : Nat} (h : x ≤ y) (n : Nat) : mt_m t x y n + mt_c t 0 (min n x) = mt_c t 0 (min n y) := by
  induction n with
  | zero => simp [mt_m]
  | succ n ih =>
    unfold mt_m
    by_cases h1 : n < x
    · rw [if_neg (by omega), Nat.min_eq_left (show n + 1 ≤ x by omega), Nat.min_eq_left (show n + 1 ≤ y by omega)]
      rw [Nat.min_eq_left (show n ≤ x by omega), Nat.min_eq_left (show n ≤ y by omega)] at ih
      show mt_m t x y n + 0 + (mt_c t 0 n + mt_1 t (0 + n)) = mt_c t 0 n + mt_1 t (0 + n)
      omega
    · rw [Nat.min_eq_right (show x ≤ n + 1 by omega)]
      rw [Nat.min_eq_right (show x ≤ n by omega)] at ih
      by_cases h2 : n < y
      · rw [Nat.min_eq_left (show n + 1 ≤ y by omega)]
        rw [Nat.min_eq_left (show n ≤ y by omega)] at ih
        show _ = mt_c t 0 n + mt_1 t (0 + n)
        rw [Nat.zero_add]
        unfold mt_1
        by_cases e : t n = none
        · rw [if_neg (by simp [e]), if_pos e]
          omega
        · rw [if_pos ⟨by omega, h2, e⟩, if_neg e]
          omega
      · rw [Nat.min_eq_right (show y ≤ n + 1 by omega)]
        rw [Nat.min_eq_right (show y ≤ n by omega)] at ih
        rw [if_neg (by omega)]
        omega
theorem mt_m_0 (t : mt_T) {x y : Nat} (h : y ≤ x) (n : Nat) : mt_m t x y n = 0 := by
  induction n with
  | zero => rfl
  | succ n ih =>
    unfold mt_m
    rw [ih, if_neg (by omega)]
theorem mt_ms_eq (t : mt_T) {x y : Nat} (h : x ≤ y) (n : Nat) : mt_ms t x y n + mt_s t 0 (min n x) = mt_s t 0 (min n y) := by
  induction n with
  | zero => simp [mt_ms, mt_s]
  | succ n ih =>
    unfold mt_ms
    by_cases h1 : n < x
    · rw [if_neg (by omega), Nat.min_eq_left (show n + 1 ≤ x by omega), Nat.min_eq_left (show n + 1 ≤ y by omega)]
      rw [Nat.min_eq_left (show n ≤ x by omega), Nat.min_eq_left (show n ≤ y by omega)] at ih
      show mt_ms t x y n + 0 + (mt_s t 0 n + mt_v t (0 + n)) = mt_s t 0 n + mt_v t (0 + n)
      rw [Int64.add_zero, ← Int64.add_assoc, ih]
    · rw [Nat.min_eq_right (show x ≤ n + 1 by omega)]
      rw [Nat.min_eq_right (show x ≤ n by omega)] at ih
      by_cases h2 : n < y
      · rw [Nat.min_eq_left (show n + 1 ≤ y by omega)]
        rw [Nat.min_eq_left (show n ≤ y by omega)] at ih
        show _ = mt_s t 0 n + mt_v t (0 + n)
        rw [Nat.zero_add, if_pos ⟨by omega, h2⟩, ← ih, Int64.add_assoc, Int64.add_assoc, Int64.add_comm (mt_v t n)]
      · rw [Nat.min_eq_right (show y ≤ n + 1 by omega)]
        rw [Nat.min_eq_right (show y ≤ n by omega)] at ih
        rw [if_neg (by omega), Int64.add_zero]
        exact ih
theorem mt_ms_0 (t : mt_T) {x y : Nat} (h : y ≤ x) (n : Nat) : mt_ms t x y n = 0 := by
  induction n with
  | zero => rfl
  | succ n ih =>
    unfold mt_ms
    rw [ih, if_neg (by omega), Int64.add_zero]
/-- the answers of many and sum, from both sides -/
theorem mt_many (t : mt_T) (a b : Int32) : (if a < b then nI (mt_c t 0 (mt_cl b)) - nI (mt_c t 0 (mt_cl a)) else 0) = nI (mt_m t (mt_cl a) (mt_cl b) 256) := by
  by_cases h : a < b
  · rw [if_pos h]
    have e := mt_m_eq t (mt_cl_mono h) 256
    rw [Nat.min_eq_right (mt_cl_le a), Nat.min_eq_right (mt_cl_le b)] at e
    rw [pk_sub (by omega)]
    congr 1
    omega
  · rw [if_neg h, mt_m_0 t (mt_cl_anti h)]
    rfl
theorem mt_sum (t : mt_T) (a b : Int32) : (if a < b then mt_s t 0 (mt_cl b) - mt_s t 0 (mt_cl a) else 0) = mt_ms t (mt_cl a) (mt_cl b) 256 := by
  by_cases h : a < b
  · rw [if_pos h]
    have e := mt_ms_eq t (mt_cl_mono h) 256
    rw [Nat.min_eq_right (mt_cl_le a), Nat.min_eq_right (mt_cl_le b)] at e
    rw [← e, Int64.add_sub_cancel]
  · rw [if_neg h, mt_ms_0 t (mt_cl_anti h)]
end
end
section
/-! rows of my own over the kit's: a reference that may be null, a top renamed -/
section
variable {p : Program} {l : Launch} {e : Env} {R : Room} {s : State} {m : MethodId} {args : Array Value} {below : List Frame} {meth : Method} {c : Code} {H : Heap} {locs : List Loc} {cells slots : Nat} {Q : State → Prop} {cc : ByteArray} {pc : Nat} {ls : Array Slot} {rest : List Value}
theorem qa_cat (r : Option Nat) : (va_rf r).category = 1 := by cases r <;> rfl
theorem qa_ci (x : Int32) : (Value.int x).category = 1 := rfl
theorem qa_cl (x : Int64) : (Value.long x).category = 2 := rfl
theorem qa_cr (x : Nat) : (Value.ref x).category = 1 := rfl
theorem qa_cn : Value.null.category = 1 := rfl
theorem qa_sl0 : lg_sl [] = [] := rfl
theorem qa_sl1 {v : Value} (h : v.category = 1) (vs : List Value) : lg_sl (v :: vs) = .val v :: lg_sl vs := by
  simp [lg_sl, h]
theorem qa_sl2 {v : Value} (h : v.category = 2) (vs : List Value) : lg_sl (v :: vs) = .val v :: .second :: lg_sl vs := by
  simp [lg_sl, h]
theorem qa_ar1 {v : Value} (h : v.category = 1) (i : Nat) (vs : List Value) : lv_args i (v :: vs) = (i, v) :: lv_args (i + 1) vs := by
  simp [lv_args, h]
theorem qa_ar2 {v : Value} (h : v.category = 2) (i : Nat) (vs : List Value) : lv_args i (v :: vs) = (i, v) :: lv_args (i + 2) vs := by
  simp [lv_args, h]
theorem qa_i {x y : Int32} (h : x = y) (k : W p l e R s m args below meth c H locs cells slots Q (F0 m pc ls (.int y :: rest))) : W p l e R s m args below meth c H locs cells slots Q (F0 m pc ls (.int x :: rest)) := by
  rw [h]
  exact k
theorem qa_l {x y : Int64} (h : x = y) (k : W p l e R s m args below meth c H locs cells slots Q (F0 m pc ls (.long y :: rest))) : W p l e R s m args below meth c H locs cells slots Q (F0 m pc ls (.long x :: rest)) := by
  rw [h]
  exact k
theorem qa_q {x y : Option Nat} (h : x = y) (k : W p l e R s m args below meth c H locs cells slots Q (F0 m pc ls (va_rf y :: rest))) : W p l e R s m args below meth c H locs cells slots Q (F0 m pc ls (va_rf x :: rest)) := by
  rw [h]
  exact k
theorem qa_aload_n (hexec : p.tables.exec = Jvm.exec) (hb : c.code = cc) {k : Fin 4} {i : Nat} {r : Option Nat} (hdg : decode cc pc = .ok (.aload_n k, 1)) (hi : (k : Nat) = i) (hl : ls[i]? = some (.val (va_rf r)))
    (kk : W p l e R s m args below meth c H locs cells slots Q (F0 m (pc + 1) ls (va_rf r :: rest))) : W p l e R s m args below meth c H locs cells slots Q (F0 m pc ls rest) := by
  cases r with
  | none => exact lv_aload_nN hexec hb hdg hi hl kk
  | some a => exact lv_aload_n hexec hb hdg hi hl kk
theorem qa_aload (hexec : p.tables.exec = Jvm.exec) (hb : c.code = cc) {i : Nat} {r : Option Nat} (hdg : decode cc pc = .ok (.aload i, 2)) (hl : ls[i]? = some (.val (va_rf r)))
    (kk : W p l e R s m args below meth c H locs cells slots Q (F0 m (pc + 2) ls (va_rf r :: rest))) : W p l e R s m args below meth c H locs cells slots Q (F0 m pc ls rest) := by
  cases r with
  | none => exact lv_aloadN hexec hb hdg hl kk
  | some a => exact lv_aload hexec hb hdg hl kk
theorem qa_astore_n (hexec : p.tables.exec = Jvm.exec) (hb : c.code = cc) {k : Fin 4} {i nL : Nat} {r : Option Nat} {lv lv' : List (Nat × Value)} (hdg : decode cc pc = .ok (.astore_n k, 1)) (hi : (k : Nat) = i) (h : lv_has ls nL lv) (hn : i < nL) (hl : (i, va_rf r) :: lv.filter (fun q => !(q.1 == i) && !(q.1 + 1 == i && q.2.category == 2)) = lv')
    (kk : ∀ ls' : Array Slot, lv_has ls' nL lv' → W p l e R s m args below meth c H locs cells slots Q (F0 m (pc + 1) ls' rest)) : W p l e R s m args below meth c H locs cells slots Q (F0 m pc ls (va_rf r :: rest)) := by
  cases r with
  | none => exact lv_astore_nN hexec hb hdg hi h hn hl kk
  | some a => exact lv_astore_n hexec hb hdg hi h hn hl kk
theorem qa_astore (hexec : p.tables.exec = Jvm.exec) (hb : c.code = cc) {i nL : Nat} {r : Option Nat} {lv lv' : List (Nat × Value)} (hdg : decode cc pc = .ok (.astore i, 2)) (h : lv_has ls nL lv) (hn : i < nL) (hl : (i, va_rf r) :: lv.filter (fun q => !(q.1 == i) && !(q.1 + 1 == i && q.2.category == 2)) = lv')
    (kk : ∀ ls' : Array Slot, lv_has ls' nL lv' → W p l e R s m args below meth c H locs cells slots Q (F0 m (pc + 2) ls' rest)) : W p l e R s m args below meth c H locs cells slots Q (F0 m pc ls (va_rf r :: rest)) := by
  cases r with
  | none => exact lv_astoreN hexec hb hdg h hn hl kk
  | some a => exact lv_astore hexec hb hdg h hn hl kk
theorem qa_ifnull (hexec : p.tables.exec = Jvm.exec) (hb : c.code = cc) {r : Option Nat} {off : Int} {tgt : Nat} (hdg : decode cc pc = .ok (.ifnull off, 3)) (ht : (pc : Int) + off = (tgt : Int))
    (kt : r = none → W p l e R s m args below meth c H locs cells slots Q (F0 m tgt ls rest)) (kf : ∀ a, r = some a → W p l e R s m args below meth c H locs cells slots Q (F0 m (pc + 3) ls rest)) : W p l e R s m args below meth c H locs cells slots Q (F0 m pc ls (va_rf r :: rest)) := by
  cases r with
  | none => exact lv_ifnullN hexec hb hdg ht (kt rfl)
  | some a => exact lv_ifnull hexec hb hdg (kf a rfl)
theorem qa_ifnonnull (hexec : p.tables.exec = Jvm.exec) (hb : c.code = cc) {r : Option Nat} {off : Int} {tgt : Nat} (hdg : decode cc pc = .ok (.ifnonnull off, 3)) (ht : (pc : Int) + off = (tgt : Int))
    (kt : ∀ a, r = some a → W p l e R s m args below meth c H locs cells slots Q (F0 m tgt ls rest)) (kf : r = none → W p l e R s m args below meth c H locs cells slots Q (F0 m (pc + 3) ls rest)) : W p l e R s m args below meth c H locs cells slots Q (F0 m pc ls (va_rf r :: rest)) := by
  cases r with
  | none => exact lv_ifnonnullN hexec hb hdg (kf rfl)
  | some a => exact lv_ifnonnull hexec hb hdg ht (kt a rfl)
theorem qa_nar (n : String) (r : Option Nat) : narrow (.object n) (va_rf r) = va_rf r := by cases r <;> rfl
theorem qa_fit (n : String) (r : Option Nat) : fits (.object n) (va_rf r) = true := by cases r <;> rfl
end
/-! worlds by their members -/
section
variable {D : va_G} {cl : List vw_C} {A : Nat → Prop} {ws ws' : va_W} {H : Heap}
theorem qa_P (h : va_P D cl ws H) (hs : ∀ q, q ∈ ws' → q ∈ ws) : va_P D cl ws' H := fun k q hk => by
  obtain ⟨i, hi⟩ := List.getElem?_of_mem (hs q (List.mem_of_getElem? hk))
  exact h i q hi
theorem qa_D_iff : va_D A ws ↔ (ws.map Prod.fst).Nodup ∧ ∀ q, q ∈ ws → A q.1 := by
  constructor
  · intro h
    refine ⟨?_, fun q hq => ?_⟩
    · rw [List.nodup_iff_pairwise_ne, List.pairwise_iff_getElem]
      intro i j hi hj hij e
      rw [List.length_map] at hi hj
      have e1 : ws[i]? = some ws[i] := List.getElem?_eq_getElem hi
      have e2 : ws[j]? = some ws[j] := List.getElem?_eq_getElem hj
      have := h.1 i j _ _ e1 e2 (by simpa using e)
      omega
    · obtain ⟨i, hi⟩ := List.getElem?_of_mem hq
      exact h.2 i q hi
  · intro h
    refine ⟨fun i j p q hp hq e => ?_, fun k q hk => h.2 q (List.mem_of_getElem? hk)⟩
    have li : i < ws.length := (List.getElem?_eq_some_iff.mp hp).1
    exact (List.getElem?_inj (by rw [List.length_map]; exact li) h.1).mp (by rw [List.getElem?_map, List.getElem?_map, hp, hq]; simp [e])
/-- two arrays of one type are of one class -/
theorem qa_ty1 {U : State} {t1 t2 : List (ClassId × FieldType)} (h1 : va_K D cl t1 U) (h2 : va_K D cl t2 U) {i j : Nat} {c1 c2 : ClassId} {ty : FieldType} (e1 : t1[i]? = some (c1, ty)) (e2 : t2[j]? = some (c2, ty)) : c1 = c2 := by
  have r1 := (h1.2 i _ e1).2
  have r2 := (h2.2 j _ e2).2
  cases ty with
  | object C =>
    obtain ⟨k1, p1, -, -, -, f1⟩ := r1
    obtain ⟨k2, p2, -, -, -, f2⟩ := r2
    exact Option.some.inj (f1.symm.trans f2)
  | _ =>
    exact Option.some.inj ((show U.vm.findClass _ = some c1 from r1).symm.trans r2)
end
/-! a loop whose heap stays, and one whose heap moves -/
section
variable {p : Program} {l : Launch} {e : Env} {R : Room} {s : State} {m : MethodId} {args : Array Value} {below : List Frame} {meth : Method} {c : Code} {H : Heap} {locs : List Loc} {cells slots : Nat} {Q : State → Prop}
theorem qa_for {V : Type} {pc nL : Nat} {st : List Value} (f : V → Nat) (L : V → List (Nat × Value)) (inv : V → Prop)
    (step : ∀ (v : V) (ls : Array Slot), inv v → lv_has ls nL (L v) → (∀ (v' : V) (ls' : Array Slot), f v' < f v → inv v' → lv_has ls' nL (L v') → W p l e R s m args below meth c H locs cells slots Q (F0 m pc ls' st)) → W p l e R s m args below meth c H locs cells slots Q (F0 m pc ls st))
    (v : V) (ls : Array Slot) (hi : inv v) (hl : lv_has ls nL (L v)) : W p l e R s m args below meth c H locs cells slots Q (F0 m pc ls st) := by
  have key : ∀ (n : Nat) (v : V) (ls : Array Slot), f v = n → inv v → lv_has ls nL (L v) → W p l e R s m args below meth c H locs cells slots Q (F0 m pc ls st) := by
    intro n
    induction n using Nat.strongRecOn with
    | ind n ih =>
      intro v ls hn hi hl
      exact step v ls hi hl (fun v' ls' hlt hi' hl' => ih (f v') (by omega) v' ls' rfl hi' hl')
  exact key (f v) v ls rfl hi hl
theorem qa_forH {V : Type} {pc nL : Nat} {st : List Value} (f : V → Nat) (L : V → List (Nat × Value)) (inv : V → Heap → List Loc → Prop) (cf sf : V → Nat)
    (step : ∀ (v : V) (ls : Array Slot) (H : Heap) (locs : List Loc), inv v H locs → lv_has ls nL (L v) → (∀ (v' : V) (ls' : Array Slot) (H' : Heap) (locs' : List Loc), f v' < f v → inv v' H' locs' → lv_has ls' nL (L v') → W p l e R s m args below meth c H' locs' (cf v') (sf v') Q (F0 m pc ls' st)) → W p l e R s m args below meth c H locs (cf v) (sf v) Q (F0 m pc ls st))
    (v : V) (ls : Array Slot) (H : Heap) (locs : List Loc) (hi : inv v H locs) (hl : lv_has ls nL (L v)) : W p l e R s m args below meth c H locs (cf v) (sf v) Q (F0 m pc ls st) := by
  have key : ∀ (n : Nat) (v : V) (ls : Array Slot) (H : Heap) (locs : List Loc), f v = n → inv v H locs → lv_has ls nL (L v) → W p l e R s m args below meth c H locs (cf v) (sf v) Q (F0 m pc ls st) := by
    intro n
    induction n using Nat.strongRecOn with
    | ind n ih =>
      intro v ls H locs hn hi hl
      exact step v ls H locs hi hl (fun v' ls' H' locs' hlt hi' hl' => ih (f v') (by omega) v' ls' H' locs' rfl hi' hl')
  exact key (f v) v ls H locs rfl hi hl
end
section
variable {p : Program} {l : Launch} {e : Env} {R : Room} {s : State} {m : MethodId} {args : Array Value} {below : List Frame} {meth : Method} {c : Code} {H : Heap} {locs : List Loc} {cells slots : Nat} {Q : State → Prop} {cc : ByteArray} {pc : Nat} {ls : Array Slot} {rest : List Value} {D : va_G} {cl : List vw_C} {A : Nat → Prop} {tys : List (ClassId × FieldType)} {ws : va_W} {H0 : Heap} {a : Nat}
/-- aastore of a reference that may be null -/
theorem qa_astq (hexec : p.tables.exec = Jvm.exec) (hb : c.code = cc) {r' : vw_C} (hK : va_K D cl tys s) (hP : va_P D cl ws H) (hD : va_D A ws) (hS : va_S A H0 H locs) (q0 t0 ci : Nat) {cA : ClassId} {n : Nat} {v : Option Nat} {f : Nat → Option Nat} (ha : ws[q0]? = some (a, .inl (cA, n, .inr (.inr (.inr (.inr f)))))) (ht : tys[t0]? = some (cA, .object r'.1)) (hc : cl[ci]? = some r') (hv : ∀ x, v = some x → ∃ (k : Nat) (vs : List Value), ws[k]? = some (x, .inr (ci, vs))) {i : Int32} (hin : vp_in i n) (hdg : decode cc pc = .ok (.aastore, 1))
    (kk : ∀ (H1 : Heap) (locs1 : List Loc), va_P D cl (ws.set q0 (a, .inl (cA, n, .inr (.inr (.inr (.inr (va_up f i.toNatClampNeg v))))))) H1 → va_D A (ws.set q0 (a, .inl (cA, n, .inr (.inr (.inr (.inr (va_up f i.toNatClampNeg v))))))) → va_S A H0 H1 locs1 → W p l e R s m args below meth c H1 locs1 cells slots Q (F0 m (pc + 1) ls rest)) : W p l e R s m args below meth c H locs cells slots Q (F0 m pc ls (va_rf v :: .int i :: .ref a :: rest)) := by
  cases v with
  | none => exact va_astqN hexec hb hK hP hD hS q0 t0 ha ht hin hdg kk
  | some x =>
    obtain ⟨k, vs, hk⟩ := hv x rfl
    exact va_astq hexec hb hK hP hD hS q0 t0 k ci ha ht hk hc hin hdg kk
end
end
section
/-! what every contract takes as given of the machine; the world; its moves -/
/-- the ghosts: numbers of classes and slots; where the made cells begin; the empty list's array; the classes of Object[], Node[], int[], boolean[], long[], and (place 5) the Class object of Object[] -/
abbrev mt_G : Type := va_G × Nat × Nat × (Nat → ClassId)
def mt_A (g : mt_G) : Nat → Prop := fun q => g.2.1 ≤ q
def mt_words : List Cond := [(Jvm.Cond.castable "java/lang/IndexOutOfBoundsException" "java/lang/IndexOutOfBoundsException"),
  (Jvm.Cond.declares (⟨"java/lang/RuntimeException", "<init>", "()V"⟩ : MethodName)),
  (Jvm.Cond.declares (⟨"java/lang/RuntimeException", "<init>", "(Ljava/lang/String;)V"⟩ : MethodName)),
  (Jvm.Cond.declares (⟨"java/lang/Exception", "<init>", "()V"⟩ : MethodName)),
  (Jvm.Cond.declares (⟨"java/lang/Exception", "<init>", "(Ljava/lang/String;)V"⟩ : MethodName)),
  (Jvm.Cond.declares (⟨"java/lang/Throwable", "<init>", "()V"⟩ : MethodName)),
  (Jvm.Cond.declares (⟨"java/lang/Throwable", "<init>", "(Ljava/lang/String;)V"⟩ : MethodName)),
  (Jvm.Cond.castable "java/lang/IllegalStateException" "java/lang/IllegalStateException"),
  (Jvm.Cond.methodLinkNest "MeldTree" (36 : Nat) yXN_init "MeldTree"),
  (Jvm.Cond.fieldLinkNest "MeldTree" (150 : Nat) "MeldTree$Node" "height" "I" "MeldTree"),
  (Jvm.Cond.fieldLinkNest "MeldTree" (147 : Nat) "MeldTree$Node" "first" "I" "MeldTree"),
  (Jvm.Cond.fieldLinkNest "MeldTree" (138 : Nat) "MeldTree$Node" "low" "LMeldTree$Node;" "MeldTree"),
  (Jvm.Cond.fieldLinkNest "MeldTree" (142 : Nat) "MeldTree$Node" "high" "LMeldTree$Node;" "MeldTree"),
  (Jvm.Cond.fieldLinkNest "MeldTree" (67 : Nat) "MeldTree$Node" "value" "I" "MeldTree"),
  (Jvm.Cond.fieldLinkNest "MeldTree" (159 : Nat) "MeldTree$Node" "size" "I" "MeldTree"),
  (Jvm.Cond.fieldLinkNest "MeldTree" (161 : Nat) "MeldTree$Node" "total" "J" "MeldTree"),
  (Jvm.Cond.methodLinkNest "MeldTree" (131 : Nat) yXN_init_2 "MeldTree"),
  (Jvm.Cond.methodLinkNest "MeldTree$Node" (33 : Nat) yXT_sizeOf "MeldTree"),
  (Jvm.Cond.methodLinkNest "MeldTree$Node" (39 : Nat) yXT_totalOf "MeldTree"),
  (Jvm.Cond.castable "java/util/NoSuchElementException" "java/util/NoSuchElementException"),
  (Jvm.Cond.castable "MeldTree$Node" "MeldTree$Node"),
  (Jvm.Cond.declares (⟨"java/lang/Object", "getClass", "()Ljava/lang/Class;"⟩ : MethodName)),
  (Jvm.Cond.castable "MeldTree" "java/lang/Object"),
  (Jvm.Cond.castable "MeldTreeModel" "java/lang/Object"),
  (Jvm.Cond.castable "MeldTree$Node" "java/lang/Object"),
  (Jvm.Cond.castable "java/lang/String" "java/lang/Object")]
def mt_strs : List (String × Nat × String) := [("MeldTree", 111, "no such version"), ("MeldTree", 113, "keys are 0 to 255"), ("MeldTree", 117, "there are 600 versions"), ("MeldTree", 57, "the version has not this key"), ("MeldTree", 64, "keys are parted at 0 to 256"), ("MeldTree", 73, "the version has not so many keys")]
def mt_ncs : List (String × String) := [("java/lang/IllegalStateException", "java/lang/IndexOutOfBoundsException"), ("java/util/NoSuchElementException", "java/lang/IndexOutOfBoundsException"), ("java/util/NoSuchElementException", "java/lang/IllegalStateException")]
def mt_kind : Cond → Bool
  | .fieldLinkNest _ _ _ _ _ _ => true
  | .methodLinkNest _ _ _ _ => true
  | .declares _ => true
  | .castable _ _ => true
  | _ => false
theorem mt_kind_warm {w : Cond} (hk : mt_kind w = true) {s U : State} (hW : s.WarmedH U.vm) (h : va_Nw w s) : va_Nw w U := by
  cases w with
  | fieldLinkNest => exact va_Nw.warmF hW h
  | methodLinkNest => exact va_Nw.warmM hW h
  | declares => exact va_Nw.warmD hW h
  | castable => exact va_Nw.warmC hW h
  | _ => cases hk
theorem mt_kind_tab {w : Cond} (hk : mt_kind w = true) : w.onTables = true := by
  cases w with
  | fieldLinkNest => rfl
  | methodLinkNest => rfl
  | declares => rfl
  | castable => rfl
  | _ => cases hk
theorem mt_words_kind : mt_words.all mt_kind = true := by decide +kernel
def mt_tys (g : mt_G) : List (ClassId × FieldType) := [(g.2.2.2 0, .object "java/lang/Object"), (g.2.2.2 1, .object "MeldTree$Node"), (g.2.2.2 2, .int), (g.2.2.2 3, .boolean), (g.2.2.2 4, .long)]
/-- what is given of the machine and of the cells that were there before -/
def mt_E (g : mt_G) (U : State) : Prop :=
  va_K g.1 vwCl (mt_tys g) U ∧ (∀ w ∈ mt_words, va_Nw w U) ∧ (∀ q ∈ mt_strs, ∃ a, vk_R q.1 q.2.1 q.2.2 a U) ∧
  vx_Zq Bundle.tN "UNASSIGNED_STACK" Bundle.steD (mt_A g) U U.heap ∧ vx_Zq Bundle.tN "SUPPRESSED_SENTINEL" Bundle.listD (mt_A g) U U.heap ∧
  va_Z "java/util/ArrayList" "DEFAULTCAPACITY_EMPTY_ELEMENTDATA" "[Ljava/lang/Object;" (.ref g.2.2.1) (mt_A g) U U.heap ∧ (∃ f, va_T (.object "java/lang/Object") g.2.2.1 0 f (mt_A g) U U.heap) ∧
  va_Mi "[Ljava/lang/Object;" (g.2.2.2 5) U ∧ va_Dc U ∧ va_AO "java/lang/Object" U ∧ va_AO "MeldTree$Node" U ∧ ∀ q ∈ mt_ncs, va_Nc q.1 q.2 U
theorem mt_E.k {g : mt_G} {U : State} (h : mt_E g U) : va_K g.1 vwCl [(g.2.2.2 0, .object "java/lang/Object"), (g.2.2.2 1, .object "MeldTree$Node"), (g.2.2.2 2, .int), (g.2.2.2 3, .boolean), (g.2.2.2 4, .long)] U := h.1
theorem mt_E.w {g : mt_G} {U : State} (h : mt_E g U) (w : Cond) (hw : w ∈ mt_words) : va_Nw w U := h.2.1 w hw
theorem mt_E.s {g : mt_G} {U : State} (h : mt_E g U) (R : String) (k : Nat) (tx : String) (hq : (R, k, tx) ∈ mt_strs) : ∃ a, vk_R R k tx a U := h.2.2.1 _ hq
theorem mt_E.u {g : mt_G} {U : State} (h : mt_E g U) : vx_Zq Bundle.tN "UNASSIGNED_STACK" Bundle.steD (mt_A g) U U.heap := h.2.2.2.1
theorem mt_E.n {g : mt_G} {U : State} (h : mt_E g U) : vx_Zq Bundle.tN "SUPPRESSED_SENTINEL" Bundle.listD (mt_A g) U U.heap := h.2.2.2.2.1
theorem mt_E.z {g : mt_G} {U : State} (h : mt_E g U) : va_Z "java/util/ArrayList" "DEFAULTCAPACITY_EMPTY_ELEMENTDATA" "[Ljava/lang/Object;" (.ref g.2.2.1) (mt_A g) U U.heap := h.2.2.2.2.2.1
theorem mt_E.t {g : mt_G} {U : State} (h : mt_E g U) : ∃ f, va_T (.object "java/lang/Object") g.2.2.1 0 f (mt_A g) U U.heap := h.2.2.2.2.2.2.1
theorem mt_E.mi {g : mt_G} {U : State} (h : mt_E g U) : va_Mi "[Ljava/lang/Object;" (g.2.2.2 5) U := h.2.2.2.2.2.2.2.1
theorem mt_E.dc {g : mt_G} {U : State} (h : mt_E g U) : va_Dc U := h.2.2.2.2.2.2.2.2.1
theorem mt_E.ao {g : mt_G} {U : State} (h : mt_E g U) : va_AO "java/lang/Object" U := h.2.2.2.2.2.2.2.2.2.1
theorem mt_E.an {g : mt_G} {U : State} (h : mt_E g U) : va_AO "MeldTree$Node" U := h.2.2.2.2.2.2.2.2.2.2.1
theorem mt_E.nc {g : mt_G} {U : State} (h : mt_E g U) (C T : String) (hq : (C, T) ∈ mt_ncs) : va_Nc C T U := h.2.2.2.2.2.2.2.2.2.2.2 _ hq
theorem mt_E.warm {g : mt_G} {s U : State} (h : mt_E g s) (hW : s.WarmedH U.vm) (hk : ∀ a : Nat, a < s.heap.size → ¬ mt_A g a → U.heap[a]? = s.heap[a]?) : mt_E g U := by
  obtain ⟨h1, h2, h3, h4, h5, h6, ⟨f, h7⟩, h8, h9, h10, h11, h12⟩ := h
  refine ⟨va_K.moved hW.alike h1, fun w hw => mt_kind_warm (List.all_eq_true.mp mt_words_kind w hw) hW (h2 w hw), fun q hq => ?_, vx_Zq.moved hW.alike (h4.kept hk), vx_Zq.moved hW.alike (h5.kept hk), va_Z.moved hW.alike (h6.kept hk), ⟨f, va_T.moved hW.alike (h7.kept hk)⟩, va_Mi.moved hW.alike h8, va_Dc.moved hW.alike h9, va_AO.moved hW.alike h10, va_AO.moved hW.alike h11, fun q hq => va_Nc.moved hW.alike (h12 q hq)⟩
  obtain ⟨a, ha⟩ := h3 q hq
  exact ⟨a, vk_R.warm hW ha⟩
/-- the world ws, and all that is given -/
def mt_I (g : mt_G) (ws : va_W) (U : State) : Prop := mt_E g U ∧ g.2.1 ≤ U.heap.size ∧ va_P g.1 vwCl ws U.heap ∧ va_D (mt_A g) ws
def mt_Pc (g : mt_G) (ws : va_W) (av : List Value) : Array Value → State → Prop := va_Pc av (mt_I g ws)
/-- the world behind a method -/
def mt_B (g : mt_G) (ws : va_W) (t : State) : Prop := va_P g.1 vwCl ws t.heap ∧ va_D (mt_A g) ws
theorem mt_I.calling {g : mt_G} {ws : va_W} {U : State} {f : JFrame} {mk : MethodId} {a : Array Value} (h : mt_I g ws U) : mt_I g ws (U.calling f mk a) := by
  obtain ⟨h1, h2, h3, h4⟩ := h
  exact ⟨h1.warm (U := U.calling f mk a) (State.WarmedH.refl U) (fun _ _ _ => rfl), h2, h3, h4⟩
theorem mt_blind {g : mt_G} {ws : va_W} {av : List Value} : FrameBlind (mt_Pc g ws av) := fun a U f mk h => ⟨h.1, h.2.calling⟩
theorem mt_at {g : mt_G} {ws : va_W} {s U : State} {H : Heap} {locs : List Loc} (hE : mt_E g s) (hz : g.2.1 ≤ s.heap.size) (hS : va_S (mt_A g) s.heap H locs) (hP : va_P g.1 vwCl ws H) (hD : va_D (mt_A g) ws) (hU : U.heap = H) (hW : s.WarmedH U.vm) : mt_I g ws U := by
  subst hU
  exact ⟨hE.warm hW hS.2.1, Nat.le_trans hz hS.1, hP, hD⟩
theorem mt_preS {g : mt_G} {ws : va_W} {s : State} {H : Heap} {locs : List Loc} {As : List Value} (hE : mt_E g s) (hz : g.2.1 ≤ s.heap.size) (hS : va_S (mt_A g) s.heap H locs) (hP : va_P g.1 vwCl ws H) (hD : va_D (mt_A g) ws) : PreS s H (mt_Pc g ws As) As :=
  ⟨mt_blind, fun U hU hW => ⟨rfl, mt_at hE hz hS hP hD hU hW⟩⟩
theorem mt_preV {g : mt_G} {ws : va_W} {s : State} {H : Heap} {locs : List Loc} {As : List Value} {C : String} {b : Addr} (hE : mt_E g s) (hz : g.2.1 ≤ s.heap.size) (hS : va_S (mt_A g) s.heap H locs) (hP : va_P g.1 vwCl ws H) (hD : va_D (mt_A g) ws) (hr : ∃ cell : Cell, H[b]? = some cell ∧ cell.vm.isStatics = false ∧ s.vm.findClass C = some cell.cls) : PreV s H C b (mt_Pc g ws (.ref b :: As)) As :=
  ⟨mt_blind, hr, fun U hU hW => ⟨rfl, mt_at hE hz hS hP hD hU hW⟩⟩
/-- nothing that was there has changed -/
def mt_same (s : State) (H : Heap) : Prop := s.heap.size ≤ H.size ∧ ∀ q : Nat, q < s.heap.size → H[q]? = s.heap[q]?
theorem mt_same.rf {s : State} : mt_same s s.heap := ⟨Nat.le_refl _, fun _ _ => rfl⟩
theorem mt_same.step {s : State} {H H1 : Heap} (h : mt_same s H) (hz : H.size ≤ H1.size) (hk : ∀ q : Nat, q < H.size → ¬ (fun _ : Nat => False) q → H1[q]? = H[q]?) : mt_same s H1 :=
  ⟨Nat.le_trans h.1 hz, fun q hq => (hk q (Nat.lt_of_lt_of_le hq h.1) (fun z => z)).trans (h.2 q hq)⟩
theorem mt_same.F {s t : State} {H : Heap} (h : mt_same s H) (ht : t.heap = H) : va_F (fun _ => False) s t := by
  subst ht
  exact ⟨h.1, fun q hq _ => h.2 q hq⟩
theorem mt_same.ext {s t : State} {H : Heap} (h : mt_same s H) (h1 : H.size ≤ t.heap.size) (h2 : ∀ q : Nat, q < H.size → t.heap[q]? = H[q]?) : va_F (fun _ => False) s t :=
  ⟨Nat.le_trans h.1 h1, fun q hq _ => (h2 q (Nat.lt_of_lt_of_le hq h.1)).trans (h.2 q hq)⟩
theorem mt_keepP {D : va_G} {cl : List vw_C} {ws : va_W} {H H1 : Heap} (hk : ∀ q : Nat, q < H.size → ¬ (fun _ : Nat => False) q → H1[q]? = H[q]?) (hP : va_P D cl ws H) : va_P D cl ws H1 :=
  hP.kept (fun k q hq => hk q.1 (hP k q hq).lt (fun z => z))
def mt_ver (v : Int32) (cn : Nat) : Prop := 0 ≤ v ∧ v < nI cn
def mt_key (k : Int32) : Prop := 0 ≤ k ∧ k < nI 256
theorem mt_ver_nat {v : Int32} {cn : Nat} (hcn : cn ≤ 600) (h : mt_ver v cn) : ∃ j, j < cn ∧ v = nI j := by
  obtain ⟨j, hj, rfl⟩ := nI_of (x := v) (Int32.not_lt.mpr h.1)
  exact ⟨j, (nI_ltI hj (by omega)).mp h.2, rfl⟩
theorem mt_ver_of {v : Int32} {cn j : Nat} (hcn : cn ≤ 600) (hj : j < cn) (e : v = nI j) : mt_ver v cn := by
  subst e
  exact ⟨nI_pos' (by omega), nI_lt hj (by omega)⟩
theorem mt_key_nat {k : Int32} (h : mt_key k) : ∃ i, i < 256 ∧ k = nI i := by
  obtain ⟨i, hi, rfl⟩ := nI_of (x := k) (Int32.not_lt.mpr h.1)
  exact ⟨i, (nI_ltI hi (by omega)).mp h.2, rfl⟩
theorem mt_key_of {k : Int32} {i : Nat} (hi : i < 256) (e : k = nI i) : mt_key k := by
  subst e
  exact ⟨nI_pos' (by omega), nI_lt hi (by omega)⟩
/-- a node's cell -/
abbrev mt_nE (n : mt_N) : va_E := .inr (0, [.int n.1, .int n.2.1, va_rf n.2.2.1, va_rf n.2.2.2.1, .int n.2.2.2.2.1, .int n.2.2.2.2.2.1, .long n.2.2.2.2.2.2])
def mt_pool (ws : va_W) (LP : List Nat) (nf : Nat → mt_N) : Prop := ∀ a, a ∈ LP → ∃ k : Nat, ws[k]? = some (a, mt_nE (nf a))
theorem mt_pool.app {ws : va_W} {LP : List Nat} {nf : Nat → mt_N} (h : mt_pool ws LP nf) (Z : va_W) : mt_pool (ws ++ Z) LP nf := fun a ha => by
  obtain ⟨k, hk⟩ := h a ha
  exact ⟨k, by rw [List.getElem?_append_left (List.getElem?_eq_some_iff.mp hk).1]; exact hk⟩
theorem mt_pool_pl (X : va_W) (LP : List Nat) (nf : Nat → mt_N) : mt_pool (X ++ va_pl LP (fun a => mt_nE (nf a))) LP nf := fun a ha => va_pl_get (f := fun a => mt_nE (nf a)) ha
theorem qa_cmp (x : Int64) : lg_cmp x x = 0 := by simp [lg_cmp]
theorem qa_lastg {α : Type} (l : List α) (a : α) : (l ++ [a])[l.length]? = some a := by simp
theorem qa_lasts {α : Type} (l : List α) (a b : α) : (l ++ [a]).set l.length b = l ++ [b] := by simp
theorem at_66 : ∀ w ∈ (vx_atS RXT 66 "java/lang/IndexOutOfBoundsException" ["java/lang/RuntimeException", "java/lang/Exception"]).filter goodWord, w ∈ mt_all := by decide +kernel
theorem at_119 : ∀ w ∈ (vx_atS RXT 119 "java/lang/IllegalStateException" ["java/lang/RuntimeException", "java/lang/Exception"]).filter goodWord, w ∈ mt_all := by decide +kernel
end
section
set_option maxHeartbeats 4000000 in
set_option maxRecDepth 100000 in
/-- lowOf(node) -/
theorem c_lowOf (l : Launch) (g : mt_G) (ws : va_W) (LP : List Nat) (nf : Nat → mt_N) (hp : mt_pool ws LP nf) (r : Option Nat) (hm : ∀ a, r = some a → a ∈ LP) : Met l yXT_lowOf wsXT_lowOf ({ frames := 0, cells := 0, slots := 0, locals := 0 }) (mt_Pc g ws [va_rf r]) (va_Sq (fun z => z = mt_lo nf r)) (0) (0) (fun _ => False) := by
  refine Met.ofW (cc := cXT_lowOf) (maxL := 1) (ret := (some (.object "MeldTree$Node"))) (by decide) rfl ?_
  intro p e s m args below meth c s₁ B hml hv
  obtain ⟨rfl, hE, hz, hP, hD⟩ := hv
  have hx := B.exec
  have hb := B.bytes
  have hr := B.returns
  have hts := atoms_spec (ws := wsXT_lowOf) B.pre
  have hown : s.vm.findClass RXT = some m.cls := findClass_of_methodNamed B.named
  have hlocks := B.notSynchronized
  have hK := hE.k
  have hA : ∀ q : Nat, s.heap.size ≤ q → mt_A g q := fun q h => Nat.le_trans hz h
  have hS : va_S (mt_A g) s.heap s.heap [] := va_S.rf
  have hl := lv_entry ([va_rf r]) (n := 1) (by rw [qa_sl1 (qa_cat _), qa_sl0]; exact Nat.le_of_ble_eq_true rfl)
  rw [lg_entry_eq]
  generalize (lg_sl ([va_rf r]) ++ List.replicate (1 - (lg_sl ([va_rf r])).length) Slot.unset).toArray = ls at hl ⊢
  have hl : lv_has ls 1 [(0, va_rf r)] := by rw [qa_ar1 (qa_cat _)] at hl; exact hl
  have hH : s.heap = s.heap := rfl
  refine qa_aload_n hx hb dXT_lowOf_0 rfl (lv_at hl 0 rfl) ?_
  refine qa_ifnonnull (tgt := 8) hx hb dXT_lowOf_1 (by decide) (fun a e1 => ?_) (fun e1 => ?_)
  · subst e1
    obtain ⟨k0, hk0⟩ := hp a (hm a rfl)
    have hl : lv_has ls 1 [(0, .ref a)] := hl
    refine lv_aload_n hx hb dXT_lowOf_8 rfl (lv_at hl 0 rfl) ?_
    refine va_getN (D := g.1) (ci := 0) (v := va_rf ((nf a).2.2.1)) (C := RXN) (T := TXN) (N := 7) hx hb hts (fun w h => List.mem_cons_of_mem _ (in_XN w h)) hown hK hP k0 hk0 rfl 2 (by decide) (va_Nw.use rfl (hE.w (.fieldLinkNest "MeldTree" 138 "MeldTree$Node" "low" "LMeldTree$Node;" "MeldTree") (by decide +kernel))) (fun _ h9 => h9) rfl dXT_lowOf_9 ?_
    exact W.aret (v := va_rf ((nf a).2.2.1)) hx hb hr (Or.inl ⟨_, rfl⟩) (va_rf_or _) (fun t9 ht hW => ⟨(nf a).2.2.1, rfl, rfl, ht⟩) t_nil dXT_lowOf_12
  · subst e1
    refine lv_null hx hb dXT_lowOf_4 ?_
    refine lv_goto (tgt := 12) hx hb dXT_lowOf_5 (by decide) ?_
    exact W.aret (v := va_rf none) hx hb hr (Or.inl ⟨_, rfl⟩) (va_rf_or _) (fun t9 ht hW => ⟨none, rfl, rfl, ht⟩) t_nil dXT_lowOf_12
set_option maxHeartbeats 4000000 in
set_option maxRecDepth 100000 in
/-- highOf(node) -/
theorem c_highOf (l : Launch) (g : mt_G) (ws : va_W) (LP : List Nat) (nf : Nat → mt_N) (hp : mt_pool ws LP nf) (r : Option Nat) (hm : ∀ a, r = some a → a ∈ LP) : Met l yXT_highOf wsXT_highOf ({ frames := 0, cells := 0, slots := 0, locals := 0 }) (mt_Pc g ws [va_rf r]) (va_Sq (fun z => z = mt_hi nf r)) (0) (0) (fun _ => False) := by
  refine Met.ofW (cc := cXT_highOf) (maxL := 1) (ret := (some (.object "MeldTree$Node"))) (by decide) rfl ?_
  intro p e s m args below meth c s₁ B hml hv
  obtain ⟨rfl, hE, hz, hP, hD⟩ := hv
  have hx := B.exec
  have hb := B.bytes
  have hr := B.returns
  have hts := atoms_spec (ws := wsXT_highOf) B.pre
  have hown : s.vm.findClass RXT = some m.cls := findClass_of_methodNamed B.named
  have hlocks := B.notSynchronized
  have hK := hE.k
  have hA : ∀ q : Nat, s.heap.size ≤ q → mt_A g q := fun q h => Nat.le_trans hz h
  have hS : va_S (mt_A g) s.heap s.heap [] := va_S.rf
  have hl := lv_entry ([va_rf r]) (n := 1) (by rw [qa_sl1 (qa_cat _), qa_sl0]; exact Nat.le_of_ble_eq_true rfl)
  rw [lg_entry_eq]
  generalize (lg_sl ([va_rf r]) ++ List.replicate (1 - (lg_sl ([va_rf r])).length) Slot.unset).toArray = ls at hl ⊢
  have hl : lv_has ls 1 [(0, va_rf r)] := by rw [qa_ar1 (qa_cat _)] at hl; exact hl
  have hH : s.heap = s.heap := rfl
  refine qa_aload_n hx hb dXT_highOf_0 rfl (lv_at hl 0 rfl) ?_
  refine qa_ifnonnull (tgt := 8) hx hb dXT_highOf_1 (by decide) (fun a e1 => ?_) (fun e1 => ?_)
  · subst e1
    obtain ⟨k0, hk0⟩ := hp a (hm a rfl)
    have hl : lv_has ls 1 [(0, .ref a)] := hl
    refine lv_aload_n hx hb dXT_highOf_8 rfl (lv_at hl 0 rfl) ?_
    refine va_getN (D := g.1) (ci := 0) (v := va_rf ((nf a).2.2.2.1)) (C := RXN) (T := TXN) (N := 7) hx hb hts (fun w h => List.mem_cons_of_mem _ (in_XN w h)) hown hK hP k0 hk0 rfl 3 (by decide) (va_Nw.use rfl (hE.w (.fieldLinkNest "MeldTree" 142 "MeldTree$Node" "high" "LMeldTree$Node;" "MeldTree") (by decide +kernel))) (fun _ h9 => h9) rfl dXT_highOf_9 ?_
    exact W.aret (v := va_rf ((nf a).2.2.2.1)) hx hb hr (Or.inl ⟨_, rfl⟩) (va_rf_or _) (fun t9 ht hW => ⟨(nf a).2.2.2.1, rfl, rfl, ht⟩) t_nil dXT_highOf_12
  · subst e1
    refine lv_null hx hb dXT_highOf_4 ?_
    refine lv_goto (tgt := 12) hx hb dXT_highOf_5 (by decide) ?_
    exact W.aret (v := va_rf none) hx hb hr (Or.inl ⟨_, rfl⟩) (va_rf_or _) (fun t9 ht hW => ⟨none, rfl, rfl, ht⟩) t_nil dXT_highOf_12
set_option maxHeartbeats 4000000 in
set_option maxRecDepth 100000 in
/-- sizeOf(node) -/
theorem c_sizeOf (l : Launch) (g : mt_G) (ws : va_W) (LP : List Nat) (nf : Nat → mt_N) (hp : mt_pool ws LP nf) (r : Option Nat) (hm : ∀ a, r = some a → a ∈ LP) : Met l yXT_sizeOf wsXT_sizeOf ({ frames := 0, cells := 0, slots := 0, locals := 0 }) (mt_Pc g ws [va_rf r]) (vp_Si (fun z => z = mt_sz nf r)) (0) (0) (fun _ => False) := by
  refine Met.ofW (cc := cXT_sizeOf) (maxL := 1) (ret := (some .int)) (by decide) rfl ?_
  intro p e s m args below meth c s₁ B hml hv
  obtain ⟨rfl, hE, hz, hP, hD⟩ := hv
  have hx := B.exec
  have hb := B.bytes
  have hr := B.returns
  have hts := atoms_spec (ws := wsXT_sizeOf) B.pre
  have hown : s.vm.findClass RXT = some m.cls := findClass_of_methodNamed B.named
  have hlocks := B.notSynchronized
  have hK := hE.k
  have hA : ∀ q : Nat, s.heap.size ≤ q → mt_A g q := fun q h => Nat.le_trans hz h
  have hS : va_S (mt_A g) s.heap s.heap [] := va_S.rf
  have hl := lv_entry ([va_rf r]) (n := 1) (by rw [qa_sl1 (qa_cat _), qa_sl0]; exact Nat.le_of_ble_eq_true rfl)
  rw [lg_entry_eq]
  generalize (lg_sl ([va_rf r]) ++ List.replicate (1 - (lg_sl ([va_rf r])).length) Slot.unset).toArray = ls at hl ⊢
  have hl : lv_has ls 1 [(0, va_rf r)] := by rw [qa_ar1 (qa_cat _)] at hl; exact hl
  have hH : s.heap = s.heap := rfl
  refine qa_aload_n hx hb dXT_sizeOf_0 rfl (lv_at hl 0 rfl) ?_
  refine qa_ifnonnull (tgt := 8) hx hb dXT_sizeOf_1 (by decide) (fun a e1 => ?_) (fun e1 => ?_)
  · subst e1
    obtain ⟨k0, hk0⟩ := hp a (hm a rfl)
    have hl : lv_has ls 1 [(0, .ref a)] := hl
    refine lv_aload_n hx hb dXT_sizeOf_8 rfl (lv_at hl 0 rfl) ?_
    refine va_getN (D := g.1) (ci := 0) (v := .int ((nf a).2.2.2.2.2.1)) (C := RXN) (T := TXN) (N := 7) hx hb hts (fun w h => List.mem_cons_of_mem _ (in_XN w h)) hown hK hP k0 hk0 rfl 5 (by decide) (va_Nw.use rfl (hE.w (.fieldLinkNest "MeldTree" 159 "MeldTree$Node" "size" "I" "MeldTree") (by decide +kernel))) (fun _ h9 => h9) rfl dXT_sizeOf_9 ?_
    exact W.iret (v := (nf a).2.2.2.2.2.1) hx hb hr (fun t9 ht hW => ⟨(nf a).2.2.2.2.2.1, rfl, rfl, ht⟩) t_nil dXT_sizeOf_12
  · subst e1
    refine lv_iconst (v := 0) hx hb dXT_sizeOf_4 (by decide +kernel) ?_
    refine lv_goto (tgt := 12) hx hb dXT_sizeOf_5 (by decide) ?_
    exact W.iret (v := 0) hx hb hr (fun t9 ht hW => ⟨0, rfl, rfl, ht⟩) t_nil dXT_sizeOf_12
set_option maxHeartbeats 4000000 in
set_option maxRecDepth 100000 in
/-- totalOf(node) -/
theorem c_totalOf (l : Launch) (g : mt_G) (ws : va_W) (LP : List Nat) (nf : Nat → mt_N) (hp : mt_pool ws LP nf) (r : Option Nat) (hm : ∀ a, r = some a → a ∈ LP) : Met l yXT_totalOf wsXT_totalOf ({ frames := 0, cells := 0, slots := 0, locals := 0 }) (mt_Pc g ws [va_rf r]) (vp_Sl (fun z => z = mt_to nf r)) (0) (0) (fun _ => False) := by
  refine Met.ofW (cc := cXT_totalOf) (maxL := 1) (ret := (some .long)) (by decide) rfl ?_
  intro p e s m args below meth c s₁ B hml hv
  obtain ⟨rfl, hE, hz, hP, hD⟩ := hv
  have hx := B.exec
  have hb := B.bytes
  have hr := B.returns
  have hts := atoms_spec (ws := wsXT_totalOf) B.pre
  have hown : s.vm.findClass RXT = some m.cls := findClass_of_methodNamed B.named
  have hlocks := B.notSynchronized
  have hK := hE.k
  have hA : ∀ q : Nat, s.heap.size ≤ q → mt_A g q := fun q h => Nat.le_trans hz h
  have hS : va_S (mt_A g) s.heap s.heap [] := va_S.rf
  have hl := lv_entry ([va_rf r]) (n := 1) (by rw [qa_sl1 (qa_cat _), qa_sl0]; exact Nat.le_of_ble_eq_true rfl)
  rw [lg_entry_eq]
  generalize (lg_sl ([va_rf r]) ++ List.replicate (1 - (lg_sl ([va_rf r])).length) Slot.unset).toArray = ls at hl ⊢
  have hl : lv_has ls 1 [(0, va_rf r)] := by rw [qa_ar1 (qa_cat _)] at hl; exact hl
  have hH : s.heap = s.heap := rfl
  refine qa_aload_n hx hb dXT_totalOf_0 rfl (lv_at hl 0 rfl) ?_
  refine qa_ifnonnull (tgt := 8) hx hb dXT_totalOf_1 (by decide) (fun a e1 => ?_) (fun e1 => ?_)
  · subst e1
    obtain ⟨k0, hk0⟩ := hp a (hm a rfl)
    have hl : lv_has ls 1 [(0, .ref a)] := hl
    refine lv_aload_n hx hb dXT_totalOf_8 rfl (lv_at hl 0 rfl) ?_
    refine va_getN (D := g.1) (ci := 0) (v := .long ((nf a).2.2.2.2.2.2)) (C := RXN) (T := TXN) (N := 7) hx hb hts (fun w h => List.mem_cons_of_mem _ (in_XN w h)) hown hK hP k0 hk0 rfl 6 (by decide) (va_Nw.use rfl (hE.w (.fieldLinkNest "MeldTree" 161 "MeldTree$Node" "total" "J" "MeldTree") (by decide +kernel))) (fun _ h9 => h9) rfl dXT_totalOf_9 ?_
    exact W.lret (v := (nf a).2.2.2.2.2.2) hx hb hr (fun t9 ht hW => ⟨(nf a).2.2.2.2.2.2, rfl, rfl, ht⟩) t_nil dXT_totalOf_12
  · subst e1
    refine lv_lconst (v := 0) hx hb dXT_totalOf_4 (by decide +kernel) ?_
    refine lv_goto (tgt := 12) hx hb dXT_totalOf_5 (by decide) ?_
    exact W.lret (v := 0) hx hb hr (fun t9 ht hW => ⟨0, rfl, rfl, ht⟩) t_nil dXT_totalOf_12
set_option maxHeartbeats 4000000 in
set_option maxRecDepth 100000 in
/-- goesHigh(k, height) -/
theorem c_goesHigh (l : Launch) (g : mt_G) (ws : va_W) {k h : Nat} (hk : k < 256) (hh : h < 8) : Met l yXT_goesHigh wsXT_goesHigh ({ frames := 0, cells := 0, slots := 0, locals := 0 }) (mt_Pc g ws [.int (nI k), .int (nI (h + 1))]) (vp_Si (fun z => z = nI (k / 2 ^ h % 2))) (0) (0) (fun _ => False) := by
  refine Met.ofW (cc := cXT_goesHigh) (maxL := 2) (ret := (some .boolean)) (by decide) rfl ?_
  intro p e s m args below meth c s₁ B hml hv
  obtain ⟨rfl, hE, hz, hP, hD⟩ := hv
  have hx := B.exec
  have hb := B.bytes
  have hr := B.returns
  have hts := atoms_spec (ws := wsXT_goesHigh) B.pre
  have hown : s.vm.findClass RXT = some m.cls := findClass_of_methodNamed B.named
  have hlocks := B.notSynchronized
  have hK := hE.k
  have hA : ∀ q : Nat, s.heap.size ≤ q → mt_A g q := fun q h => Nat.le_trans hz h
  have hS : va_S (mt_A g) s.heap s.heap [] := va_S.rf
  have hl := lv_entry ([.int (nI k), .int (nI (h + 1))]) (n := 2) (Nat.le_of_ble_eq_true rfl)
  rw [lg_entry_eq]
  generalize (lg_sl ([.int (nI k), .int (nI (h + 1))]) ++ List.replicate (2 - (lg_sl ([.int (nI k), .int (nI (h + 1))])).length) Slot.unset).toArray = ls at hl ⊢
  have hl : lv_has ls 2 [(0, .int (nI k)), (1, .int (nI (h + 1)))] := hl
  have hH : s.heap = s.heap := rfl
  refine lv_iload_n hx hb dXT_goesHigh_0 rfl (lv_at hl 0 rfl) ?_
  refine lv_iload_n hx hb dXT_goesHigh_1 rfl (lv_at hl 1 rfl) ?_
  refine lv_iconst (v := 1) hx hb dXT_goesHigh_2 (by decide +kernel) ?_
  refine lv_isub hx hb dXT_goesHigh_3 ?_
  refine lv_ishr hx hb dXT_goesHigh_4 ?_
  refine lv_iconst (v := 1) hx hb dXT_goesHigh_5 (by decide +kernel) ?_
  refine lv_iand hx hb dXT_goesHigh_6 ?_
  refine qa_i (y := nI (k / 2 ^ h % 2)) (mt_bit hk hh) ?_
  have h2 : k / 2 ^ h % 2 = 0 ∨ k / 2 ^ h % 2 = 1 := by omega
  rcases h2 with h2 | h2
  · refine qa_i (y := nI 0) (by rw [h2]) ?_
    refine lv_iconst (v := 1) hx hb dXT_goesHigh_7 (by decide +kernel) ?_
    refine lv_icmp_ne (tgt := 15) hx hb dXT_goesHigh_8 (by decide) (fun _ => ?_) (fun z => absurd z (show ¬ nI 0 = 1 by decide))
    refine lv_iconst (v := 0) hx hb dXT_goesHigh_15 (by decide +kernel) ?_
    exact W.zret (v := 0) hx hb hr rfl (fun t9 ht hW => ⟨0, rfl, by rw [h2]; rfl, ht⟩) t_nil dXT_goesHigh_16
  · refine qa_i (y := nI 1) (by rw [h2]) ?_
    refine lv_iconst (v := 1) hx hb dXT_goesHigh_7 (by decide +kernel) ?_
    refine lv_icmp_ne (tgt := 15) hx hb dXT_goesHigh_8 (by decide) (fun z => absurd (show nI 1 = 1 by decide) z) (fun _ => ?_)
    refine lv_iconst (v := 1) hx hb dXT_goesHigh_11 (by decide +kernel) ?_
    refine lv_goto (tgt := 16) hx hb dXT_goesHigh_12 (by decide) ?_
    exact W.zret (v := 1) hx hb hr rfl (fun t9 ht hW => ⟨1, rfl, by rw [h2]; rfl, ht⟩) t_nil dXT_goesHigh_16
end
section
set_option maxHeartbeats 4000000 in
set_option maxRecDepth 100000 in
/-- leafAt(root, k): the leaf at k, or null -/
theorem c_leafAt (l : Launch) (g : mt_G) (ws : va_W) (LP : List Nat) (nf : Nat → mt_N) (hp : mt_pool ws LP nf) (t : mt_T) (r : Option Nat) (hr0 : mt_rep LP nf t 8 0 r) {k : Nat} (hk : k < 256) : Met l yXT_leafAt wsXT_leafAt ({ frames := 1, cells := 0, slots := 0, locals := 21 }) (mt_Pc g ws [va_rf r, .int (nI k)]) (va_Sq (fun z => mt_rep LP nf t 0 k z)) (0) (0) (fun _ => False) := by
  refine Met.ofW (cc := cXT_leafAt) (maxL := 4) (ret := (some (.object "MeldTree$Node"))) (by decide) rfl ?_
  intro p e s m args below meth c s₁ B hml hv
  obtain ⟨rfl, hE, hz, hP, hD⟩ := hv
  have hx := B.exec
  have hb := B.bytes
  have hr := B.returns
  have hts := atoms_spec (ws := wsXT_leafAt) B.pre
  have hown : s.vm.findClass RXT = some m.cls := findClass_of_methodNamed B.named
  have hlocks := B.notSynchronized
  have hK := hE.k
  have hA : ∀ q : Nat, s.heap.size ≤ q → mt_A g q := fun q h => Nat.le_trans hz h
  have hS : va_S (mt_A g) s.heap s.heap [] := va_S.rf
  have hl := lv_entry ([va_rf r, .int (nI k)]) (n := 4) (by rw [qa_sl1 (qa_cat _), qa_sl1 (qa_ci _), qa_sl0]; exact Nat.le_of_ble_eq_true rfl)
  rw [lg_entry_eq]
  generalize (lg_sl ([va_rf r, .int (nI k)]) ++ List.replicate (4 - (lg_sl ([va_rf r, .int (nI k)])).length) Slot.unset).toArray = ls at hl ⊢
  have hl : lv_has ls 4 [(0, va_rf r), (1, .int (nI k))] := by rw [qa_ar1 (qa_cat _), qa_ar1 (qa_ci _)] at hl; exact hl
  have hH : s.heap = s.heap := rfl
  refine qa_aload_n hx hb dXT_leafAt_0 rfl (lv_at hl 0 rfl) ?_
  refine qa_astore_n (i := 2) (lv' := [(2, va_rf r), (0, va_rf r), (1, .int (nI k))]) hx hb dXT_leafAt_1 rfl hl (by decide) (by simp [List.filter, qa_cat, qa_ci, qa_cl, qa_cr, qa_cn]) (fun ls hl => ?_)
  refine lv_bipush (v := (nI 8)) hx hb dXT_leafAt_2 (by decide +kernel) ?_
  refine lv_istore_n (i := 3) (lv' := [(3, .int (nI 8)), (2, va_rf r), (0, va_rf r), (1, .int (nI k))]) hx hb dXT_leafAt_4 rfl hl (by decide) (by simp [List.filter, qa_cat, qa_ci, qa_cl, qa_cr, qa_cn]) (fun ls hl => ?_)
  refine qa_for (V := Nat × Option Nat) (fun v => v.1) (fun v => [(3, .int (nI v.1)), (2, va_rf v.2), (0, va_rf r), (1, .int (nI k))]) (fun v => v.1 ≤ 8 ∧ mt_rep LP nf t v.1 (k / 2 ^ v.1 * 2 ^ v.1) v.2) ?_ (8, r) ls ⟨Nat.le_refl _, by rw [mt_base8 hk]; exact hr0⟩ hl
  intro v ls hi hl ih
  obtain ⟨h, z⟩ := v
  obtain ⟨h8, hz0⟩ := hi
  dsimp only at h8 hz0 hl ih
  cases h with
  | zero =>
    refine lv_iload_n hx hb dXT_leafAt_5 rfl (lv_at hl 0 rfl) ?_
    refine lv_if_le (tgt := 35) hx hb dXT_leafAt_6 (by decide) (fun _ => ?_) (fun z => absurd (show nI 0 ≤ 0 by decide) z)
    refine qa_aload_n hx hb dXT_leafAt_35 rfl (lv_at hl 1 rfl) ?_
    rw [mt_base0] at hz0
    exact W.aret (v := va_rf z) hx hb hr (Or.inl ⟨_, rfl⟩) (va_rf_or _) (fun t9 ht hW => ⟨z, rfl, hz0, ht⟩) t_nil dXT_leafAt_36
  | succ h =>
    refine lv_iload_n hx hb dXT_leafAt_5 rfl (lv_at hl 0 rfl) ?_
    refine lv_if_le (tgt := 35) hx hb dXT_leafAt_6 (by decide) (fun z => absurd z (nI_nle (n := h + 1) (by omega) (by omega))) (fun _ => ?_)
    obtain ⟨d1, d2⟩ := mt_rep_down hz0
    have hb2 := mt_base k h
    refine lv_iload_n hx hb dXT_leafAt_9 rfl (lv_at hl 3 rfl) ?_
    refine lv_iload_n hx hb dXT_leafAt_10 rfl (lv_at hl 0 rfl) ?_
    refine vp_callSi (W.runS (As := [.int (nI k), .int (nI (h + 1))]) (rest := []) ⟨hx, hb, hml, hown, hts⟩ (c_goesHigh l g ws (k := k) (h := h) hk (by omega)) (va_cwS 2 hts (mt_giS mw_274 mw_275 mw_1 (mt_gi mw_276)) rfl rfl rfl (by decide +kernel) ⟨Nat.le_of_ble_eq_true rfl, Nat.le_of_ble_eq_true rfl⟩) (mt_preS hE hz hS hP hD) rfl rfl hl.1 rfl (lv_room (Nat.le_of_ble_eq_true rfl)) dXT_leafAt_11 ⟨Nat.zero_le _, Nat.zero_le _⟩) (fun z1 e1 => ?_)
    subst e1
    have h2 : k / 2 ^ h % 2 = 0 ∨ k / 2 ^ h % 2 = 1 := by omega
    rcases h2 with h2 | h2
    · refine qa_i (y := nI 0) (by rw [h2]) ?_
      refine lv_if_eq (tgt := 24) hx hb dXT_leafAt_14 (by decide) (fun _ => ?_) (fun z => absurd (show nI 0 = 0 by decide) z)
      refine qa_aload_n hx hb dXT_leafAt_24 rfl (lv_at hl 1 rfl) ?_
      refine va_csq (W.runS (As := [va_rf z]) (rest := []) ⟨hx, hb, hml, hown, hts⟩ (c_lowOf l g _ LP nf hp z (mt_rep_mem hz0)) (va_cwS 1 hts (mt_giS mw_277 mw_278 mw_1 (mt_gi mw_279)) rfl rfl rfl (by decide +kernel) ⟨Nat.le_of_ble_eq_true rfl, Nat.le_of_ble_eq_true rfl⟩) (mt_preS hE hz hS hP hD) rfl rfl hl.1 rfl (lv_room (Nat.le_of_ble_eq_true rfl)) dXT_leafAt_25 ⟨Nat.zero_le _, Nat.zero_le _⟩) (fun z1 e1 => ?_)
      subst e1
      refine qa_astore_n (i := 2) (lv' := [(2, va_rf (mt_lo nf z)), (3, .int (nI (h + 1))), (0, va_rf r), (1, .int (nI k))]) hx hb dXT_leafAt_28 rfl hl (by decide) (by simp [List.filter, qa_cat, qa_ci, qa_cl, qa_cr, qa_cn]) (fun ls hl => ?_)
      refine lv_iinc (k := 1) (v := (nI h)) (lv' := [(3, .int (nI h)), (2, va_rf (mt_lo nf z)), (0, va_rf r), (1, .int (nI k))]) hx hb dXT_leafAt_29 hl rfl (pk_m1 h) (by decide) (by simp [List.filter, qa_cat, qa_ci, qa_cl, qa_cr, qa_cn]) (fun ls hl => ?_)
      refine lv_goto (tgt := 5) hx hb dXT_leafAt_32 (by decide) ?_
      have hl := lv_sub (l' := [(3, .int (nI h)), (2, va_rf (mt_lo nf z)), (0, va_rf r), (1, .int (nI k))]) hl [0, 1, 2, 3] rfl
      exact ih (h, mt_lo nf z) ls (Nat.lt_succ_self h) ⟨by show h ≤ 8; omega, by show mt_rep LP nf t h (k / 2 ^ h * 2 ^ h) _; rw [hb2, h2, Nat.zero_mul, Nat.add_zero]; exact d1⟩ hl
    · refine qa_i (y := nI 1) (by rw [h2]) ?_
      refine lv_if_eq (tgt := 24) hx hb dXT_leafAt_14 (by decide) (fun z => absurd z (show ¬ nI 1 = 0 by decide)) (fun _ => ?_)
      refine qa_aload_n hx hb dXT_leafAt_17 rfl (lv_at hl 1 rfl) ?_
      refine va_csq (W.runS (As := [va_rf z]) (rest := []) ⟨hx, hb, hml, hown, hts⟩ (c_highOf l g _ LP nf hp z (mt_rep_mem hz0)) (va_cwS 1 hts (mt_giS mw_280 mw_281 mw_1 (mt_gi mw_282)) rfl rfl rfl (by decide +kernel) ⟨Nat.le_of_ble_eq_true rfl, Nat.le_of_ble_eq_true rfl⟩) (mt_preS hE hz hS hP hD) rfl rfl hl.1 rfl (lv_room (Nat.le_of_ble_eq_true rfl)) dXT_leafAt_18 ⟨Nat.zero_le _, Nat.zero_le _⟩) (fun z1 e1 => ?_)
      subst e1
      refine lv_goto (tgt := 28) hx hb dXT_leafAt_21 (by decide) ?_
      refine qa_astore_n (i := 2) (lv' := [(2, va_rf (mt_hi nf z)), (3, .int (nI (h + 1))), (0, va_rf r), (1, .int (nI k))]) hx hb dXT_leafAt_28 rfl hl (by decide) (by simp [List.filter, qa_cat, qa_ci, qa_cl, qa_cr, qa_cn]) (fun ls hl => ?_)
      refine lv_iinc (k := 1) (v := (nI h)) (lv' := [(3, .int (nI h)), (2, va_rf (mt_hi nf z)), (0, va_rf r), (1, .int (nI k))]) hx hb dXT_leafAt_29 hl rfl (pk_m1 h) (by decide) (by simp [List.filter, qa_cat, qa_ci, qa_cl, qa_cr, qa_cn]) (fun ls hl => ?_)
      refine lv_goto (tgt := 5) hx hb dXT_leafAt_32 (by decide) ?_
      have hl := lv_sub (l' := [(3, .int (nI h)), (2, va_rf (mt_hi nf z)), (0, va_rf r), (1, .int (nI k))]) hl [0, 1, 2, 3] rfl
      exact ih (h, mt_hi nf z) ls (Nat.lt_succ_self h) ⟨by show h ≤ 8; omega, by show mt_rep LP nf t h (k / 2 ^ h * 2 ^ h) _; rw [hb2, h2, Nat.one_mul]; exact d2⟩ hl
set_option maxHeartbeats 4000000 in
set_option maxRecDepth 100000 in
/-- keyAt(root, i): the i-th key -/
theorem c_keyAt (l : Launch) (g : mt_G) (ws : va_W) (LP : List Nat) (nf : Nat → mt_N) (hp : mt_pool ws LP nf) (t : mt_T) (r : Option Nat) (hr0 : mt_rep LP nf t 8 0 r) {i : Nat} (hi0 : i < mt_c t 0 256) : Met l yXT_keyAt wsXT_keyAt ({ frames := 1, cells := 0, slots := 0, locals := 20 }) (mt_Pc g ws [va_rf r, .int (nI i)]) (vp_Si (fun z => ∃ k, k < 256 ∧ z = nI k ∧ t k ≠ none ∧ mt_c t 0 k = i)) (0) (0) (fun _ => False) := by
  refine Met.ofW (cc := cXT_keyAt) (maxL := 7) (ret := (some .int)) (by decide) rfl ?_
  intro p e s m args below meth c s₁ B hml hv
  obtain ⟨rfl, hE, hz, hP, hD⟩ := hv
  have hx := B.exec
  have hb := B.bytes
  have hr := B.returns
  have hts := atoms_spec (ws := wsXT_keyAt) B.pre
  have hown : s.vm.findClass RXT = some m.cls := findClass_of_methodNamed B.named
  have hlocks := B.notSynchronized
  have hK := hE.k
  have hA : ∀ q : Nat, s.heap.size ≤ q → mt_A g q := fun q h => Nat.le_trans hz h
  have hS : va_S (mt_A g) s.heap s.heap [] := va_S.rf
  have hl := lv_entry ([va_rf r, .int (nI i)]) (n := 7) (by rw [qa_sl1 (qa_cat _), qa_sl1 (qa_ci _), qa_sl0]; exact Nat.le_of_ble_eq_true rfl)
  rw [lg_entry_eq]
  generalize (lg_sl ([va_rf r, .int (nI i)]) ++ List.replicate (7 - (lg_sl ([va_rf r, .int (nI i)])).length) Slot.unset).toArray = ls at hl ⊢
  have hl : lv_has ls 7 [(0, va_rf r), (1, .int (nI i))] := by rw [qa_ar1 (qa_cat _), qa_ar1 (qa_ci _)] at hl; exact hl
  have hH : s.heap = s.heap := rfl
  refine qa_aload_n hx hb dXT_keyAt_0 rfl (lv_at hl 0 rfl) ?_
  refine qa_astore_n (i := 2) (lv' := [(2, va_rf r), (0, va_rf r), (1, .int (nI i))]) hx hb dXT_keyAt_1 rfl hl (by decide) (by simp [List.filter, qa_cat, qa_ci, qa_cl, qa_cr, qa_cn]) (fun ls hl => ?_)
  refine lv_iconst (v := 0) hx hb dXT_keyAt_2 (by decide +kernel) ?_
  refine lv_istore_n (i := 3) (lv' := [(3, .int 0), (2, va_rf r), (0, va_rf r), (1, .int (nI i))]) hx hb dXT_keyAt_3 rfl hl (by decide) (by simp [List.filter, qa_cat, qa_ci, qa_cl, qa_cr, qa_cn]) (fun ls hl => ?_)
  refine lv_iload_n hx hb dXT_keyAt_4 rfl (lv_at hl 3 rfl) ?_
  refine lv_istore (i := 4) (lv' := [(4, .int (nI i)), (3, .int 0), (2, va_rf r), (0, va_rf r), (1, .int (nI i))]) hx hb dXT_keyAt_5 hl (by decide) (by simp [List.filter, qa_cat, qa_ci, qa_cl, qa_cr, qa_cn]) (fun ls hl => ?_)
  refine lv_bipush (v := (nI 8)) hx hb dXT_keyAt_7 (by decide +kernel) ?_
  refine lv_istore (i := 5) (lv' := [(5, .int (nI 8)), (4, .int (nI i)), (3, .int 0), (2, va_rf r), (0, va_rf r), (1, .int (nI i))]) hx hb dXT_keyAt_9 hl (by decide) (by simp [List.filter, qa_cat, qa_ci, qa_cl, qa_cr, qa_cn]) (fun ls hl => ?_)
  have hc256 := mt_c_le t 0 256
  refine qa_for (V := Nat × Nat × Nat × Option Nat) (fun v => v.1) (fun v => [(5, .int (nI v.1)), (4, .int (nI v.2.1)), (3, .int (nI v.2.2.1)), (2, va_rf v.2.2.2), (0, va_rf r), (1, .int (nI i))]) (fun v => v.1 ≤ 8 ∧ v.2.2.1 * 2 ^ v.1 + 2 ^ v.1 ≤ 256 ∧ mt_rep LP nf t v.1 (v.2.2.1 * 2 ^ v.1) v.2.2.2 ∧ v.2.1 + mt_c t 0 (v.2.2.1 * 2 ^ v.1) = i ∧ v.2.1 < mt_c t (v.2.2.1 * 2 ^ v.1) (2 ^ v.1)) ?_ (8, i, 0, r) ls ⟨Nat.le_refl _, by show 0 * 2 ^ 8 + 2 ^ 8 ≤ 256; decide, by rw [Nat.zero_mul]; exact hr0, by simp [mt_c], by rw [Nat.zero_mul]; exact hi0⟩ hl
  intro v ls hi hl ih
  obtain ⟨h, le, ke, z⟩ := v
  obtain ⟨h8, hke, hz0, hi1, hi2⟩ := hi
  dsimp only at h8 hke hz0 hi1 hi2 hl ih
  cases h with
  | zero =>
    refine lv_iload hx hb dXT_keyAt_11 (lv_at hl 0 rfl) ?_
    refine lv_if_le (tgt := 68) hx hb dXT_keyAt_13 (by decide) (fun _ => ?_) (fun z => absurd (show nI 0 ≤ 0 by decide) z)
    refine lv_iload_n hx hb dXT_keyAt_68 rfl (lv_at hl 2 rfl) ?_
    rw [Nat.pow_zero, Nat.mul_one] at hi1 hi2 hke
    have hi3 : le < mt_1 t ke := by have := hi2; simp only [mt_c, Nat.add_zero, Nat.zero_add] at this; exact this
    have hi4 := mt_1_le t ke
    have hi5 : t ke ≠ none := fun h9 => by rw [mt_1_0 h9] at hi3; omega
    exact W.iret (v := (nI ke)) hx hb hr (fun t9 ht hW => ⟨(nI ke), rfl, ⟨ke, by omega, rfl, hi5, by omega⟩, ht⟩) t_nil dXT_keyAt_69
  | succ h =>
    refine lv_iload hx hb dXT_keyAt_11 (lv_at hl 0 rfl) ?_
    refine lv_if_le (tgt := 68) hx hb dXT_keyAt_13 (by decide) (fun z => absurd z (nI_nle (n := h + 1) (by omega) (by omega))) (fun _ => ?_)
    obtain ⟨d1, d2⟩ := mt_rep_down hz0
    have e2 : ke * 2 ^ (h + 1) = 2 * ke * 2 ^ h := by rw [Nat.pow_succ, Nat.mul_comm (2 ^ h) 2, ← Nat.mul_assoc, Nat.mul_comm ke 2]
    have e3 := mt_two h
    have e4 : (2 * ke + 1) * 2 ^ h = 2 * ke * 2 ^ h + 2 ^ h := by rw [Nat.add_mul, Nat.one_mul]
    rw [e2] at d1 d2 hi1 hi2 hke
    rw [e3] at hi2 hke
    rw [mt_c_add] at hi2
    have hp2 := Nat.two_pow_pos h
    refine qa_aload_n hx hb dXT_keyAt_16 rfl (lv_at hl 3 rfl) ?_
    refine va_csq (W.runS (As := [va_rf z]) (rest := []) ⟨hx, hb, hml, hown, hts⟩ (c_lowOf l g _ LP nf hp z (mt_rep_mem hz0)) (va_cwS 1 hts (mt_giS mw_277 mw_278 mw_1 (mt_gi mw_279)) rfl rfl rfl (by decide +kernel) ⟨Nat.le_of_ble_eq_true rfl, Nat.le_of_ble_eq_true rfl⟩) (mt_preS hE hz hS hP hD) rfl rfl hl.1 rfl (lv_room (Nat.le_of_ble_eq_true rfl)) dXT_keyAt_17 ⟨Nat.zero_le _, Nat.zero_le _⟩) (fun z1 e1 => ?_)
    subst e1
    refine vp_callSi (W.runS (As := [va_rf (mt_lo nf z)]) (rest := []) ⟨hx, hb, hml, hown, hts⟩ (c_sizeOf l g _ LP nf hp (mt_lo nf z) (mt_rep_mem d1)) (va_cwS 1 hts (mt_giS mw_101 mw_102 mw_1 (mt_gi mw_103)) rfl rfl rfl (by decide +kernel) ⟨Nat.le_of_ble_eq_true rfl, Nat.le_of_ble_eq_true rfl⟩) (mt_preS hE hz hS hP hD) rfl rfl hl.1 rfl (lv_room (Nat.le_of_ble_eq_true rfl)) dXT_keyAt_20 ⟨Nat.zero_le _, Nat.zero_le _⟩) (fun z1 e1 => ?_)
    subst e1
    refine qa_i (y := (nI (mt_c t (2 * ke * 2 ^ h) (2 ^ h)))) ((mt_rep_sz d1).1) ?_
    have hcl := mt_c_le t (2 * ke * 2 ^ h) (2 ^ h)
    have hc2 := mt_c_le t (2 * ke * 2 ^ h + 2 ^ h) (2 ^ h)
    generalize hcv : mt_c t (2 * ke * 2 ^ h) (2 ^ h) = cv at hcl hi2 ⊢
    refine lv_istore (i := 6) (lv' := [(6, .int (nI cv)), (5, .int (nI (h + 1))), (4, .int (nI le)), (3, .int (nI ke)), (2, va_rf z), (0, va_rf r), (1, .int (nI i))]) hx hb dXT_keyAt_23 hl (by decide) (by simp [List.filter, qa_cat, qa_ci, qa_cl, qa_cr, qa_cn]) (fun ls hl => ?_)
    refine lv_iload hx hb dXT_keyAt_25 (lv_at hl 2 rfl) ?_
    refine lv_iload hx hb dXT_keyAt_27 (lv_at hl 0 rfl) ?_
    by_cases hlt : le < cv
    · refine lv_icmp_ge (tgt := 44) hx hb dXT_keyAt_29 (by decide) (fun z => absurd z (nI_ge hlt (by omega))) (fun _ => ?_)
      refine lv_iconst (v := (nI 2)) hx hb dXT_keyAt_32 (by decide +kernel) ?_
      refine lv_iload_n hx hb dXT_keyAt_33 rfl (lv_at hl 3 rfl) ?_
      refine lv_imul hx hb dXT_keyAt_34 ?_
      refine qa_i (y := (nI (2 * ke))) (pk_mul 2 ke) ?_
      refine lv_istore_n (i := 3) (lv' := [(3, .int (nI (2 * ke))), (6, .int (nI cv)), (5, .int (nI (h + 1))), (4, .int (nI le)), (2, va_rf z), (0, va_rf r), (1, .int (nI i))]) hx hb dXT_keyAt_35 rfl hl (by decide) (by simp [List.filter, qa_cat, qa_ci, qa_cl, qa_cr, qa_cn]) (fun ls hl => ?_)
      refine qa_aload_n hx hb dXT_keyAt_36 rfl (lv_at hl 4 rfl) ?_
      refine va_csq (W.runS (As := [va_rf z]) (rest := []) ⟨hx, hb, hml, hown, hts⟩ (c_lowOf l g _ LP nf hp z (mt_rep_mem hz0)) (va_cwS 1 hts (mt_giS mw_277 mw_278 mw_1 (mt_gi mw_279)) rfl rfl rfl (by decide +kernel) ⟨Nat.le_of_ble_eq_true rfl, Nat.le_of_ble_eq_true rfl⟩) (mt_preS hE hz hS hP hD) rfl rfl hl.1 rfl (lv_room (Nat.le_of_ble_eq_true rfl)) dXT_keyAt_37 ⟨Nat.zero_le _, Nat.zero_le _⟩) (fun z1 e1 => ?_)
      subst e1
      refine qa_astore_n (i := 2) (lv' := [(2, va_rf (mt_lo nf z)), (3, .int (nI (2 * ke))), (6, .int (nI cv)), (5, .int (nI (h + 1))), (4, .int (nI le)), (0, va_rf r), (1, .int (nI i))]) hx hb dXT_keyAt_40 rfl hl (by decide) (by simp [List.filter, qa_cat, qa_ci, qa_cl, qa_cr, qa_cn]) (fun ls hl => ?_)
      refine lv_goto (tgt := 62) hx hb dXT_keyAt_41 (by decide) ?_
      refine lv_iinc (k := 3) (v := (nI h)) (lv' := [(5, .int (nI h)), (2, va_rf (mt_lo nf z)), (3, .int (nI (2 * ke))), (6, .int (nI cv)), (4, .int (nI le)), (0, va_rf r), (1, .int (nI i))]) hx hb dXT_keyAt_62 hl rfl (pk_m1 h) (by decide) (by simp [List.filter, qa_cat, qa_ci, qa_cl, qa_cr, qa_cn]) (fun ls hl => ?_)
      refine lv_goto (tgt := 11) hx hb dXT_keyAt_65 (by decide) ?_
      have hl := lv_sub (l' := [(5, .int (nI h)), (4, .int (nI le)), (3, .int (nI (2 * ke))), (2, va_rf (mt_lo nf z)), (0, va_rf r), (1, .int (nI i))]) hl [0, 4, 2, 1, 5, 6] rfl
      exact ih (h, le, 2 * ke, mt_lo nf z) ls (Nat.lt_succ_self h) ⟨by show h ≤ 8; omega, by show 2 * ke * 2 ^ h + 2 ^ h ≤ 256; omega, d1, hi1, by show le < mt_c t (2 * ke * 2 ^ h) (2 ^ h); rw [hcv]; exact hlt⟩ hl
    · refine lv_icmp_ge (tgt := 44) hx hb dXT_keyAt_29 (by decide) (fun _ => ?_) (fun z => absurd (nI_le (a := cv) (b := le) (by omega) (by omega)) z)
      refine lv_iconst (v := (nI 2)) hx hb dXT_keyAt_44 (by decide +kernel) ?_
      refine lv_iload_n hx hb dXT_keyAt_45 rfl (lv_at hl 3 rfl) ?_
      refine lv_imul hx hb dXT_keyAt_46 ?_
      refine qa_i (y := (nI (2 * ke))) (pk_mul 2 ke) ?_
      refine lv_iconst (v := 1) hx hb dXT_keyAt_47 (by decide +kernel) ?_
      refine lv_iadd hx hb dXT_keyAt_48 ?_
      refine qa_i (y := (nI (2 * ke + 1))) (nI_1 (2 * ke)) ?_
      refine lv_istore_n (i := 3) (lv' := [(3, .int (nI (2 * ke + 1))), (6, .int (nI cv)), (5, .int (nI (h + 1))), (4, .int (nI le)), (2, va_rf z), (0, va_rf r), (1, .int (nI i))]) hx hb dXT_keyAt_49 rfl hl (by decide) (by simp [List.filter, qa_cat, qa_ci, qa_cl, qa_cr, qa_cn]) (fun ls hl => ?_)
      refine lv_iload hx hb dXT_keyAt_50 (lv_at hl 3 rfl) ?_
      refine lv_iload hx hb dXT_keyAt_52 (lv_at hl 1 rfl) ?_
      refine lv_isub hx hb dXT_keyAt_54 ?_
      refine qa_i (y := (nI (le - cv))) (pk_sub (by omega)) ?_
      refine lv_istore (i := 4) (lv' := [(4, .int (nI (le - cv))), (3, .int (nI (2 * ke + 1))), (6, .int (nI cv)), (5, .int (nI (h + 1))), (2, va_rf z), (0, va_rf r), (1, .int (nI i))]) hx hb dXT_keyAt_55 hl (by decide) (by simp [List.filter, qa_cat, qa_ci, qa_cl, qa_cr, qa_cn]) (fun ls hl => ?_)
      refine qa_aload_n hx hb dXT_keyAt_57 rfl (lv_at hl 4 rfl) ?_
      refine va_csq (W.runS (As := [va_rf z]) (rest := []) ⟨hx, hb, hml, hown, hts⟩ (c_highOf l g _ LP nf hp z (mt_rep_mem hz0)) (va_cwS 1 hts (mt_giS mw_280 mw_281 mw_1 (mt_gi mw_282)) rfl rfl rfl (by decide +kernel) ⟨Nat.le_of_ble_eq_true rfl, Nat.le_of_ble_eq_true rfl⟩) (mt_preS hE hz hS hP hD) rfl rfl hl.1 rfl (lv_room (Nat.le_of_ble_eq_true rfl)) dXT_keyAt_58 ⟨Nat.zero_le _, Nat.zero_le _⟩) (fun z1 e1 => ?_)
      subst e1
      refine qa_astore_n (i := 2) (lv' := [(2, va_rf (mt_hi nf z)), (4, .int (nI (le - cv))), (3, .int (nI (2 * ke + 1))), (6, .int (nI cv)), (5, .int (nI (h + 1))), (0, va_rf r), (1, .int (nI i))]) hx hb dXT_keyAt_61 rfl hl (by decide) (by simp [List.filter, qa_cat, qa_ci, qa_cl, qa_cr, qa_cn]) (fun ls hl => ?_)
      refine lv_iinc (k := 4) (v := (nI h)) (lv' := [(5, .int (nI h)), (2, va_rf (mt_hi nf z)), (4, .int (nI (le - cv))), (3, .int (nI (2 * ke + 1))), (6, .int (nI cv)), (0, va_rf r), (1, .int (nI i))]) hx hb dXT_keyAt_62 hl rfl (pk_m1 h) (by decide) (by simp [List.filter, qa_cat, qa_ci, qa_cl, qa_cr, qa_cn]) (fun ls hl => ?_)
      refine lv_goto (tgt := 11) hx hb dXT_keyAt_65 (by decide) ?_
      have hl := lv_sub (l' := [(5, .int (nI h)), (4, .int (nI (le - cv))), (3, .int (nI (2 * ke + 1))), (2, va_rf (mt_hi nf z)), (0, va_rf r), (1, .int (nI i))]) hl [0, 2, 3, 1, 5, 6] rfl
      exact ih (h, le - cv, 2 * ke + 1, mt_hi nf z) ls (Nat.lt_succ_self h) ⟨by show h ≤ 8; omega, by show (2 * ke + 1) * 2 ^ h + 2 ^ h ≤ 256; rw [e4]; omega, by show mt_rep LP nf t h ((2 * ke + 1) * 2 ^ h) _; rw [e4]; exact d2, by show le - cv + mt_c t 0 ((2 * ke + 1) * 2 ^ h) = i; rw [e4, mt_c_add, Nat.zero_add, hcv]; omega, by show le - cv < mt_c t ((2 * ke + 1) * 2 ^ h) (2 ^ h); rw [e4]; omega⟩ hl
set_option maxHeartbeats 4000000 in
set_option maxRecDepth 100000 in
/-- sizeBelow(root, bound) -/
theorem c_sizeBelow (l : Launch) (g : mt_G) (ws : va_W) (LP : List Nat) (nf : Nat → mt_N) (hp : mt_pool ws LP nf) (t : mt_T) (r : Option Nat) (hr0 : mt_rep LP nf t 8 0 r) (bd : Int32) : Met l yXT_sizeBelow wsXT_sizeBelow ({ frames := 1, cells := 0, slots := 0, locals := 21 }) (mt_Pc g ws [va_rf r, .int bd]) (vp_Si (fun z => z = nI (mt_c t 0 (mt_cl bd)))) (0) (0) (fun _ => False) := by
  refine Met.ofW (cc := cXT_sizeBelow) (maxL := 5) (ret := (some .int)) (by decide) rfl ?_
  intro p e s m args below meth c s₁ B hml hv
  obtain ⟨rfl, hE, hz, hP, hD⟩ := hv
  have hx := B.exec
  have hb := B.bytes
  have hr := B.returns
  have hts := atoms_spec (ws := wsXT_sizeBelow) B.pre
  have hown : s.vm.findClass RXT = some m.cls := findClass_of_methodNamed B.named
  have hlocks := B.notSynchronized
  have hK := hE.k
  have hA : ∀ q : Nat, s.heap.size ≤ q → mt_A g q := fun q h => Nat.le_trans hz h
  have hS : va_S (mt_A g) s.heap s.heap [] := va_S.rf
  have hl := lv_entry ([va_rf r, .int bd]) (n := 5) (by rw [qa_sl1 (qa_cat _), qa_sl1 (qa_ci _), qa_sl0]; exact Nat.le_of_ble_eq_true rfl)
  rw [lg_entry_eq]
  generalize (lg_sl ([va_rf r, .int bd]) ++ List.replicate (5 - (lg_sl ([va_rf r, .int bd])).length) Slot.unset).toArray = ls at hl ⊢
  have hl : lv_has ls 5 [(0, va_rf r), (1, .int bd)] := by rw [qa_ar1 (qa_cat _), qa_ar1 (qa_ci _)] at hl; exact hl
  have hH : s.heap = s.heap := rfl
  refine lv_iload_n hx hb dXT_sizeBelow_0 rfl (lv_at hl 1 rfl) ?_
  refine lv_if_gt (tgt := 6) hx hb dXT_sizeBelow_1 (by decide) (fun c1 => ?_) (fun c1 => ?_)
  · refine lv_iload_n hx hb dXT_sizeBelow_6 rfl (lv_at hl 1 rfl) ?_
    refine lv_sipush (v := (nI 256)) hx hb dXT_sizeBelow_7 (by decide +kernel) ?_
    refine lv_icmp_lt (tgt := 18) hx hb dXT_sizeBelow_10 (by decide) (fun c2 => ?_) (fun c2 => ?_)
    · obtain ⟨k, hk31, rfl⟩ := nI_of (x := bd) (fun h9 => absurd c1 (Int32.not_lt.mpr (Int32.le_of_lt h9)))
      have hk : k < 256 := (nI_ltI hk31 (by decide)).mp c2
      have hk0 : 0 < k := (nI_ltI (by decide) hk31).mp c1
      have ecl : mt_cl (nI k) = k := by unfold mt_cl; rw [if_neg (nI_nle hk0 hk31), if_neg (nI_ge hk (by decide)), nI_toInt hk31]; rfl
      refine qa_aload_n hx hb dXT_sizeBelow_18 rfl (lv_at hl 0 rfl) ?_
      refine qa_astore_n (i := 2) (lv' := [(2, va_rf r), (0, va_rf r), (1, .int (nI k))]) hx hb dXT_sizeBelow_19 rfl hl (by decide) (by simp [List.filter, qa_cat, qa_ci, qa_cl, qa_cr, qa_cn]) (fun ls hl => ?_)
      refine lv_iconst (v := 0) hx hb dXT_sizeBelow_20 (by decide +kernel) ?_
      refine lv_istore_n (i := 3) (lv' := [(3, .int 0), (2, va_rf r), (0, va_rf r), (1, .int (nI k))]) hx hb dXT_sizeBelow_21 rfl hl (by decide) (by simp [List.filter, qa_cat, qa_ci, qa_cl, qa_cr, qa_cn]) (fun ls hl => ?_)
      refine lv_bipush (v := (nI 8)) hx hb dXT_sizeBelow_22 (by decide +kernel) ?_
      refine lv_istore (i := 4) (lv' := [(4, .int (nI 8)), (3, .int 0), (2, va_rf r), (0, va_rf r), (1, .int (nI k))]) hx hb dXT_sizeBelow_24 hl (by decide) (by simp [List.filter, qa_cat, qa_ci, qa_cl, qa_cr, qa_cn]) (fun ls hl => ?_)
      refine qa_for (V := Nat × Nat × Option Nat) (fun v => v.1) (fun v => [(4, .int (nI v.1)), (3, .int (nI v.2.1)), (2, va_rf v.2.2), (0, va_rf r), (1, .int (nI k))]) (fun v => v.1 ≤ 8 ∧ v.2.1 = mt_c t 0 (k / 2 ^ v.1 * 2 ^ v.1) ∧ mt_rep LP nf t v.1 (k / 2 ^ v.1 * 2 ^ v.1) v.2.2) ?_ (8, 0, r) ls ⟨Nat.le_refl _, by rw [mt_base8 hk]; rfl, by rw [mt_base8 hk]; exact hr0⟩ hl
      intro v ls hi hl ih
      obtain ⟨h, ac, z⟩ := v
      obtain ⟨h8, hac, hz0⟩ := hi
      dsimp only at h8 hac hz0 hl ih
      cases h with
      | zero =>
        refine lv_iload hx hb dXT_sizeBelow_26 (lv_at hl 0 rfl) ?_
        refine lv_if_le (tgt := 69) hx hb dXT_sizeBelow_28 (by decide) (fun _ => ?_) (fun z => absurd (show nI 0 ≤ 0 by decide) z)
        refine lv_iload_n hx hb dXT_sizeBelow_69 rfl (lv_at hl 1 rfl) ?_
        rw [mt_base0] at hac
        exact W.iret (v := nI (ac)) hx hb hr (fun t9 ht hW => ⟨nI (ac), rfl, by rw [ecl, hac], ht⟩) t_nil dXT_sizeBelow_70
      | succ h =>
        refine lv_iload hx hb dXT_sizeBelow_26 (lv_at hl 0 rfl) ?_
        refine lv_if_le (tgt := 69) hx hb dXT_sizeBelow_28 (by decide) (fun z => absurd z (nI_nle (n := h + 1) (by omega) (by omega))) (fun _ => ?_)
        obtain ⟨d1, d2⟩ := mt_rep_down hz0
        have hb2 := mt_base k h
        refine lv_iload_n hx hb dXT_sizeBelow_31 rfl (lv_at hl 4 rfl) ?_
        refine lv_iload hx hb dXT_sizeBelow_32 (lv_at hl 0 rfl) ?_
        refine vp_callSi (W.runS (As := [.int (nI k), .int (nI (h + 1))]) (rest := []) ⟨hx, hb, hml, hown, hts⟩ (c_goesHigh l g ws (k := k) (h := h) hk (by omega)) (va_cwS 2 hts (mt_giS mw_274 mw_275 mw_1 (mt_gi mw_276)) rfl rfl rfl (by decide +kernel) ⟨Nat.le_of_ble_eq_true rfl, Nat.le_of_ble_eq_true rfl⟩) (mt_preS hE hz hS hP hD) rfl rfl hl.1 rfl (lv_room (Nat.le_of_ble_eq_true rfl)) dXT_sizeBelow_34 ⟨Nat.zero_le _, Nat.zero_le _⟩) (fun z1 e1 => ?_)
        subst e1
        have h2 : k / 2 ^ h % 2 = 0 ∨ k / 2 ^ h % 2 = 1 := by omega
        rcases h2 with h2 | h2
        · refine qa_i (y := nI 0) (by rw [h2]) ?_
          refine lv_if_eq (tgt := 58) hx hb dXT_sizeBelow_37 (by decide) (fun _ => ?_) (fun z => absurd (show nI 0 = 0 by decide) z)
          refine qa_aload_n hx hb dXT_sizeBelow_58 rfl (lv_at hl 2 rfl) ?_
          refine va_csq (W.runS (As := [va_rf z]) (rest := []) ⟨hx, hb, hml, hown, hts⟩ (c_lowOf l g _ LP nf hp z (mt_rep_mem hz0)) (va_cwS 1 hts (mt_giS mw_277 mw_278 mw_1 (mt_gi mw_279)) rfl rfl rfl (by decide +kernel) ⟨Nat.le_of_ble_eq_true rfl, Nat.le_of_ble_eq_true rfl⟩) (mt_preS hE hz hS hP hD) rfl rfl hl.1 rfl (lv_room (Nat.le_of_ble_eq_true rfl)) dXT_sizeBelow_59 ⟨Nat.zero_le _, Nat.zero_le _⟩) (fun z1 e1 => ?_)
          subst e1
          refine qa_astore_n (i := 2) (lv' := [(2, va_rf (mt_lo nf z)), (4, .int (nI (h + 1))), (3, .int (nI (ac))), (0, va_rf r), (1, .int (nI k))]) hx hb dXT_sizeBelow_62 rfl hl (by decide) (by simp [List.filter, qa_cat, qa_ci, qa_cl, qa_cr, qa_cn]) (fun ls hl => ?_)
          refine lv_iinc (k := 1) (v := (nI h)) (lv' := [(4, .int (nI h)), (2, va_rf (mt_lo nf z)), (3, .int (nI (ac))), (0, va_rf r), (1, .int (nI k))]) hx hb dXT_sizeBelow_63 hl rfl (pk_m1 h) (by decide) (by simp [List.filter, qa_cat, qa_ci, qa_cl, qa_cr, qa_cn]) (fun ls hl => ?_)
          refine lv_goto (tgt := 26) hx hb dXT_sizeBelow_66 (by decide) ?_
          have hl := lv_sub (l' := [(4, .int (nI h)), (3, .int (nI (ac))), (2, va_rf (mt_lo nf z)), (0, va_rf r), (1, .int (nI k))]) hl [0, 2, 1, 3, 4] rfl
          rw [h2, Nat.zero_mul, Nat.add_zero] at hb2
          exact ih (h, ac, mt_lo nf z) ls (Nat.lt_succ_self h) ⟨by show h ≤ 8; omega, by show ac = mt_c t 0 (k / 2 ^ h * 2 ^ h); rw [hb2]; exact hac, by show mt_rep LP nf t h (k / 2 ^ h * 2 ^ h) _; rw [hb2]; exact d1⟩ hl
        · refine qa_i (y := nI 1) (by rw [h2]) ?_
          refine lv_if_eq (tgt := 58) hx hb dXT_sizeBelow_37 (by decide) (fun z => absurd z (show ¬ nI 1 = 0 by decide)) (fun _ => ?_)
          refine lv_iload_n hx hb dXT_sizeBelow_40 rfl (lv_at hl 1 rfl) ?_
          refine qa_aload_n hx hb dXT_sizeBelow_41 rfl (lv_at hl 2 rfl) ?_
          refine va_csq (W.runS (As := [va_rf z]) (rest := [.int (nI (ac))]) ⟨hx, hb, hml, hown, hts⟩ (c_lowOf l g _ LP nf hp z (mt_rep_mem hz0)) (va_cwS 1 hts (mt_giS mw_277 mw_278 mw_1 (mt_gi mw_279)) rfl rfl rfl (by decide +kernel) ⟨Nat.le_of_ble_eq_true rfl, Nat.le_of_ble_eq_true rfl⟩) (mt_preS hE hz hS hP hD) rfl rfl hl.1 rfl (lv_room (Nat.le_of_ble_eq_true rfl)) dXT_sizeBelow_42 ⟨Nat.zero_le _, Nat.zero_le _⟩) (fun z1 e1 => ?_)
          subst e1
          refine vp_callSi (W.runS (As := [va_rf (mt_lo nf z)]) (rest := [.int (nI (ac))]) ⟨hx, hb, hml, hown, hts⟩ (c_sizeOf l g _ LP nf hp (mt_lo nf z) (mt_rep_mem d1)) (va_cwS 1 hts (mt_giS mw_101 mw_102 mw_1 (mt_gi mw_103)) rfl rfl rfl (by decide +kernel) ⟨Nat.le_of_ble_eq_true rfl, Nat.le_of_ble_eq_true rfl⟩) (mt_preS hE hz hS hP hD) rfl rfl hl.1 rfl (lv_room (Nat.le_of_ble_eq_true rfl)) dXT_sizeBelow_45 ⟨Nat.zero_le _, Nat.zero_le _⟩) (fun z1 e1 => ?_)
          subst e1
          refine lv_iadd hx hb dXT_sizeBelow_48 ?_
          refine qa_i (y := (nI (ac + mt_c t (k / 2 ^ (h + 1) * 2 ^ (h + 1)) (2 ^ h)))) (by rw [(mt_rep_sz d1).1]; exact nI_add _ _) ?_
          refine lv_istore_n (i := 3) (lv' := [(3, .int (nI (ac + mt_c t (k / 2 ^ (h + 1) * 2 ^ (h + 1)) (2 ^ h)))), (4, .int (nI (h + 1))), (2, va_rf z), (0, va_rf r), (1, .int (nI k))]) hx hb dXT_sizeBelow_49 rfl hl (by decide) (by simp [List.filter, qa_cat, qa_ci, qa_cl, qa_cr, qa_cn]) (fun ls hl => ?_)
          refine qa_aload_n hx hb dXT_sizeBelow_50 rfl (lv_at hl 2 rfl) ?_
          refine va_csq (W.runS (As := [va_rf z]) (rest := []) ⟨hx, hb, hml, hown, hts⟩ (c_highOf l g _ LP nf hp z (mt_rep_mem hz0)) (va_cwS 1 hts (mt_giS mw_280 mw_281 mw_1 (mt_gi mw_282)) rfl rfl rfl (by decide +kernel) ⟨Nat.le_of_ble_eq_true rfl, Nat.le_of_ble_eq_true rfl⟩) (mt_preS hE hz hS hP hD) rfl rfl hl.1 rfl (lv_room (Nat.le_of_ble_eq_true rfl)) dXT_sizeBelow_51 ⟨Nat.zero_le _, Nat.zero_le _⟩) (fun z1 e1 => ?_)
          subst e1
          refine qa_astore_n (i := 2) (lv' := [(2, va_rf (mt_hi nf z)), (3, .int (nI (ac + mt_c t (k / 2 ^ (h + 1) * 2 ^ (h + 1)) (2 ^ h)))), (4, .int (nI (h + 1))), (0, va_rf r), (1, .int (nI k))]) hx hb dXT_sizeBelow_54 rfl hl (by decide) (by simp [List.filter, qa_cat, qa_ci, qa_cl, qa_cr, qa_cn]) (fun ls hl => ?_)
          refine lv_goto (tgt := 63) hx hb dXT_sizeBelow_55 (by decide) ?_
          refine lv_iinc (k := 2) (v := (nI h)) (lv' := [(4, .int (nI h)), (2, va_rf (mt_hi nf z)), (3, .int (nI (ac + mt_c t (k / 2 ^ (h + 1) * 2 ^ (h + 1)) (2 ^ h)))), (0, va_rf r), (1, .int (nI k))]) hx hb dXT_sizeBelow_63 hl rfl (pk_m1 h) (by decide) (by simp [List.filter, qa_cat, qa_ci, qa_cl, qa_cr, qa_cn]) (fun ls hl => ?_)
          refine lv_goto (tgt := 26) hx hb dXT_sizeBelow_66 (by decide) ?_
          have hl := lv_sub (l' := [(4, .int (nI h)), (3, .int (nI (ac + mt_c t (k / 2 ^ (h + 1) * 2 ^ (h + 1)) (2 ^ h)))), (2, va_rf (mt_hi nf z)), (0, va_rf r), (1, .int (nI k))]) hl [0, 2, 1, 3, 4] rfl
          rw [h2, Nat.one_mul] at hb2
          exact ih (h, ac + mt_c t (k / 2 ^ (h + 1) * 2 ^ (h + 1)) (2 ^ h), mt_hi nf z) ls (Nat.lt_succ_self h) ⟨by show h ≤ 8; omega, by show _ = mt_c t 0 (k / 2 ^ h * 2 ^ h); rw [hb2, mt_c_add, Nat.zero_add, hac], by show mt_rep LP nf t h (k / 2 ^ h * 2 ^ h) _; rw [hb2]; exact d2⟩ hl
    · refine qa_aload_n hx hb dXT_sizeBelow_13 rfl (lv_at hl 0 rfl) ?_
      refine vp_callSi (W.runS (As := [va_rf r]) (rest := []) ⟨hx, hb, hml, hown, hts⟩ (c_sizeOf l g _ LP nf hp r (mt_rep_mem hr0)) (va_cwS 1 hts (mt_giS mw_101 mw_102 mw_1 (mt_gi mw_103)) rfl rfl rfl (by decide +kernel) ⟨Nat.le_of_ble_eq_true rfl, Nat.le_of_ble_eq_true rfl⟩) (mt_preS hE hz hS hP hD) rfl rfl hl.1 rfl (lv_room (Nat.le_of_ble_eq_true rfl)) dXT_sizeBelow_14 ⟨Nat.zero_le _, Nat.zero_le _⟩) (fun z1 e1 => ?_)
      subst e1
      have e0 : mt_cl bd = 256 := by unfold mt_cl; rw [if_neg (Int32.not_le.mpr c1), if_pos (Int32.not_lt.mp c2)]
      exact W.iret (v := (mt_sz nf r)) hx hb hr (fun t9 ht hW => ⟨(mt_sz nf r), rfl, by rw [e0]; exact (mt_rep_sz hr0).1, ht⟩) t_nil dXT_sizeBelow_17
  · refine lv_iconst (v := 0) hx hb dXT_sizeBelow_4 (by decide +kernel) ?_
    have e0 : mt_cl bd = 0 := if_pos (Int32.not_lt.mp c1)
    exact W.iret (v := 0) hx hb hr (fun t9 ht hW => ⟨0, rfl, by rw [e0]; rfl, ht⟩) t_nil dXT_sizeBelow_5
set_option maxHeartbeats 4000000 in
set_option maxRecDepth 100000 in
/-- totalBelow(root, bound) -/
theorem c_totalBelow (l : Launch) (g : mt_G) (ws : va_W) (LP : List Nat) (nf : Nat → mt_N) (hp : mt_pool ws LP nf) (t : mt_T) (r : Option Nat) (hr0 : mt_rep LP nf t 8 0 r) (bd : Int32) : Met l yXT_totalBelow wsXT_totalBelow ({ frames := 1, cells := 0, slots := 0, locals := 21 }) (mt_Pc g ws [va_rf r, .int bd]) (vp_Sl (fun z => z = mt_s t 0 (mt_cl bd))) (0) (0) (fun _ => False) := by
  refine Met.ofW (cc := cXT_totalBelow) (maxL := 6) (ret := (some .long)) (by decide) rfl ?_
  intro p e s m args below meth c s₁ B hml hv
  obtain ⟨rfl, hE, hz, hP, hD⟩ := hv
  have hx := B.exec
  have hb := B.bytes
  have hr := B.returns
  have hts := atoms_spec (ws := wsXT_totalBelow) B.pre
  have hown : s.vm.findClass RXT = some m.cls := findClass_of_methodNamed B.named
  have hlocks := B.notSynchronized
  have hK := hE.k
  have hA : ∀ q : Nat, s.heap.size ≤ q → mt_A g q := fun q h => Nat.le_trans hz h
  have hS : va_S (mt_A g) s.heap s.heap [] := va_S.rf
  have hl := lv_entry ([va_rf r, .int bd]) (n := 6) (by rw [qa_sl1 (qa_cat _), qa_sl1 (qa_ci _), qa_sl0]; exact Nat.le_of_ble_eq_true rfl)
  rw [lg_entry_eq]
  generalize (lg_sl ([va_rf r, .int bd]) ++ List.replicate (6 - (lg_sl ([va_rf r, .int bd])).length) Slot.unset).toArray = ls at hl ⊢
  have hl : lv_has ls 6 [(0, va_rf r), (1, .int bd)] := by rw [qa_ar1 (qa_cat _), qa_ar1 (qa_ci _)] at hl; exact hl
  have hH : s.heap = s.heap := rfl
  refine lv_iload_n hx hb dXT_totalBelow_0 rfl (lv_at hl 1 rfl) ?_
  refine lv_if_gt (tgt := 6) hx hb dXT_totalBelow_1 (by decide) (fun c1 => ?_) (fun c1 => ?_)
  · refine lv_iload_n hx hb dXT_totalBelow_6 rfl (lv_at hl 1 rfl) ?_
    refine lv_sipush (v := (nI 256)) hx hb dXT_totalBelow_7 (by decide +kernel) ?_
    refine lv_icmp_lt (tgt := 18) hx hb dXT_totalBelow_10 (by decide) (fun c2 => ?_) (fun c2 => ?_)
    · obtain ⟨k, hk31, rfl⟩ := nI_of (x := bd) (fun h9 => absurd c1 (Int32.not_lt.mpr (Int32.le_of_lt h9)))
      have hk : k < 256 := (nI_ltI hk31 (by decide)).mp c2
      have hk0 : 0 < k := (nI_ltI (by decide) hk31).mp c1
      have ecl : mt_cl (nI k) = k := by unfold mt_cl; rw [if_neg (nI_nle hk0 hk31), if_neg (nI_ge hk (by decide)), nI_toInt hk31]; rfl
      refine qa_aload_n hx hb dXT_totalBelow_18 rfl (lv_at hl 0 rfl) ?_
      refine qa_astore_n (i := 2) (lv' := [(2, va_rf r), (0, va_rf r), (1, .int (nI k))]) hx hb dXT_totalBelow_19 rfl hl (by decide) (by simp [List.filter, qa_cat, qa_ci, qa_cl, qa_cr, qa_cn]) (fun ls hl => ?_)
      refine lv_lconst (v := 0) hx hb dXT_totalBelow_20 (by decide +kernel) ?_
      refine lv_lstore_n (i := 3) (lv' := [(3, .long 0), (2, va_rf r), (0, va_rf r), (1, .int (nI k))]) hx hb dXT_totalBelow_21 rfl hl (by decide) (by simp [List.filter, qa_cat, qa_ci, qa_cl, qa_cr, qa_cn]) (fun ls hl => ?_)
      refine lv_bipush (v := (nI 8)) hx hb dXT_totalBelow_22 (by decide +kernel) ?_
      refine lv_istore (i := 5) (lv' := [(5, .int (nI 8)), (3, .long 0), (2, va_rf r), (0, va_rf r), (1, .int (nI k))]) hx hb dXT_totalBelow_24 hl (by decide) (by simp [List.filter, qa_cat, qa_ci, qa_cl, qa_cr, qa_cn]) (fun ls hl => ?_)
      refine qa_for (V := Nat × Int64 × Option Nat) (fun v => v.1) (fun v => [(5, .int (nI v.1)), (3, .long v.2.1), (2, va_rf v.2.2), (0, va_rf r), (1, .int (nI k))]) (fun v => v.1 ≤ 8 ∧ v.2.1 = mt_s t 0 (k / 2 ^ v.1 * 2 ^ v.1) ∧ mt_rep LP nf t v.1 (k / 2 ^ v.1 * 2 ^ v.1) v.2.2) ?_ (8, 0, r) ls ⟨Nat.le_refl _, by rw [mt_base8 hk]; rfl, by rw [mt_base8 hk]; exact hr0⟩ hl
      intro v ls hi hl ih
      obtain ⟨h, ac, z⟩ := v
      obtain ⟨h8, hac, hz0⟩ := hi
      dsimp only at h8 hac hz0 hl ih
      cases h with
      | zero =>
        refine lv_iload hx hb dXT_totalBelow_26 (lv_at hl 0 rfl) ?_
        refine lv_if_le (tgt := 69) hx hb dXT_totalBelow_28 (by decide) (fun _ => ?_) (fun z => absurd (show nI 0 ≤ 0 by decide) z)
        refine lv_lload_n hx hb dXT_totalBelow_69 rfl (lv_at hl 1 rfl) ?_
        rw [mt_base0] at hac
        exact W.lret (v := ac) hx hb hr (fun t9 ht hW => ⟨ac, rfl, by rw [ecl, hac], ht⟩) t_nil dXT_totalBelow_70
      | succ h =>
        refine lv_iload hx hb dXT_totalBelow_26 (lv_at hl 0 rfl) ?_
        refine lv_if_le (tgt := 69) hx hb dXT_totalBelow_28 (by decide) (fun z => absurd z (nI_nle (n := h + 1) (by omega) (by omega))) (fun _ => ?_)
        obtain ⟨d1, d2⟩ := mt_rep_down hz0
        have hb2 := mt_base k h
        refine lv_iload_n hx hb dXT_totalBelow_31 rfl (lv_at hl 4 rfl) ?_
        refine lv_iload hx hb dXT_totalBelow_32 (lv_at hl 0 rfl) ?_
        refine vp_callSi (W.runS (As := [.int (nI k), .int (nI (h + 1))]) (rest := []) ⟨hx, hb, hml, hown, hts⟩ (c_goesHigh l g ws (k := k) (h := h) hk (by omega)) (va_cwS 2 hts (mt_giS mw_274 mw_275 mw_1 (mt_gi mw_276)) rfl rfl rfl (by decide +kernel) ⟨Nat.le_of_ble_eq_true rfl, Nat.le_of_ble_eq_true rfl⟩) (mt_preS hE hz hS hP hD) rfl rfl hl.1 rfl (lv_room (Nat.le_of_ble_eq_true rfl)) dXT_totalBelow_34 ⟨Nat.zero_le _, Nat.zero_le _⟩) (fun z1 e1 => ?_)
        subst e1
        have h2 : k / 2 ^ h % 2 = 0 ∨ k / 2 ^ h % 2 = 1 := by omega
        rcases h2 with h2 | h2
        · refine qa_i (y := nI 0) (by rw [h2]) ?_
          refine lv_if_eq (tgt := 58) hx hb dXT_totalBelow_37 (by decide) (fun _ => ?_) (fun z => absurd (show nI 0 = 0 by decide) z)
          refine qa_aload_n hx hb dXT_totalBelow_58 rfl (lv_at hl 2 rfl) ?_
          refine va_csq (W.runS (As := [va_rf z]) (rest := []) ⟨hx, hb, hml, hown, hts⟩ (c_lowOf l g _ LP nf hp z (mt_rep_mem hz0)) (va_cwS 1 hts (mt_giS mw_277 mw_278 mw_1 (mt_gi mw_279)) rfl rfl rfl (by decide +kernel) ⟨Nat.le_of_ble_eq_true rfl, Nat.le_of_ble_eq_true rfl⟩) (mt_preS hE hz hS hP hD) rfl rfl hl.1 rfl (lv_room (Nat.le_of_ble_eq_true rfl)) dXT_totalBelow_59 ⟨Nat.zero_le _, Nat.zero_le _⟩) (fun z1 e1 => ?_)
          subst e1
          refine qa_astore_n (i := 2) (lv' := [(2, va_rf (mt_lo nf z)), (5, .int (nI (h + 1))), (3, .long ac), (0, va_rf r), (1, .int (nI k))]) hx hb dXT_totalBelow_62 rfl hl (by decide) (by simp [List.filter, qa_cat, qa_ci, qa_cl, qa_cr, qa_cn]) (fun ls hl => ?_)
          refine lv_iinc (k := 1) (v := (nI h)) (lv' := [(5, .int (nI h)), (2, va_rf (mt_lo nf z)), (3, .long ac), (0, va_rf r), (1, .int (nI k))]) hx hb dXT_totalBelow_63 hl rfl (pk_m1 h) (by decide) (by simp [List.filter, qa_cat, qa_ci, qa_cl, qa_cr, qa_cn]) (fun ls hl => ?_)
          refine lv_goto (tgt := 26) hx hb dXT_totalBelow_66 (by decide) ?_
          have hl := lv_sub (l' := [(5, .int (nI h)), (3, .long ac), (2, va_rf (mt_lo nf z)), (0, va_rf r), (1, .int (nI k))]) hl [0, 2, 1, 3, 4] rfl
          rw [h2, Nat.zero_mul, Nat.add_zero] at hb2
          exact ih (h, ac, mt_lo nf z) ls (Nat.lt_succ_self h) ⟨by show h ≤ 8; omega, by show ac = mt_s t 0 (k / 2 ^ h * 2 ^ h); rw [hb2]; exact hac, by show mt_rep LP nf t h (k / 2 ^ h * 2 ^ h) _; rw [hb2]; exact d1⟩ hl
        · refine qa_i (y := nI 1) (by rw [h2]) ?_
          refine lv_if_eq (tgt := 58) hx hb dXT_totalBelow_37 (by decide) (fun z => absurd z (show ¬ nI 1 = 0 by decide)) (fun _ => ?_)
          refine lv_lload_n hx hb dXT_totalBelow_40 rfl (lv_at hl 1 rfl) ?_
          refine qa_aload_n hx hb dXT_totalBelow_41 rfl (lv_at hl 2 rfl) ?_
          refine va_csq (W.runS (As := [va_rf z]) (rest := [.long ac]) ⟨hx, hb, hml, hown, hts⟩ (c_lowOf l g _ LP nf hp z (mt_rep_mem hz0)) (va_cwS 1 hts (mt_giS mw_277 mw_278 mw_1 (mt_gi mw_279)) rfl rfl rfl (by decide +kernel) ⟨Nat.le_of_ble_eq_true rfl, Nat.le_of_ble_eq_true rfl⟩) (mt_preS hE hz hS hP hD) rfl rfl hl.1 rfl (lv_room (Nat.le_of_ble_eq_true rfl)) dXT_totalBelow_42 ⟨Nat.zero_le _, Nat.zero_le _⟩) (fun z1 e1 => ?_)
          subst e1
          refine vp_callSl (W.runS (As := [va_rf (mt_lo nf z)]) (rest := [.long ac]) ⟨hx, hb, hml, hown, hts⟩ (c_totalOf l g _ LP nf hp (mt_lo nf z) (mt_rep_mem d1)) (va_cwS 1 hts (mt_giS mw_104 mw_105 mw_1 (mt_gi mw_106)) rfl rfl rfl (by decide +kernel) ⟨Nat.le_of_ble_eq_true rfl, Nat.le_of_ble_eq_true rfl⟩) (mt_preS hE hz hS hP hD) rfl rfl hl.1 rfl (lv_room (Nat.le_of_ble_eq_true rfl)) dXT_totalBelow_45 ⟨Nat.zero_le _, Nat.zero_le _⟩) (fun z1 e1 => ?_)
          subst e1
          refine lv_ladd hx hb dXT_totalBelow_48 ?_
          refine qa_l (y := (ac + mt_s t (k / 2 ^ (h + 1) * 2 ^ (h + 1)) (2 ^ h))) (by rw [(mt_rep_sz d1).2]) ?_
          refine lv_lstore_n (i := 3) (lv' := [(3, .long (ac + mt_s t (k / 2 ^ (h + 1) * 2 ^ (h + 1)) (2 ^ h))), (5, .int (nI (h + 1))), (2, va_rf z), (0, va_rf r), (1, .int (nI k))]) hx hb dXT_totalBelow_49 rfl hl (by decide) (by simp [List.filter, qa_cat, qa_ci, qa_cl, qa_cr, qa_cn]) (fun ls hl => ?_)
          refine qa_aload_n hx hb dXT_totalBelow_50 rfl (lv_at hl 2 rfl) ?_
          refine va_csq (W.runS (As := [va_rf z]) (rest := []) ⟨hx, hb, hml, hown, hts⟩ (c_highOf l g _ LP nf hp z (mt_rep_mem hz0)) (va_cwS 1 hts (mt_giS mw_280 mw_281 mw_1 (mt_gi mw_282)) rfl rfl rfl (by decide +kernel) ⟨Nat.le_of_ble_eq_true rfl, Nat.le_of_ble_eq_true rfl⟩) (mt_preS hE hz hS hP hD) rfl rfl hl.1 rfl (lv_room (Nat.le_of_ble_eq_true rfl)) dXT_totalBelow_51 ⟨Nat.zero_le _, Nat.zero_le _⟩) (fun z1 e1 => ?_)
          subst e1
          refine qa_astore_n (i := 2) (lv' := [(2, va_rf (mt_hi nf z)), (3, .long (ac + mt_s t (k / 2 ^ (h + 1) * 2 ^ (h + 1)) (2 ^ h))), (5, .int (nI (h + 1))), (0, va_rf r), (1, .int (nI k))]) hx hb dXT_totalBelow_54 rfl hl (by decide) (by simp [List.filter, qa_cat, qa_ci, qa_cl, qa_cr, qa_cn]) (fun ls hl => ?_)
          refine lv_goto (tgt := 63) hx hb dXT_totalBelow_55 (by decide) ?_
          refine lv_iinc (k := 2) (v := (nI h)) (lv' := [(5, .int (nI h)), (2, va_rf (mt_hi nf z)), (3, .long (ac + mt_s t (k / 2 ^ (h + 1) * 2 ^ (h + 1)) (2 ^ h))), (0, va_rf r), (1, .int (nI k))]) hx hb dXT_totalBelow_63 hl rfl (pk_m1 h) (by decide) (by simp [List.filter, qa_cat, qa_ci, qa_cl, qa_cr, qa_cn]) (fun ls hl => ?_)
          refine lv_goto (tgt := 26) hx hb dXT_totalBelow_66 (by decide) ?_
          have hl := lv_sub (l' := [(5, .int (nI h)), (3, .long (ac + mt_s t (k / 2 ^ (h + 1) * 2 ^ (h + 1)) (2 ^ h))), (2, va_rf (mt_hi nf z)), (0, va_rf r), (1, .int (nI k))]) hl [0, 2, 1, 3, 4] rfl
          rw [h2, Nat.one_mul] at hb2
          exact ih (h, ac + mt_s t (k / 2 ^ (h + 1) * 2 ^ (h + 1)) (2 ^ h), mt_hi nf z) ls (Nat.lt_succ_self h) ⟨by show h ≤ 8; omega, by show _ = mt_s t 0 (k / 2 ^ h * 2 ^ h); rw [hb2, mt_s_add, Nat.zero_add, hac], by show mt_rep LP nf t h (k / 2 ^ h * 2 ^ h) _; rw [hb2]; exact d2⟩ hl
    · refine qa_aload_n hx hb dXT_totalBelow_13 rfl (lv_at hl 0 rfl) ?_
      refine vp_callSl (W.runS (As := [va_rf r]) (rest := []) ⟨hx, hb, hml, hown, hts⟩ (c_totalOf l g _ LP nf hp r (mt_rep_mem hr0)) (va_cwS 1 hts (mt_giS mw_104 mw_105 mw_1 (mt_gi mw_106)) rfl rfl rfl (by decide +kernel) ⟨Nat.le_of_ble_eq_true rfl, Nat.le_of_ble_eq_true rfl⟩) (mt_preS hE hz hS hP hD) rfl rfl hl.1 rfl (lv_room (Nat.le_of_ble_eq_true rfl)) dXT_totalBelow_14 ⟨Nat.zero_le _, Nat.zero_le _⟩) (fun z1 e1 => ?_)
      subst e1
      have e0 : mt_cl bd = 256 := by unfold mt_cl; rw [if_neg (Int32.not_le.mpr c1), if_pos (Int32.not_lt.mp c2)]
      exact W.lret (v := (mt_to nf r)) hx hb hr (fun t9 ht hW => ⟨(mt_to nf r), rfl, by rw [e0]; exact (mt_rep_sz hr0).2, ht⟩) t_nil dXT_totalBelow_17
  · refine lv_lconst (v := 0) hx hb dXT_totalBelow_4 (by decide +kernel) ?_
    have e0 : mt_cl bd = 0 := if_pos (Int32.not_lt.mp c1)
    exact W.lret (v := 0) hx hb hr (fun t9 ht hW => ⟨0, rfl, by rw [e0]; rfl, ht⟩) t_nil dXT_totalBelow_5
end
section
set_option maxHeartbeats 4000000 in
set_option maxRecDepth 100000 in
/-- differences(v, w, height) -/
theorem c_differences0 (l : Launch) (g : mt_G) (ws : va_W) (LP : List Nat) (nf : Nat → mt_N) (hp : mt_pool ws LP nf) (t u : mt_T) (b : Nat) (v w : Option Nat) (hv0 : mt_rep LP nf t 0 b v) (hw0 : mt_rep LP nf u 0 b w) (hb0 : b + 2 ^ 0 ≤ 256) : Met l yXT_differences wsXT_differences ({ frames := 0 + 1, cells := 0, slots := 0, locals := 22 * 0 + 22 }) (mt_Pc g ws [va_rf v, va_rf w, .int (nI 0)]) (vp_Si (fun z => z = nI (mt_d t u b (2 ^ 0)))) (0) (0) (fun _ => False) := by
  refine Met.ofW (cc := cXT_differences) (maxL := 3) (ret := (some .int)) (by decide) rfl ?_
  intro p e s m args below meth c s₁ B hml hv
  obtain ⟨rfl, hE, hz, hP, hD⟩ := hv
  have hx := B.exec
  have hb := B.bytes
  have hr := B.returns
  have hts := atoms_spec (ws := wsXT_differences) B.pre
  have hown : s.vm.findClass RXT = some m.cls := findClass_of_methodNamed B.named
  have hlocks := B.notSynchronized
  have hK := hE.k
  have hA : ∀ q : Nat, s.heap.size ≤ q → mt_A g q := fun q h => Nat.le_trans hz h
  have hS : va_S (mt_A g) s.heap s.heap [] := va_S.rf
  have hl := lv_entry ([va_rf v, va_rf w, .int (nI 0)]) (n := 3) (by rw [qa_sl1 (qa_cat _), qa_sl1 (qa_cat _), qa_sl1 (qa_ci _), qa_sl0]; exact Nat.le_of_ble_eq_true rfl)
  rw [lg_entry_eq]
  generalize (lg_sl ([va_rf v, va_rf w, .int (nI 0)]) ++ List.replicate (3 - (lg_sl ([va_rf v, va_rf w, .int (nI 0)])).length) Slot.unset).toArray = ls at hl ⊢
  have hl : lv_has ls 3 [(0, va_rf v), (1, va_rf w), (2, .int (nI 0))] := by rw [qa_ar1 (qa_cat _), qa_ar1 (qa_cat _), qa_ar1 (qa_ci _)] at hl; exact hl
  have hH : s.heap = s.heap := rfl
  refine qa_aload_n hx hb dXT_differences_0 rfl (lv_at hl 0 rfl) ?_
  refine qa_aload_n hx hb dXT_differences_1 rfl (lv_at hl 1 rfl) ?_
  refine lv_acmp_ne (tgt := 7) hx hb dXT_differences_2 (by decide) (fun c1 => ?_) (fun c1 => ?_)
  · refine qa_aload_n hx hb dXT_differences_7 rfl (lv_at hl 0 rfl) ?_
    refine qa_ifnull (tgt := 15) hx hb dXT_differences_8 (by decide) (fun c2 => ?_) (fun av c2 => ?_)
    · refine qa_aload_n hx hb dXT_differences_15 rfl (lv_at hl 0 rfl) ?_
      refine vp_callSi (W.runS (As := [va_rf v]) (rest := []) ⟨hx, hb, hml, hown, hts⟩ (c_sizeOf l g _ LP nf hp v (mt_rep_mem hv0)) (va_cwS 1 hts (mt_giS mw_101 mw_102 mw_1 (mt_gi mw_103)) rfl rfl rfl (by decide +kernel) ⟨by show 0 + 1 ≤ 0 + 1; omega, by show 8 + (1 + 11) + 0 ≤ 22 * 0 + 22; omega⟩) (mt_preS hE hz hS hP hD) rfl rfl hl.1 rfl (lv_room (Nat.le_of_ble_eq_true rfl)) dXT_differences_16 ⟨Nat.zero_le _, Nat.zero_le _⟩) (fun z1 e1 => ?_)
      subst e1
      refine qa_aload_n hx hb dXT_differences_19 rfl (lv_at hl 1 rfl) ?_
      refine vp_callSi (W.runS (As := [va_rf w]) (rest := [.int (mt_sz nf v)]) ⟨hx, hb, hml, hown, hts⟩ (c_sizeOf l g _ LP nf hp w (mt_rep_mem hw0)) (va_cwS 1 hts (mt_giS mw_101 mw_102 mw_1 (mt_gi mw_103)) rfl rfl rfl (by decide +kernel) ⟨by show 0 + 1 ≤ 0 + 1; omega, by show 8 + (1 + 11) + 0 ≤ 22 * 0 + 22; omega⟩) (mt_preS hE hz hS hP hD) rfl rfl hl.1 rfl (lv_room (Nat.le_of_ble_eq_true rfl)) dXT_differences_20 ⟨Nat.zero_le _, Nat.zero_le _⟩) (fun z1 e1 => ?_)
      subst e1
      refine lv_iadd hx hb dXT_differences_23 ?_
      have hn := mt_rep_none.mp (c2 ▸ hv0)
      exact W.iret (v := (mt_sz nf v + mt_sz nf w)) hx hb hr (fun t9 ht hW => ⟨(mt_sz nf v + mt_sz nf w), rfl, by rw [mt_d_l hn, (mt_rep_sz hw0).1, c2]; exact (nI_add 0 _).trans (by rw [Nat.zero_add]), ht⟩) t_nil dXT_differences_24
    · refine qa_aload_n hx hb dXT_differences_11 rfl (lv_at hl 1 rfl) ?_
      refine qa_ifnonnull (tgt := 25) hx hb dXT_differences_12 (by decide) (fun aw c3 => ?_) (fun c3 => ?_)
      · subst c2
        subst c3
        obtain ⟨kv, hkv⟩ := hp av (mt_rep_mem hv0 av rfl)
        obtain ⟨kw, hkw⟩ := hp aw (mt_rep_mem hw0 aw rfl)
        have hl : lv_has ls 3 [(0, .ref av), (1, .ref aw), (2, .int (nI 0))] := hl
        refine lv_iload_n hx hb dXT_differences_25 rfl (lv_at hl 2 rfl) ?_
        refine lv_if_gt (tgt := 46) hx hb dXT_differences_26 (by decide) (fun z => absurd z (show ¬ 0 < nI 0 by decide)) (fun _ => ?_)
        refine lv_aload_n hx hb dXT_differences_29 rfl (lv_at hl 0 rfl) ?_
        refine va_getN (D := g.1) (ci := 0) (v := .int ((nf av).2.2.2.2.1)) (C := RXN) (T := TXN) (N := 7) hx hb hts (fun w h => List.mem_cons_of_mem _ (in_XN w h)) hown hK hP kv hkv rfl 4 (by decide) (va_Nw.use rfl (hE.w (.fieldLinkNest "MeldTree" 67 "MeldTree$Node" "value" "I" "MeldTree") (by decide +kernel))) (fun _ h9 => h9) rfl dXT_differences_30 ?_
        refine lv_aload_n hx hb dXT_differences_33 rfl (lv_at hl 1 rfl) ?_
        refine va_getN (D := g.1) (ci := 0) (v := .int ((nf aw).2.2.2.2.1)) (C := RXN) (T := TXN) (N := 7) hx hb hts (fun w h => List.mem_cons_of_mem _ (in_XN w h)) hown hK hP kw hkw rfl 4 (by decide) (va_Nw.use rfl (hE.w (.fieldLinkNest "MeldTree" 67 "MeldTree$Node" "value" "I" "MeldTree") (by decide +kernel))) (fun _ h9 => h9) rfl dXT_differences_34 ?_
        obtain ⟨-, x1, ht1, hx1⟩ := hv0
        obtain ⟨-, x2, ht2, hx2⟩ := hw0
        have ed : mt_d t u b (2 ^ 0) = if x1 = x2 then 0 else 1 := by show 0 + (if t (b + 0) = u (b + 0) then 0 else 1) = _; rw [Nat.add_zero, ht1, ht2]; simp
        rw [hx1, hx2]
        refine lv_icmp_ne (tgt := 44) hx hb dXT_differences_37 (by decide) (fun c4 => ?_) (fun c4 => ?_)
        · refine lv_iconst (v := 1) hx hb dXT_differences_44 (by decide +kernel) ?_
          exact W.iret (v := 1) hx hb hr (fun t9 ht hW => ⟨1, rfl, by rw [ed, if_neg c4]; rfl, ht⟩) t_nil dXT_differences_45
        · refine lv_iconst (v := 0) hx hb dXT_differences_40 (by decide +kernel) ?_
          refine lv_goto (tgt := 45) hx hb dXT_differences_41 (by decide) ?_
          exact W.iret (v := 0) hx hb hr (fun t9 ht hW => ⟨0, rfl, by rw [ed, if_pos c4]; rfl, ht⟩) t_nil dXT_differences_45
      · refine qa_aload_n hx hb dXT_differences_15 rfl (lv_at hl 0 rfl) ?_
        refine vp_callSi (W.runS (As := [va_rf v]) (rest := []) ⟨hx, hb, hml, hown, hts⟩ (c_sizeOf l g _ LP nf hp v (mt_rep_mem hv0)) (va_cwS 1 hts (mt_giS mw_101 mw_102 mw_1 (mt_gi mw_103)) rfl rfl rfl (by decide +kernel) ⟨by show 0 + 1 ≤ 0 + 1; omega, by show 8 + (1 + 11) + 0 ≤ 22 * 0 + 22; omega⟩) (mt_preS hE hz hS hP hD) rfl rfl hl.1 rfl (lv_room (Nat.le_of_ble_eq_true rfl)) dXT_differences_16 ⟨Nat.zero_le _, Nat.zero_le _⟩) (fun z1 e1 => ?_)
        subst e1
        refine qa_aload_n hx hb dXT_differences_19 rfl (lv_at hl 1 rfl) ?_
        refine vp_callSi (W.runS (As := [va_rf w]) (rest := [.int (mt_sz nf v)]) ⟨hx, hb, hml, hown, hts⟩ (c_sizeOf l g _ LP nf hp w (mt_rep_mem hw0)) (va_cwS 1 hts (mt_giS mw_101 mw_102 mw_1 (mt_gi mw_103)) rfl rfl rfl (by decide +kernel) ⟨by show 0 + 1 ≤ 0 + 1; omega, by show 8 + (1 + 11) + 0 ≤ 22 * 0 + 22; omega⟩) (mt_preS hE hz hS hP hD) rfl rfl hl.1 rfl (lv_room (Nat.le_of_ble_eq_true rfl)) dXT_differences_20 ⟨Nat.zero_le _, Nat.zero_le _⟩) (fun z1 e1 => ?_)
        subst e1
        refine lv_iadd hx hb dXT_differences_23 ?_
        have hn := mt_rep_none.mp (c3 ▸ hw0)
        exact W.iret (v := (mt_sz nf v + mt_sz nf w)) hx hb hr (fun t9 ht hW => ⟨(mt_sz nf v + mt_sz nf w), rfl, by rw [mt_d_r hn, (mt_rep_sz hv0).1, c3]; exact (nI_add _ 0), ht⟩) t_nil dXT_differences_24
  · refine lv_iconst (v := 0) hx hb dXT_differences_5 (by decide +kernel) ?_
    subst c1
    exact W.iret (v := 0) hx hb hr (fun t9 ht hW => ⟨0, rfl, by rw [mt_d_same (mt_rep_fun hv0 hw0)]; rfl, ht⟩) t_nil dXT_differences_6
set_option maxHeartbeats 4000000 in
set_option maxRecDepth 100000 in
/-- differences(v, w, height) -/
theorem c_differencesS (l : Launch) (g : mt_G) (ws : va_W) (LP : List Nat) (nf : Nat → mt_N) (hp : mt_pool ws LP nf) (t u : mt_T) (h : Nat) (hh : h < 8) (ih : ∀ (b : Nat) (v w : Option Nat), mt_rep LP nf t h b v → mt_rep LP nf u h b w → b + 2 ^ h ≤ 256 → Met l yXT_differences wsXT_differences ({ frames := h + 1, cells := 0, slots := 0, locals := 22 * h + 22 }) (mt_Pc g ws [va_rf v, va_rf w, .int (nI h)]) (vp_Si (fun z => z = nI (mt_d t u b (2 ^ h)))) 0 0 (fun _ => False)) (b : Nat) (v w : Option Nat) (hv0 : mt_rep LP nf t (h + 1) b v) (hw0 : mt_rep LP nf u (h + 1) b w) (hb0 : b + 2 ^ (h + 1) ≤ 256) : Met l yXT_differences wsXT_differences ({ frames := (h + 1) + 1, cells := 0, slots := 0, locals := 22 * (h + 1) + 22 }) (mt_Pc g ws [va_rf v, va_rf w, .int (nI (h + 1))]) (vp_Si (fun z => z = nI (mt_d t u b (2 ^ (h + 1))))) (0) (0) (fun _ => False) := by
  refine Met.ofW (cc := cXT_differences) (maxL := 3) (ret := (some .int)) (by decide) rfl ?_
  intro p e s m args below meth c s₁ B hml hv
  obtain ⟨rfl, hE, hz, hP, hD⟩ := hv
  have hx := B.exec
  have hb := B.bytes
  have hr := B.returns
  have hts := atoms_spec (ws := wsXT_differences) B.pre
  have hown : s.vm.findClass RXT = some m.cls := findClass_of_methodNamed B.named
  have hlocks := B.notSynchronized
  have hK := hE.k
  have hA : ∀ q : Nat, s.heap.size ≤ q → mt_A g q := fun q h => Nat.le_trans hz h
  have hS : va_S (mt_A g) s.heap s.heap [] := va_S.rf
  have hl := lv_entry ([va_rf v, va_rf w, .int (nI (h + 1))]) (n := 3) (by rw [qa_sl1 (qa_cat _), qa_sl1 (qa_cat _), qa_sl1 (qa_ci _), qa_sl0]; exact Nat.le_of_ble_eq_true rfl)
  rw [lg_entry_eq]
  generalize (lg_sl ([va_rf v, va_rf w, .int (nI (h + 1))]) ++ List.replicate (3 - (lg_sl ([va_rf v, va_rf w, .int (nI (h + 1))])).length) Slot.unset).toArray = ls at hl ⊢
  have hl : lv_has ls 3 [(0, va_rf v), (1, va_rf w), (2, .int (nI (h + 1)))] := by rw [qa_ar1 (qa_cat _), qa_ar1 (qa_cat _), qa_ar1 (qa_ci _)] at hl; exact hl
  have hH : s.heap = s.heap := rfl
  refine qa_aload_n hx hb dXT_differences_0 rfl (lv_at hl 0 rfl) ?_
  refine qa_aload_n hx hb dXT_differences_1 rfl (lv_at hl 1 rfl) ?_
  refine lv_acmp_ne (tgt := 7) hx hb dXT_differences_2 (by decide) (fun c1 => ?_) (fun c1 => ?_)
  · refine qa_aload_n hx hb dXT_differences_7 rfl (lv_at hl 0 rfl) ?_
    refine qa_ifnull (tgt := 15) hx hb dXT_differences_8 (by decide) (fun c2 => ?_) (fun av c2 => ?_)
    · refine qa_aload_n hx hb dXT_differences_15 rfl (lv_at hl 0 rfl) ?_
      refine vp_callSi (W.runS (As := [va_rf v]) (rest := []) ⟨hx, hb, hml, hown, hts⟩ (c_sizeOf l g _ LP nf hp v (mt_rep_mem hv0)) (va_cwS 1 hts (mt_giS mw_101 mw_102 mw_1 (mt_gi mw_103)) rfl rfl rfl (by decide +kernel) ⟨by show 0 + 1 ≤ (h + 1) + 1; omega, by show 8 + (1 + 11) + 0 ≤ 22 * (h + 1) + 22; omega⟩) (mt_preS hE hz hS hP hD) rfl rfl hl.1 rfl (lv_room (Nat.le_of_ble_eq_true rfl)) dXT_differences_16 ⟨Nat.zero_le _, Nat.zero_le _⟩) (fun z1 e1 => ?_)
      subst e1
      refine qa_aload_n hx hb dXT_differences_19 rfl (lv_at hl 1 rfl) ?_
      refine vp_callSi (W.runS (As := [va_rf w]) (rest := [.int (mt_sz nf v)]) ⟨hx, hb, hml, hown, hts⟩ (c_sizeOf l g _ LP nf hp w (mt_rep_mem hw0)) (va_cwS 1 hts (mt_giS mw_101 mw_102 mw_1 (mt_gi mw_103)) rfl rfl rfl (by decide +kernel) ⟨by show 0 + 1 ≤ (h + 1) + 1; omega, by show 8 + (1 + 11) + 0 ≤ 22 * (h + 1) + 22; omega⟩) (mt_preS hE hz hS hP hD) rfl rfl hl.1 rfl (lv_room (Nat.le_of_ble_eq_true rfl)) dXT_differences_20 ⟨Nat.zero_le _, Nat.zero_le _⟩) (fun z1 e1 => ?_)
      subst e1
      refine lv_iadd hx hb dXT_differences_23 ?_
      have hn := mt_rep_none.mp (c2 ▸ hv0)
      exact W.iret (v := (mt_sz nf v + mt_sz nf w)) hx hb hr (fun t9 ht hW => ⟨(mt_sz nf v + mt_sz nf w), rfl, by rw [mt_d_l hn, (mt_rep_sz hw0).1, c2]; exact (nI_add 0 _).trans (by rw [Nat.zero_add]), ht⟩) t_nil dXT_differences_24
    · refine qa_aload_n hx hb dXT_differences_11 rfl (lv_at hl 1 rfl) ?_
      refine qa_ifnonnull (tgt := 25) hx hb dXT_differences_12 (by decide) (fun aw c3 => ?_) (fun c3 => ?_)
      · subst c2
        subst c3
        obtain ⟨kv, hkv⟩ := hp av (mt_rep_mem hv0 av rfl)
        obtain ⟨kw, hkw⟩ := hp aw (mt_rep_mem hw0 aw rfl)
        have hl : lv_has ls 3 [(0, .ref av), (1, .ref aw), (2, .int (nI (h + 1)))] := hl
        refine lv_iload_n hx hb dXT_differences_25 rfl (lv_at hl 2 rfl) ?_
        refine lv_if_gt (tgt := 46) hx hb dXT_differences_26 (by decide) (fun _ => ?_) (fun z => absurd (show 0 < nI (h + 1) from nI_lt (a := 0) (by omega) (by omega)) z)
        obtain ⟨d1, d2⟩ := mt_rep_down hv0
        obtain ⟨d3, d4⟩ := mt_rep_down hw0
        have e3 := mt_two h
        have hp2 := Nat.two_pow_pos h
        refine lv_aload_n hx hb dXT_differences_46 rfl (lv_at hl 0 rfl) ?_
        refine va_getN (D := g.1) (ci := 0) (v := va_rf ((nf av).2.2.1)) (C := RXN) (T := TXN) (N := 7) hx hb hts (fun w h => List.mem_cons_of_mem _ (in_XN w h)) hown hK hP kv hkv rfl 2 (by decide) (va_Nw.use rfl (hE.w (.fieldLinkNest "MeldTree" 138 "MeldTree$Node" "low" "LMeldTree$Node;" "MeldTree") (by decide +kernel))) (fun _ h9 => h9) rfl dXT_differences_47 ?_
        refine lv_aload_n hx hb dXT_differences_50 rfl (lv_at hl 1 rfl) ?_
        refine va_getN (D := g.1) (ci := 0) (v := va_rf ((nf aw).2.2.1)) (C := RXN) (T := TXN) (N := 7) hx hb hts (fun w h => List.mem_cons_of_mem _ (in_XN w h)) hown hK hP kw hkw rfl 2 (by decide) (va_Nw.use rfl (hE.w (.fieldLinkNest "MeldTree" 138 "MeldTree$Node" "low" "LMeldTree$Node;" "MeldTree") (by decide +kernel))) (fun _ h9 => h9) rfl dXT_differences_51 ?_
        refine lv_iload_n hx hb dXT_differences_54 rfl (lv_at hl 2 rfl) ?_
        refine lv_iconst (v := 1) hx hb dXT_differences_55 (by decide +kernel) ?_
        refine lv_isub hx hb dXT_differences_56 ?_
        refine qa_i (y := (nI h)) (nI_pred h) ?_
        refine vp_callSi (W.runS (As := [va_rf ((nf av).2.2.1), va_rf ((nf aw).2.2.1), .int (nI h)]) (rest := []) ⟨hx, hb, hml, hown, hts⟩ (ih b _ _ d1 d3 (by omega)) (va_cwS 3 hts (mt_giS mw_364 mw_365 mw_1 (mt_gi mw_366)) rfl rfl rfl (by decide +kernel) ⟨by show h + 1 + 1 ≤ h + 1 + 1; omega, by show 8 + (3 + 11) + (22 * h + 22) ≤ 22 * (h + 1) + 22; omega⟩) (mt_preS hE hz hS hP hD) rfl rfl hl.1 rfl (lv_room (Nat.le_of_ble_eq_true rfl)) dXT_differences_57 ⟨Nat.zero_le _, Nat.zero_le _⟩) (fun z1 e1 => ?_)
        subst e1
        refine lv_aload_n hx hb dXT_differences_60 rfl (lv_at hl 0 rfl) ?_
        refine va_getN (D := g.1) (ci := 0) (v := va_rf ((nf av).2.2.2.1)) (C := RXN) (T := TXN) (N := 7) hx hb hts (fun w h => List.mem_cons_of_mem _ (in_XN w h)) hown hK hP kv hkv rfl 3 (by decide) (va_Nw.use rfl (hE.w (.fieldLinkNest "MeldTree" 142 "MeldTree$Node" "high" "LMeldTree$Node;" "MeldTree") (by decide +kernel))) (fun _ h9 => h9) rfl dXT_differences_61 ?_
        refine lv_aload_n hx hb dXT_differences_64 rfl (lv_at hl 1 rfl) ?_
        refine va_getN (D := g.1) (ci := 0) (v := va_rf ((nf aw).2.2.2.1)) (C := RXN) (T := TXN) (N := 7) hx hb hts (fun w h => List.mem_cons_of_mem _ (in_XN w h)) hown hK hP kw hkw rfl 3 (by decide) (va_Nw.use rfl (hE.w (.fieldLinkNest "MeldTree" 142 "MeldTree$Node" "high" "LMeldTree$Node;" "MeldTree") (by decide +kernel))) (fun _ h9 => h9) rfl dXT_differences_65 ?_
        refine lv_iload_n hx hb dXT_differences_68 rfl (lv_at hl 2 rfl) ?_
        refine lv_iconst (v := 1) hx hb dXT_differences_69 (by decide +kernel) ?_
        refine lv_isub hx hb dXT_differences_70 ?_
        refine qa_i (y := (nI h)) (nI_pred h) ?_
        refine vp_callSi (W.runS (As := [va_rf ((nf av).2.2.2.1), va_rf ((nf aw).2.2.2.1), .int (nI h)]) (rest := [.int (nI (mt_d t u b (2 ^ h)))]) ⟨hx, hb, hml, hown, hts⟩ (ih (b + 2 ^ h) _ _ d2 d4 (by omega)) (va_cwS 3 hts (mt_giS mw_364 mw_365 mw_1 (mt_gi mw_366)) rfl rfl rfl (by decide +kernel) ⟨by show h + 1 + 1 ≤ h + 1 + 1; omega, by show 8 + (3 + 11) + (22 * h + 22) ≤ 22 * (h + 1) + 22; omega⟩) (mt_preS hE hz hS hP hD) rfl rfl hl.1 rfl (lv_room (Nat.le_of_ble_eq_true rfl)) dXT_differences_71 ⟨Nat.zero_le _, Nat.zero_le _⟩) (fun z1 e1 => ?_)
        subst e1
        refine lv_iadd hx hb dXT_differences_74 ?_
        exact W.iret (v := ((nI (mt_d t u b (2 ^ h))) + (nI (mt_d t u (b + 2 ^ h) (2 ^ h))))) hx hb hr (fun t9 ht hW => ⟨((nI (mt_d t u b (2 ^ h))) + (nI (mt_d t u (b + 2 ^ h) (2 ^ h)))), rfl, by rw [e3, mt_d_add]; exact nI_add _ _, ht⟩) t_nil dXT_differences_75
      · refine qa_aload_n hx hb dXT_differences_15 rfl (lv_at hl 0 rfl) ?_
        refine vp_callSi (W.runS (As := [va_rf v]) (rest := []) ⟨hx, hb, hml, hown, hts⟩ (c_sizeOf l g _ LP nf hp v (mt_rep_mem hv0)) (va_cwS 1 hts (mt_giS mw_101 mw_102 mw_1 (mt_gi mw_103)) rfl rfl rfl (by decide +kernel) ⟨by show 0 + 1 ≤ (h + 1) + 1; omega, by show 8 + (1 + 11) + 0 ≤ 22 * (h + 1) + 22; omega⟩) (mt_preS hE hz hS hP hD) rfl rfl hl.1 rfl (lv_room (Nat.le_of_ble_eq_true rfl)) dXT_differences_16 ⟨Nat.zero_le _, Nat.zero_le _⟩) (fun z1 e1 => ?_)
        subst e1
        refine qa_aload_n hx hb dXT_differences_19 rfl (lv_at hl 1 rfl) ?_
        refine vp_callSi (W.runS (As := [va_rf w]) (rest := [.int (mt_sz nf v)]) ⟨hx, hb, hml, hown, hts⟩ (c_sizeOf l g _ LP nf hp w (mt_rep_mem hw0)) (va_cwS 1 hts (mt_giS mw_101 mw_102 mw_1 (mt_gi mw_103)) rfl rfl rfl (by decide +kernel) ⟨by show 0 + 1 ≤ (h + 1) + 1; omega, by show 8 + (1 + 11) + 0 ≤ 22 * (h + 1) + 22; omega⟩) (mt_preS hE hz hS hP hD) rfl rfl hl.1 rfl (lv_room (Nat.le_of_ble_eq_true rfl)) dXT_differences_20 ⟨Nat.zero_le _, Nat.zero_le _⟩) (fun z1 e1 => ?_)
        subst e1
        refine lv_iadd hx hb dXT_differences_23 ?_
        have hn := mt_rep_none.mp (c3 ▸ hw0)
        exact W.iret (v := (mt_sz nf v + mt_sz nf w)) hx hb hr (fun t9 ht hW => ⟨(mt_sz nf v + mt_sz nf w), rfl, by rw [mt_d_r hn, (mt_rep_sz hv0).1, c3]; exact (nI_add _ 0), ht⟩) t_nil dXT_differences_24
  · refine lv_iconst (v := 0) hx hb dXT_differences_5 (by decide +kernel) ?_
    subst c1
    exact W.iret (v := 0) hx hb hr (fun t9 ht hW => ⟨0, rfl, by rw [mt_d_same (mt_rep_fun hv0 hw0)]; rfl, ht⟩) t_nil dXT_differences_6
set_option maxRecDepth 100000 in
theorem c_differences (l : Launch) (g : mt_G) (ws : va_W) (LP : List Nat) (nf : Nat → mt_N) (hp : mt_pool ws LP nf) (t u : mt_T) : ∀ (h : Nat), h ≤ 8 → ∀ (b : Nat) (v w : Option Nat), mt_rep LP nf t h b v → mt_rep LP nf u h b w → b + 2 ^ h ≤ 256 → Met l yXT_differences wsXT_differences ({ frames := h + 1, cells := 0, slots := 0, locals := 22 * h + 22 }) (mt_Pc g ws [va_rf v, va_rf w, .int (nI h)]) (vp_Si (fun z => z = nI (mt_d t u b (2 ^ h)))) 0 0 (fun _ => False) := by
  intro h
  induction h with
  | zero => exact fun _ b v w h1 h2 h3 => c_differences0 l g ws LP nf hp t u b v w h1 h2 h3
  | succ h ih => exact fun h8 b v w h1 h2 h3 => c_differencesS l g ws LP nf hp t u h (by omega) (ih (by omega)) b v w h1 h2 h3
set_option maxHeartbeats 4000000 in
set_option maxRecDepth 100000 in
/-- digestOn(start, node, height) -/
theorem c_digestOn0 (l : Launch) (g : mt_G) (ws : va_W) (LP : List Nat) (nf : Nat → mt_N) (hp : mt_pool ws LP nf) (t : mt_T) (b : Nat) (z : Int64) (v : Option Nat) (hv0 : mt_rep LP nf t 0 b v) (hb0 : b + 2 ^ 0 ≤ 256) : Met l yXT_digestOn wsXT_digestOn ({ frames := 0, cells := 0, slots := 0, locals := 23 * 0 }) (mt_Pc g ws [.long z, va_rf v, .int (nI 0)]) (vp_Sl (fun y => y = mt_g t b z (2 ^ 0))) (0) (0) (fun _ => False) := by
  refine Met.ofW (cc := cXT_digestOn) (maxL := 4) (ret := (some .long)) (by decide) rfl ?_
  intro p e s m args below meth c s₁ B hml hv
  obtain ⟨rfl, hE, hz, hP, hD⟩ := hv
  have hx := B.exec
  have hb := B.bytes
  have hr := B.returns
  have hts := atoms_spec (ws := wsXT_digestOn) B.pre
  have hown : s.vm.findClass RXT = some m.cls := findClass_of_methodNamed B.named
  have hlocks := B.notSynchronized
  have hK := hE.k
  have hA : ∀ q : Nat, s.heap.size ≤ q → mt_A g q := fun q h => Nat.le_trans hz h
  have hS : va_S (mt_A g) s.heap s.heap [] := va_S.rf
  have hl := lv_entry ([.long z, va_rf v, .int (nI 0)]) (n := 4) (by rw [qa_sl2 (qa_cl _), qa_sl1 (qa_cat _), qa_sl1 (qa_ci _), qa_sl0]; exact Nat.le_of_ble_eq_true rfl)
  rw [lg_entry_eq]
  generalize (lg_sl ([.long z, va_rf v, .int (nI 0)]) ++ List.replicate (4 - (lg_sl ([.long z, va_rf v, .int (nI 0)])).length) Slot.unset).toArray = ls at hl ⊢
  have hl : lv_has ls 4 [(0, .long z), (2, va_rf v), (3, .int (nI 0))] := by rw [qa_ar2 (qa_cl _), qa_ar1 (qa_cat _), qa_ar1 (qa_ci _)] at hl; exact hl
  have hH : s.heap = s.heap := rfl
  refine qa_aload_n hx hb dXT_digestOn_0 rfl (lv_at hl 1 rfl) ?_
  refine qa_ifnonnull (tgt := 6) hx hb dXT_digestOn_1 (by decide) (fun av c1 => ?_) (fun c1 => ?_)
  · subst c1
    obtain ⟨kv, hkv⟩ := hp av (mt_rep_mem hv0 av rfl)
    have hl : lv_has ls 4 [(0, .long z), (2, .ref av), (3, .int (nI 0))] := hl
    refine lv_iload_n hx hb dXT_digestOn_6 rfl (lv_at hl 2 rfl) ?_
    refine lv_if_gt (tgt := 32) hx hb dXT_digestOn_7 (by decide) (fun z => absurd z (show ¬ 0 < nI 0 by decide)) (fun _ => ?_)
    obtain ⟨-, x1, ht1, hx1⟩ := hv0
    refine lv_lload_n hx hb dXT_digestOn_10 rfl (lv_at hl 0 rfl) ?_
    refine lv_ldc2 (v := 31) hx hb hown (hts _ (List.mem_cons_of_mem _ mw_378)) dXT_digestOn_11 ?_
    refine lv_lmul hx hb dXT_digestOn_14 ?_
    refine lv_aload_n hx hb dXT_digestOn_15 rfl (lv_at hl 1 rfl) ?_
    refine va_getN (D := g.1) (ci := 0) (v := .int ((nf av).2.1)) (C := RXN) (T := TXN) (N := 7) hx hb hts (fun w h => List.mem_cons_of_mem _ (in_XN w h)) hown hK hP kv hkv rfl 1 (by decide) (va_Nw.use rfl (hE.w (.fieldLinkNest "MeldTree" 147 "MeldTree$Node" "first" "I" "MeldTree") (by decide +kernel))) (fun _ h9 => h9) rfl dXT_digestOn_16 ?_
    refine lv_i2l (v := ((nf av).2.1).toInt64) hx hb dXT_digestOn_19 rfl ?_
    refine lv_ladd hx hb dXT_digestOn_20 ?_
    refine lv_ldc2 (v := 31) hx hb hown (hts _ (List.mem_cons_of_mem _ mw_378)) dXT_digestOn_21 ?_
    refine lv_lmul hx hb dXT_digestOn_24 ?_
    refine lv_aload_n hx hb dXT_digestOn_25 rfl (lv_at hl 1 rfl) ?_
    refine va_getN (D := g.1) (ci := 0) (v := .int ((nf av).2.2.2.2.1)) (C := RXN) (T := TXN) (N := 7) hx hb hts (fun w h => List.mem_cons_of_mem _ (in_XN w h)) hown hK hP kv hkv rfl 4 (by decide) (va_Nw.use rfl (hE.w (.fieldLinkNest "MeldTree" 67 "MeldTree$Node" "value" "I" "MeldTree") (by decide +kernel))) (fun _ h9 => h9) rfl dXT_digestOn_26 ?_
    refine lv_i2l (v := ((nf av).2.2.2.2.1).toInt64) hx hb dXT_digestOn_29 rfl ?_
    refine lv_ladd hx hb dXT_digestOn_30 ?_
    exact W.lret (v := ((((z * 31) + (((nf av).2.1).toInt64)) * 31) + (((nf av).2.2.2.2.1).toInt64))) hx hb hr (fun t9 ht hW => ⟨((((z * 31) + (((nf av).2.1).toInt64)) * 31) + (((nf av).2.2.2.2.1).toInt64)), rfl, by rw [hx1]; show _ = mt_gs z (b + 0) (t (b + 0)); rw [Nat.add_zero, ht1]; rfl, ht⟩) t_nil dXT_digestOn_31
  · subst c1
    refine lv_lload_n hx hb dXT_digestOn_4 rfl (lv_at hl 0 rfl) ?_
    exact W.lret (v := z) hx hb hr (fun t9 ht hW => ⟨z, rfl, (mt_g_none (mt_rep_none.mp hv0)).symm, ht⟩) t_nil dXT_digestOn_5
set_option maxHeartbeats 4000000 in
set_option maxRecDepth 100000 in
/-- digestOn(start, node, height) -/
theorem c_digestOnS (l : Launch) (g : mt_G) (ws : va_W) (LP : List Nat) (nf : Nat → mt_N) (hp : mt_pool ws LP nf) (t : mt_T) (h : Nat) (hh : h < 8) (ih : ∀ (b : Nat) (z : Int64) (v : Option Nat), mt_rep LP nf t h b v → b + 2 ^ h ≤ 256 → Met l yXT_digestOn wsXT_digestOn ({ frames := h, cells := 0, slots := 0, locals := 23 * h }) (mt_Pc g ws [.long z, va_rf v, .int (nI h)]) (vp_Sl (fun y => y = mt_g t b z (2 ^ h))) 0 0 (fun _ => False)) (b : Nat) (z : Int64) (v : Option Nat) (hv0 : mt_rep LP nf t (h + 1) b v) (hb0 : b + 2 ^ (h + 1) ≤ 256) : Met l yXT_digestOn wsXT_digestOn ({ frames := (h + 1), cells := 0, slots := 0, locals := 23 * (h + 1) }) (mt_Pc g ws [.long z, va_rf v, .int (nI (h + 1))]) (vp_Sl (fun y => y = mt_g t b z (2 ^ (h + 1)))) (0) (0) (fun _ => False) := by
  refine Met.ofW (cc := cXT_digestOn) (maxL := 4) (ret := (some .long)) (by decide) rfl ?_
  intro p e s m args below meth c s₁ B hml hv
  obtain ⟨rfl, hE, hz, hP, hD⟩ := hv
  have hx := B.exec
  have hb := B.bytes
  have hr := B.returns
  have hts := atoms_spec (ws := wsXT_digestOn) B.pre
  have hown : s.vm.findClass RXT = some m.cls := findClass_of_methodNamed B.named
  have hlocks := B.notSynchronized
  have hK := hE.k
  have hA : ∀ q : Nat, s.heap.size ≤ q → mt_A g q := fun q h => Nat.le_trans hz h
  have hS : va_S (mt_A g) s.heap s.heap [] := va_S.rf
  have hl := lv_entry ([.long z, va_rf v, .int (nI (h + 1))]) (n := 4) (by rw [qa_sl2 (qa_cl _), qa_sl1 (qa_cat _), qa_sl1 (qa_ci _), qa_sl0]; exact Nat.le_of_ble_eq_true rfl)
  rw [lg_entry_eq]
  generalize (lg_sl ([.long z, va_rf v, .int (nI (h + 1))]) ++ List.replicate (4 - (lg_sl ([.long z, va_rf v, .int (nI (h + 1))])).length) Slot.unset).toArray = ls at hl ⊢
  have hl : lv_has ls 4 [(0, .long z), (2, va_rf v), (3, .int (nI (h + 1)))] := by rw [qa_ar2 (qa_cl _), qa_ar1 (qa_cat _), qa_ar1 (qa_ci _)] at hl; exact hl
  have hH : s.heap = s.heap := rfl
  refine qa_aload_n hx hb dXT_digestOn_0 rfl (lv_at hl 1 rfl) ?_
  refine qa_ifnonnull (tgt := 6) hx hb dXT_digestOn_1 (by decide) (fun av c1 => ?_) (fun c1 => ?_)
  · subst c1
    obtain ⟨kv, hkv⟩ := hp av (mt_rep_mem hv0 av rfl)
    have hl : lv_has ls 4 [(0, .long z), (2, .ref av), (3, .int (nI (h + 1)))] := hl
    refine lv_iload_n hx hb dXT_digestOn_6 rfl (lv_at hl 2 rfl) ?_
    refine lv_if_gt (tgt := 32) hx hb dXT_digestOn_7 (by decide) (fun _ => ?_) (fun z => absurd (show 0 < nI (h + 1) from nI_lt (a := 0) (by omega) (by omega)) z)
    obtain ⟨d1, d2⟩ := mt_rep_down hv0
    have e3 := mt_two h
    have hp2 := Nat.two_pow_pos h
    refine lv_lload_n hx hb dXT_digestOn_32 rfl (lv_at hl 0 rfl) ?_
    refine lv_aload_n hx hb dXT_digestOn_33 rfl (lv_at hl 1 rfl) ?_
    refine va_getN (D := g.1) (ci := 0) (v := va_rf ((nf av).2.2.1)) (C := RXN) (T := TXN) (N := 7) hx hb hts (fun w h => List.mem_cons_of_mem _ (in_XN w h)) hown hK hP kv hkv rfl 2 (by decide) (va_Nw.use rfl (hE.w (.fieldLinkNest "MeldTree" 138 "MeldTree$Node" "low" "LMeldTree$Node;" "MeldTree") (by decide +kernel))) (fun _ h9 => h9) rfl dXT_digestOn_34 ?_
    refine lv_iload_n hx hb dXT_digestOn_37 rfl (lv_at hl 2 rfl) ?_
    refine lv_iconst (v := 1) hx hb dXT_digestOn_38 (by decide +kernel) ?_
    refine lv_isub hx hb dXT_digestOn_39 ?_
    refine qa_i (y := (nI h)) (nI_pred h) ?_
    refine vp_callSl (W.runS (As := [.long z, va_rf ((nf av).2.2.1), .int (nI h)]) (rest := []) ⟨hx, hb, hml, hown, hts⟩ (ih b z _ d1 (by omega)) (va_cwS 3 hts (mt_giS mw_375 mw_376 mw_1 (mt_gi mw_377)) rfl rfl rfl (by decide +kernel) ⟨Nat.le_refl _, by show 8 + (4 + 11) + 23 * h ≤ 23 * (h + 1); omega⟩) (mt_preS hE hz hS hP hD) rfl rfl hl.1 rfl (lv_room (Nat.le_of_ble_eq_true rfl)) dXT_digestOn_40 ⟨Nat.zero_le _, Nat.zero_le _⟩) (fun z1 e1 => ?_)
    subst e1
    refine lv_aload_n hx hb dXT_digestOn_43 rfl (lv_at hl 1 rfl) ?_
    refine va_getN (D := g.1) (ci := 0) (v := va_rf ((nf av).2.2.2.1)) (C := RXN) (T := TXN) (N := 7) hx hb hts (fun w h => List.mem_cons_of_mem _ (in_XN w h)) hown hK hP kv hkv rfl 3 (by decide) (va_Nw.use rfl (hE.w (.fieldLinkNest "MeldTree" 142 "MeldTree$Node" "high" "LMeldTree$Node;" "MeldTree") (by decide +kernel))) (fun _ h9 => h9) rfl dXT_digestOn_44 ?_
    refine lv_iload_n hx hb dXT_digestOn_47 rfl (lv_at hl 2 rfl) ?_
    refine lv_iconst (v := 1) hx hb dXT_digestOn_48 (by decide +kernel) ?_
    refine lv_isub hx hb dXT_digestOn_49 ?_
    refine qa_i (y := (nI h)) (nI_pred h) ?_
    refine vp_callSl (W.runS (As := [.long (mt_g t b z (2 ^ h)), va_rf ((nf av).2.2.2.1), .int (nI h)]) (rest := []) ⟨hx, hb, hml, hown, hts⟩ (ih (b + 2 ^ h) _ _ d2 (by omega)) (va_cwS 3 hts (mt_giS mw_375 mw_376 mw_1 (mt_gi mw_377)) rfl rfl rfl (by decide +kernel) ⟨Nat.le_refl _, by show 8 + (4 + 11) + 23 * h ≤ 23 * (h + 1); omega⟩) (mt_preS hE hz hS hP hD) rfl rfl hl.1 rfl (lv_room (Nat.le_of_ble_eq_true rfl)) dXT_digestOn_50 ⟨Nat.zero_le _, Nat.zero_le _⟩) (fun z1 e1 => ?_)
    subst e1
    exact W.lret (v := (mt_g t (b + 2 ^ h) (mt_g t b z (2 ^ h)) (2 ^ h))) hx hb hr (fun t9 ht hW => ⟨(mt_g t (b + 2 ^ h) (mt_g t b z (2 ^ h)) (2 ^ h)), rfl, by rw [e3, mt_g_add], ht⟩) t_nil dXT_digestOn_53
  · subst c1
    refine lv_lload_n hx hb dXT_digestOn_4 rfl (lv_at hl 0 rfl) ?_
    exact W.lret (v := z) hx hb hr (fun t9 ht hW => ⟨z, rfl, (mt_g_none (mt_rep_none.mp hv0)).symm, ht⟩) t_nil dXT_digestOn_5
set_option maxRecDepth 100000 in
theorem c_digestOn (l : Launch) (g : mt_G) (ws : va_W) (LP : List Nat) (nf : Nat → mt_N) (hp : mt_pool ws LP nf) (t : mt_T) : ∀ (h : Nat), h ≤ 8 → ∀ (b : Nat) (z : Int64) (v : Option Nat), mt_rep LP nf t h b v → b + 2 ^ h ≤ 256 → Met l yXT_digestOn wsXT_digestOn ({ frames := h, cells := 0, slots := 0, locals := 23 * h }) (mt_Pc g ws [.long z, va_rf v, .int (nI h)]) (vp_Sl (fun y => y = mt_g t b z (2 ^ h))) 0 0 (fun _ => False) := by
  intro h
  induction h with
  | zero => exact fun _ b z v h1 h2 => c_digestOn0 l g ws LP nf hp t b z v h1 h2
  | succ h ih => exact fun h8 b z v h1 h2 => c_digestOnS l g ws LP nf hp t h (by omega) (ih (by omega)) b z v h1 h2
end
section
set_option maxHeartbeats 4000000 in
set_option maxRecDepth 100000 in
/-- isAt(node, height, first), where it is -/
theorem c_isAt (l : Launch) (g : mt_G) (ws : va_W) (LP : List Nat) (nf : Nat → mt_N) (hp : mt_pool ws LP nf) (r : Option Nat) (h b : Nat) (his : mt_is LP nf r h b) : Met l yXT_isAt wsXT_isAt ({ frames := 0, cells := 0, slots := 0, locals := 0 }) (mt_Pc g ws [va_rf r, .int (nI h), .int (nI b)]) (vp_Si (fun z => z = 1)) (0) (0) (fun _ => False) := by
  refine Met.ofW (cc := cXT_isAt) (maxL := 3) (ret := (some .boolean)) (by decide) rfl ?_
  intro p e s m args below meth c s₁ B hml hv
  obtain ⟨rfl, hE, hz, hP, hD⟩ := hv
  have hx := B.exec
  have hb := B.bytes
  have hr := B.returns
  have hts := atoms_spec (ws := wsXT_isAt) B.pre
  have hown : s.vm.findClass RXT = some m.cls := findClass_of_methodNamed B.named
  have hlocks := B.notSynchronized
  have hK := hE.k
  have hA : ∀ q : Nat, s.heap.size ≤ q → mt_A g q := fun q h => Nat.le_trans hz h
  have hS : va_S (mt_A g) s.heap s.heap [] := va_S.rf
  have hl := lv_entry ([va_rf r, .int (nI h), .int (nI b)]) (n := 3) (by rw [qa_sl1 (qa_cat _), qa_sl1 (qa_ci _), qa_sl1 (qa_ci _), qa_sl0]; exact Nat.le_of_ble_eq_true rfl)
  rw [lg_entry_eq]
  generalize (lg_sl ([va_rf r, .int (nI h), .int (nI b)]) ++ List.replicate (3 - (lg_sl ([va_rf r, .int (nI h), .int (nI b)])).length) Slot.unset).toArray = ls at hl ⊢
  have hl : lv_has ls 3 [(0, va_rf r), (1, .int (nI h)), (2, .int (nI b))] := by rw [qa_ar1 (qa_cat _), qa_ar1 (qa_ci _), qa_ar1 (qa_ci _)] at hl; exact hl
  have hH : s.heap = s.heap := rfl
  refine qa_aload_n hx hb dXT_isAt_0 rfl (lv_at hl 0 rfl) ?_
  refine qa_ifnull (tgt := 20) hx hb dXT_isAt_1 (by decide) (fun c1 => ?_) (fun av c1 => ?_)
  · subst c1
    refine lv_iconst (v := 1) hx hb dXT_isAt_20 (by decide +kernel) ?_
    refine lv_goto (tgt := 25) hx hb dXT_isAt_21 (by decide) ?_
    exact W.zret (v := 1) hx hb hr rfl (fun t9 ht hW => ⟨1, rfl, rfl, ht⟩) t_nil dXT_isAt_25
  · subst c1
    obtain ⟨hm, h1, h2⟩ := his av rfl
    obtain ⟨kv, hkv⟩ := hp av hm
    have hl : lv_has ls 3 [(0, .ref av), (1, .int (nI h)), (2, .int (nI b))] := hl
    refine lv_aload_n hx hb dXT_isAt_4 rfl (lv_at hl 0 rfl) ?_
    refine va_getN (D := g.1) (ci := 0) (v := .int ((nf av).1)) (C := RXN) (T := TXN) (N := 7) hx hb hts (fun w h => List.mem_cons_of_mem _ (in_XN w h)) hown hK hP kv hkv rfl 0 (by decide) (va_Nw.use rfl (hE.w (.fieldLinkNest "MeldTree" 150 "MeldTree$Node" "height" "I" "MeldTree") (by decide +kernel))) (fun _ h9 => h9) rfl dXT_isAt_5 ?_
    refine lv_iload_n hx hb dXT_isAt_8 rfl (lv_at hl 1 rfl) ?_
    refine lv_icmp_ne (tgt := 24) hx hb dXT_isAt_9 (by decide) (fun z => absurd h1 z) (fun _ => ?_)
    refine lv_aload_n hx hb dXT_isAt_12 rfl (lv_at hl 0 rfl) ?_
    refine va_getN (D := g.1) (ci := 0) (v := .int ((nf av).2.1)) (C := RXN) (T := TXN) (N := 7) hx hb hts (fun w h => List.mem_cons_of_mem _ (in_XN w h)) hown hK hP kv hkv rfl 1 (by decide) (va_Nw.use rfl (hE.w (.fieldLinkNest "MeldTree" 147 "MeldTree$Node" "first" "I" "MeldTree") (by decide +kernel))) (fun _ h9 => h9) rfl dXT_isAt_13 ?_
    refine lv_iload_n hx hb dXT_isAt_16 rfl (lv_at hl 2 rfl) ?_
    refine lv_icmp_ne (tgt := 24) hx hb dXT_isAt_17 (by decide) (fun z => absurd h2 z) (fun _ => ?_)
    refine lv_iconst (v := 1) hx hb dXT_isAt_20 (by decide +kernel) ?_
    refine lv_goto (tgt := 25) hx hb dXT_isAt_21 (by decide) ?_
    exact W.zret (v := 1) hx hb hr rfl (fun t9 ht hW => ⟨1, rfl, rfl, ht⟩) t_nil dXT_isAt_25
set_option maxHeartbeats 4000000 in
set_option maxRecDepth 100000 in
/-- faultsOfLeaf(leaf), where there are none -/
theorem c_faultsOfLeaf (l : Launch) (g : mt_G) (ws : va_W) (LP : List Nat) (nf : Nat → mt_N) (hp : mt_pool ws LP nf) (a : Nat) (ha : a ∈ LP) (b x : Int32) (hn : nf a = (0, b, none, none, x, 1, x.toInt64)) : Met l yXT_faultsOfLeaf wsXT_faultsOfLeaf ({ frames := 0, cells := 0, slots := 0, locals := 0 }) (mt_Pc g ws [.ref a]) (vp_Si (fun z => z = 0)) (0) (0) (fun _ => False) := by
  refine Met.ofW (cc := cXT_faultsOfLeaf) (maxL := 2) (ret := (some .int)) (by decide) rfl ?_
  intro p e s m args below meth c s₁ B hml hv
  obtain ⟨rfl, hE, hz, hP, hD⟩ := hv
  have hx := B.exec
  have hb := B.bytes
  have hr := B.returns
  have hts := atoms_spec (ws := wsXT_faultsOfLeaf) B.pre
  have hown : s.vm.findClass RXT = some m.cls := findClass_of_methodNamed B.named
  have hlocks := B.notSynchronized
  have hK := hE.k
  have hA : ∀ q : Nat, s.heap.size ≤ q → mt_A g q := fun q h => Nat.le_trans hz h
  have hS : va_S (mt_A g) s.heap s.heap [] := va_S.rf
  have hl := lv_entry ([.ref a]) (n := 2) (Nat.le_of_ble_eq_true rfl)
  rw [lg_entry_eq]
  generalize (lg_sl ([.ref a]) ++ List.replicate (2 - (lg_sl ([.ref a])).length) Slot.unset).toArray = ls at hl ⊢
  have hl : lv_has ls 2 [(0, .ref a)] := hl
  have hH : s.heap = s.heap := rfl
  obtain ⟨kv, hkv⟩ := hp a ha
  have e1 : (nf a).2.2.1 = none := by rw [hn]
  have e2 : (nf a).2.2.2.1 = none := by rw [hn]
  have e3 : (nf a).2.2.2.2.2.1 = 1 := by rw [hn]
  have e4 : lg_cmp (nf a).2.2.2.2.2.2 (nf a).2.2.2.2.1.toInt64 = 0 := by rw [hn]; exact qa_cmp _
  refine lv_aload_n hx hb dXT_faultsOfLeaf_0 rfl (lv_at hl 0 rfl) ?_
  refine va_getN (D := g.1) (ci := 0) (v := va_rf ((nf a).2.2.1)) (C := RXN) (T := TXN) (N := 7) hx hb hts (fun w h => List.mem_cons_of_mem _ (in_XN w h)) hown hK hP kv hkv rfl 2 (by decide) (va_Nw.use rfl (hE.w (.fieldLinkNest "MeldTree" 138 "MeldTree$Node" "low" "LMeldTree$Node;" "MeldTree") (by decide +kernel))) (fun _ h9 => h9) rfl dXT_faultsOfLeaf_1 ?_
  refine qa_q (y := none) e1 ?_
  refine lv_ifnonnullN hx hb dXT_faultsOfLeaf_4 ?_
  refine lv_aload_n hx hb dXT_faultsOfLeaf_7 rfl (lv_at hl 0 rfl) ?_
  refine va_getN (D := g.1) (ci := 0) (v := va_rf ((nf a).2.2.2.1)) (C := RXN) (T := TXN) (N := 7) hx hb hts (fun w h => List.mem_cons_of_mem _ (in_XN w h)) hown hK hP kv hkv rfl 3 (by decide) (va_Nw.use rfl (hE.w (.fieldLinkNest "MeldTree" 142 "MeldTree$Node" "high" "LMeldTree$Node;" "MeldTree") (by decide +kernel))) (fun _ h9 => h9) rfl dXT_faultsOfLeaf_8 ?_
  refine qa_q (y := none) e2 ?_
  refine lv_ifnonnullN hx hb dXT_faultsOfLeaf_11 ?_
  refine lv_iconst (v := 0) hx hb dXT_faultsOfLeaf_14 (by decide +kernel) ?_
  refine lv_goto (tgt := 19) hx hb dXT_faultsOfLeaf_15 (by decide) ?_
  refine lv_istore_n (i := 1) (lv' := [(1, .int 0), (0, .ref a)]) hx hb dXT_faultsOfLeaf_19 rfl hl (by decide) rfl (fun ls hl => ?_)
  refine lv_iload_n hx hb dXT_faultsOfLeaf_20 rfl (lv_at hl 0 rfl) ?_
  refine lv_aload_n hx hb dXT_faultsOfLeaf_21 rfl (lv_at hl 1 rfl) ?_
  refine va_getN (D := g.1) (ci := 0) (v := .int ((nf a).2.2.2.2.2.1)) (C := RXN) (T := TXN) (N := 7) hx hb hts (fun w h => List.mem_cons_of_mem _ (in_XN w h)) hown hK hP kv hkv rfl 5 (by decide) (va_Nw.use rfl (hE.w (.fieldLinkNest "MeldTree" 159 "MeldTree$Node" "size" "I" "MeldTree") (by decide +kernel))) (fun _ h9 => h9) rfl dXT_faultsOfLeaf_22 ?_
  refine lv_iconst (v := 1) hx hb dXT_faultsOfLeaf_25 (by decide +kernel) ?_
  refine lv_icmp_ne (tgt := 33) hx hb dXT_faultsOfLeaf_26 (by decide) (fun z => absurd e3 z) (fun _ => ?_)
  refine lv_iconst (v := 0) hx hb dXT_faultsOfLeaf_29 (by decide +kernel) ?_
  refine lv_goto (tgt := 34) hx hb dXT_faultsOfLeaf_30 (by decide) ?_
  refine lv_iadd hx hb dXT_faultsOfLeaf_34 ?_
  refine qa_i (y := 0) rfl ?_
  refine lv_istore_n (i := 1) (lv' := [(1, .int 0), (0, .ref a)]) hx hb dXT_faultsOfLeaf_35 rfl hl (by decide) rfl (fun ls hl => ?_)
  refine lv_iload_n hx hb dXT_faultsOfLeaf_36 rfl (lv_at hl 0 rfl) ?_
  refine lv_aload_n hx hb dXT_faultsOfLeaf_37 rfl (lv_at hl 1 rfl) ?_
  refine va_getN (D := g.1) (ci := 0) (v := .long ((nf a).2.2.2.2.2.2)) (C := RXN) (T := TXN) (N := 7) hx hb hts (fun w h => List.mem_cons_of_mem _ (in_XN w h)) hown hK hP kv hkv rfl 6 (by decide) (va_Nw.use rfl (hE.w (.fieldLinkNest "MeldTree" 161 "MeldTree$Node" "total" "J" "MeldTree") (by decide +kernel))) (fun _ h9 => h9) rfl dXT_faultsOfLeaf_38 ?_
  refine lv_aload_n hx hb dXT_faultsOfLeaf_41 rfl (lv_at hl 1 rfl) ?_
  refine va_getN (D := g.1) (ci := 0) (v := .int ((nf a).2.2.2.2.1)) (C := RXN) (T := TXN) (N := 7) hx hb hts (fun w h => List.mem_cons_of_mem _ (in_XN w h)) hown hK hP kv hkv rfl 4 (by decide) (va_Nw.use rfl (hE.w (.fieldLinkNest "MeldTree" 67 "MeldTree$Node" "value" "I" "MeldTree") (by decide +kernel))) (fun _ h9 => h9) rfl dXT_faultsOfLeaf_42 ?_
  refine lv_i2l (v := ((nf a).2.2.2.2.1).toInt64) hx hb dXT_faultsOfLeaf_45 rfl ?_
  refine W.lcmp hx hb dXT_faultsOfLeaf_46 ?_
  refine lv_if_ne (tgt := 54) hx hb dXT_faultsOfLeaf_47 (by decide) (fun z => absurd e4 z) (fun _ => ?_)
  refine lv_iconst (v := 0) hx hb dXT_faultsOfLeaf_50 (by decide +kernel) ?_
  refine lv_goto (tgt := 55) hx hb dXT_faultsOfLeaf_51 (by decide) ?_
  refine lv_iadd hx hb dXT_faultsOfLeaf_55 ?_
  refine qa_i (y := 0) rfl ?_
  refine lv_istore_n (i := 1) (lv' := [(1, .int 0), (0, .ref a)]) hx hb dXT_faultsOfLeaf_56 rfl hl (by decide) rfl (fun ls hl => ?_)
  refine lv_iload_n hx hb dXT_faultsOfLeaf_57 rfl (lv_at hl 0 rfl) ?_
  exact W.iret (v := 0) hx hb hr (fun t9 ht hW => ⟨0, rfl, rfl, ht⟩) t_nil dXT_faultsOfLeaf_58
set_option maxHeartbeats 4000000 in
set_option maxRecDepth 100000 in
/-- faultsOfFork(fork), where there are none -/
theorem c_faultsOfFork (l : Launch) (g : mt_G) (ws : va_W) (LP : List Nat) (nf : Nat → mt_N) (hp : mt_pool ws LP nf) (a : Nat) (ha : a ∈ LP) (h b : Nat) (lo hi : Option Nat) (hh : h < 8) (hn : nf a = (nI (h + 1), nI b, lo, hi, 0, mt_sz nf lo + mt_sz nf hi, mt_to nf lo + mt_to nf hi)) (hne : ¬ (lo = none ∧ hi = none)) (h1 : mt_is LP nf lo h b) (h2 : mt_is LP nf hi h (b + 2 ^ h)) : Met l yXT_faultsOfFork wsXT_faultsOfFork ({ frames := 1, cells := 0, slots := 0, locals := 22 }) (mt_Pc g ws [.ref a]) (vp_Si (fun z => z = 0)) (0) (0) (fun _ => False) := by
  refine Met.ofW (cc := cXT_faultsOfFork) (maxL := 3) (ret := (some .int)) (by decide) rfl ?_
  intro p e s m args below meth c s₁ B hml hv
  obtain ⟨rfl, hE, hz, hP, hD⟩ := hv
  have hx := B.exec
  have hb := B.bytes
  have hr := B.returns
  have hts := atoms_spec (ws := wsXT_faultsOfFork) B.pre
  have hown : s.vm.findClass RXT = some m.cls := findClass_of_methodNamed B.named
  have hlocks := B.notSynchronized
  have hK := hE.k
  have hA : ∀ q : Nat, s.heap.size ≤ q → mt_A g q := fun q h => Nat.le_trans hz h
  have hS : va_S (mt_A g) s.heap s.heap [] := va_S.rf
  have hl := lv_entry ([.ref a]) (n := 3) (Nat.le_of_ble_eq_true rfl)
  rw [lg_entry_eq]
  generalize (lg_sl ([.ref a]) ++ List.replicate (3 - (lg_sl ([.ref a])).length) Slot.unset).toArray = ls at hl ⊢
  have hl : lv_has ls 3 [(0, .ref a)] := hl
  have hH : s.heap = s.heap := rfl
  obtain ⟨kv, hkv⟩ := hp a ha
  have f0 : (nf a).1 = nI (h + 1) := by rw [hn]
  have f1 : (nf a).2.1 = nI b := by rw [hn]
  have f2 : (nf a).2.2.1 = lo := by rw [hn]
  have f3 : (nf a).2.2.2.1 = hi := by rw [hn]
  have f5 : (nf a).2.2.2.2.2.1 = mt_sz nf lo + mt_sz nf hi := by rw [hn]
  have f6 : (nf a).2.2.2.2.2.2 = mt_to nf lo + mt_to nf hi := by rw [hn]
  refine lv_aload_n hx hb dXT_faultsOfFork_0 rfl (lv_at hl 0 rfl) ?_
  refine va_getN (D := g.1) (ci := 0) (v := .int ((nf a).1)) (C := RXN) (T := TXN) (N := 7) hx hb hts (fun w h => List.mem_cons_of_mem _ (in_XN w h)) hown hK hP kv hkv rfl 0 (by decide) (va_Nw.use rfl (hE.w (.fieldLinkNest "MeldTree" 150 "MeldTree$Node" "height" "I" "MeldTree") (by decide +kernel))) (fun _ h9 => h9) rfl dXT_faultsOfFork_1 ?_
  refine qa_i (y := (nI (h + 1))) f0 ?_
  refine lv_iconst (v := 1) hx hb dXT_faultsOfFork_4 (by decide +kernel) ?_
  refine lv_isub hx hb dXT_faultsOfFork_5 ?_
  refine qa_i (y := (nI h)) (nI_pred h) ?_
  refine lv_istore_n (i := 1) (lv' := [(1, .int (nI h)), (0, .ref a)]) hx hb dXT_faultsOfFork_6 rfl hl (by decide) rfl (fun ls hl => ?_)
  refine lv_aload_n hx hb dXT_faultsOfFork_7 rfl (lv_at hl 1 rfl) ?_
  refine va_getN (D := g.1) (ci := 0) (v := va_rf ((nf a).2.2.1)) (C := RXN) (T := TXN) (N := 7) hx hb hts (fun w h => List.mem_cons_of_mem _ (in_XN w h)) hown hK hP kv hkv rfl 2 (by decide) (va_Nw.use rfl (hE.w (.fieldLinkNest "MeldTree" 138 "MeldTree$Node" "low" "LMeldTree$Node;" "MeldTree") (by decide +kernel))) (fun _ h9 => h9) rfl dXT_faultsOfFork_8 ?_
  refine qa_q (y := lo) f2 ?_
  refine lv_iload_n hx hb dXT_faultsOfFork_11 rfl (lv_at hl 0 rfl) ?_
  refine lv_aload_n hx hb dXT_faultsOfFork_12 rfl (lv_at hl 1 rfl) ?_
  refine va_getN (D := g.1) (ci := 0) (v := .int ((nf a).2.1)) (C := RXN) (T := TXN) (N := 7) hx hb hts (fun w h => List.mem_cons_of_mem _ (in_XN w h)) hown hK hP kv hkv rfl 1 (by decide) (va_Nw.use rfl (hE.w (.fieldLinkNest "MeldTree" 147 "MeldTree$Node" "first" "I" "MeldTree") (by decide +kernel))) (fun _ h9 => h9) rfl dXT_faultsOfFork_13 ?_
  refine qa_i (y := (nI b)) f1 ?_
  refine vp_callSi (W.runS (As := [va_rf lo, .int (nI h), .int (nI b)]) (rest := []) ⟨hx, hb, hml, hown, hts⟩ (c_isAt l g ws LP nf hp lo h b h1) (va_cwS 3 hts (mt_giS mw_71 mw_72 mw_1 (mt_gi mw_73)) rfl rfl rfl (by decide +kernel) ⟨Nat.le_of_ble_eq_true rfl, Nat.le_of_ble_eq_true rfl⟩) (mt_preS hE hz hS hP hD) rfl rfl hl.1 rfl (lv_room (Nat.le_of_ble_eq_true rfl)) dXT_faultsOfFork_16 ⟨Nat.zero_le _, Nat.zero_le _⟩) (fun z1 e1 => ?_)
  subst e1
  refine lv_if_eq (tgt := 26) hx hb dXT_faultsOfFork_19 (by decide) (fun z => absurd z (show ¬ (1 : Int32) = 0 by decide)) (fun _ => ?_)
  refine lv_iconst (v := 0) hx hb dXT_faultsOfFork_22 (by decide +kernel) ?_
  refine lv_goto (tgt := 27) hx hb dXT_faultsOfFork_23 (by decide) ?_
  refine lv_istore_n (i := 2) (lv' := [(2, .int 0), (1, .int (nI h)), (0, .ref a)]) hx hb dXT_faultsOfFork_27 rfl hl (by decide) rfl (fun ls hl => ?_)
  refine lv_iload_n hx hb dXT_faultsOfFork_28 rfl (lv_at hl 0 rfl) ?_
  refine lv_aload_n hx hb dXT_faultsOfFork_29 rfl (lv_at hl 2 rfl) ?_
  refine va_getN (D := g.1) (ci := 0) (v := va_rf ((nf a).2.2.2.1)) (C := RXN) (T := TXN) (N := 7) hx hb hts (fun w h => List.mem_cons_of_mem _ (in_XN w h)) hown hK hP kv hkv rfl 3 (by decide) (va_Nw.use rfl (hE.w (.fieldLinkNest "MeldTree" 142 "MeldTree$Node" "high" "LMeldTree$Node;" "MeldTree") (by decide +kernel))) (fun _ h9 => h9) rfl dXT_faultsOfFork_30 ?_
  refine qa_q (y := hi) f3 ?_
  refine lv_iload_n hx hb dXT_faultsOfFork_33 rfl (lv_at hl 1 rfl) ?_
  refine lv_aload_n hx hb dXT_faultsOfFork_34 rfl (lv_at hl 2 rfl) ?_
  refine va_getN (D := g.1) (ci := 0) (v := .int ((nf a).2.1)) (C := RXN) (T := TXN) (N := 7) hx hb hts (fun w h => List.mem_cons_of_mem _ (in_XN w h)) hown hK hP kv hkv rfl 1 (by decide) (va_Nw.use rfl (hE.w (.fieldLinkNest "MeldTree" 147 "MeldTree$Node" "first" "I" "MeldTree") (by decide +kernel))) (fun _ h9 => h9) rfl dXT_faultsOfFork_35 ?_
  refine qa_i (y := (nI b)) f1 ?_
  refine lv_iconst (v := 1) hx hb dXT_faultsOfFork_38 (by decide +kernel) ?_
  refine lv_iload_n hx hb dXT_faultsOfFork_39 rfl (lv_at hl 1 rfl) ?_
  refine lv_ishl hx hb dXT_faultsOfFork_40 ?_
  refine lv_iadd hx hb dXT_faultsOfFork_41 ?_
  refine qa_i (y := (nI (b + 2 ^ h))) (by rw [mt_one h hh]; exact nI_add b (2 ^ h)) ?_
  refine vp_callSi (W.runS (As := [va_rf hi, .int (nI h), .int (nI (b + 2 ^ h))]) (rest := [.int 0]) ⟨hx, hb, hml, hown, hts⟩ (c_isAt l g ws LP nf hp hi h (b + 2 ^ h) h2) (va_cwS 3 hts (mt_giS mw_71 mw_72 mw_1 (mt_gi mw_73)) rfl rfl rfl (by decide +kernel) ⟨Nat.le_of_ble_eq_true rfl, Nat.le_of_ble_eq_true rfl⟩) (mt_preS hE hz hS hP hD) rfl rfl hl.1 rfl (lv_room (Nat.le_of_ble_eq_true rfl)) dXT_faultsOfFork_42 ⟨Nat.zero_le _, Nat.zero_le _⟩) (fun z1 e1 => ?_)
  subst e1
  refine lv_if_eq (tgt := 52) hx hb dXT_faultsOfFork_45 (by decide) (fun z => absurd z (show ¬ (1 : Int32) = 0 by decide)) (fun _ => ?_)
  refine lv_iconst (v := 0) hx hb dXT_faultsOfFork_48 (by decide +kernel) ?_
  refine lv_goto (tgt := 53) hx hb dXT_faultsOfFork_49 (by decide) ?_
  refine lv_iadd hx hb dXT_faultsOfFork_53 ?_
  refine qa_i (y := 0) rfl ?_
  refine lv_istore_n (i := 2) (lv' := [(2, .int 0), (1, .int (nI h)), (0, .ref a)]) hx hb dXT_faultsOfFork_54 rfl hl (by decide) rfl (fun ls hl => ?_)
  refine lv_iload_n hx hb dXT_faultsOfFork_55 rfl (lv_at hl 0 rfl) ?_
  refine lv_aload_n hx hb dXT_faultsOfFork_56 rfl (lv_at hl 2 rfl) ?_
  refine va_getN (D := g.1) (ci := 0) (v := va_rf ((nf a).2.2.1)) (C := RXN) (T := TXN) (N := 7) hx hb hts (fun w h => List.mem_cons_of_mem _ (in_XN w h)) hown hK hP kv hkv rfl 2 (by decide) (va_Nw.use rfl (hE.w (.fieldLinkNest "MeldTree" 138 "MeldTree$Node" "low" "LMeldTree$Node;" "MeldTree") (by decide +kernel))) (fun _ h9 => h9) rfl dXT_faultsOfFork_57 ?_
  refine qa_q (y := lo) f2 ?_
  refine qa_ifnonnull (tgt := 74) hx hb dXT_faultsOfFork_60 (by decide) (fun al c1 => ?_) (fun c1 => ?_)
  · refine lv_iconst (v := 0) hx hb dXT_faultsOfFork_74 (by decide +kernel) ?_
    refine lv_iadd hx hb dXT_faultsOfFork_75 ?_
    refine qa_i (y := 0) rfl ?_
    refine lv_istore_n (i := 2) (lv' := [(2, .int 0), (1, .int (nI h)), (0, .ref a)]) hx hb dXT_faultsOfFork_76 rfl hl (by decide) rfl (fun ls hl => ?_)
    refine lv_iload_n hx hb dXT_faultsOfFork_77 rfl (lv_at hl 0 rfl) ?_
    refine lv_aload_n hx hb dXT_faultsOfFork_78 rfl (lv_at hl 2 rfl) ?_
    refine va_getN (D := g.1) (ci := 0) (v := .int ((nf a).2.2.2.2.2.1)) (C := RXN) (T := TXN) (N := 7) hx hb hts (fun w h => List.mem_cons_of_mem _ (in_XN w h)) hown hK hP kv hkv rfl 5 (by decide) (va_Nw.use rfl (hE.w (.fieldLinkNest "MeldTree" 159 "MeldTree$Node" "size" "I" "MeldTree") (by decide +kernel))) (fun _ h9 => h9) rfl dXT_faultsOfFork_79 ?_
    refine qa_i (y := (mt_sz nf lo + mt_sz nf hi)) f5 ?_
    refine lv_aload_n hx hb dXT_faultsOfFork_82 rfl (lv_at hl 2 rfl) ?_
    refine va_getN (D := g.1) (ci := 0) (v := va_rf ((nf a).2.2.1)) (C := RXN) (T := TXN) (N := 7) hx hb hts (fun w h => List.mem_cons_of_mem _ (in_XN w h)) hown hK hP kv hkv rfl 2 (by decide) (va_Nw.use rfl (hE.w (.fieldLinkNest "MeldTree" 138 "MeldTree$Node" "low" "LMeldTree$Node;" "MeldTree") (by decide +kernel))) (fun _ h9 => h9) rfl dXT_faultsOfFork_83 ?_
    refine qa_q (y := lo) f2 ?_
    refine vp_callSi (W.runS (As := [va_rf lo]) (rest := [.int (mt_sz nf lo + mt_sz nf hi), .int 0]) ⟨hx, hb, hml, hown, hts⟩ (c_sizeOf l g ws LP nf hp lo (fun x hx9 => (h1 x hx9).1)) (va_cwS 1 hts (mt_giS mw_101 mw_102 mw_1 (mt_gi mw_103)) rfl rfl rfl (by decide +kernel) ⟨Nat.le_of_ble_eq_true rfl, Nat.le_of_ble_eq_true rfl⟩) (mt_preS hE hz hS hP hD) rfl rfl hl.1 rfl (lv_room (Nat.le_of_ble_eq_true rfl)) dXT_faultsOfFork_86 ⟨Nat.zero_le _, Nat.zero_le _⟩) (fun z1 e1 => ?_)
    subst e1
    refine lv_aload_n hx hb dXT_faultsOfFork_89 rfl (lv_at hl 2 rfl) ?_
    refine va_getN (D := g.1) (ci := 0) (v := va_rf ((nf a).2.2.2.1)) (C := RXN) (T := TXN) (N := 7) hx hb hts (fun w h => List.mem_cons_of_mem _ (in_XN w h)) hown hK hP kv hkv rfl 3 (by decide) (va_Nw.use rfl (hE.w (.fieldLinkNest "MeldTree" 142 "MeldTree$Node" "high" "LMeldTree$Node;" "MeldTree") (by decide +kernel))) (fun _ h9 => h9) rfl dXT_faultsOfFork_90 ?_
    refine qa_q (y := hi) f3 ?_
    refine vp_callSi (W.runS (As := [va_rf hi]) (rest := [.int (mt_sz nf lo), .int (mt_sz nf lo + mt_sz nf hi), .int 0]) ⟨hx, hb, hml, hown, hts⟩ (c_sizeOf l g ws LP nf hp hi (fun x hx9 => (h2 x hx9).1)) (va_cwS 1 hts (mt_giS mw_101 mw_102 mw_1 (mt_gi mw_103)) rfl rfl rfl (by decide +kernel) ⟨Nat.le_of_ble_eq_true rfl, Nat.le_of_ble_eq_true rfl⟩) (mt_preS hE hz hS hP hD) rfl rfl hl.1 rfl (lv_room (Nat.le_of_ble_eq_true rfl)) dXT_faultsOfFork_93 ⟨Nat.zero_le _, Nat.zero_le _⟩) (fun z1 e1 => ?_)
    subst e1
    refine lv_iadd hx hb dXT_faultsOfFork_96 ?_
    refine lv_icmp_ne (tgt := 104) hx hb dXT_faultsOfFork_97 (by decide) (fun z => absurd rfl z) (fun _ => ?_)
    refine lv_iconst (v := 0) hx hb dXT_faultsOfFork_100 (by decide +kernel) ?_
    refine lv_goto (tgt := 105) hx hb dXT_faultsOfFork_101 (by decide) ?_
    refine lv_iadd hx hb dXT_faultsOfFork_105 ?_
    refine qa_i (y := 0) rfl ?_
    refine lv_istore_n (i := 2) (lv' := [(2, .int 0), (1, .int (nI h)), (0, .ref a)]) hx hb dXT_faultsOfFork_106 rfl hl (by decide) rfl (fun ls hl => ?_)
    refine lv_iload_n hx hb dXT_faultsOfFork_107 rfl (lv_at hl 0 rfl) ?_
    refine lv_aload_n hx hb dXT_faultsOfFork_108 rfl (lv_at hl 2 rfl) ?_
    refine va_getN (D := g.1) (ci := 0) (v := .long ((nf a).2.2.2.2.2.2)) (C := RXN) (T := TXN) (N := 7) hx hb hts (fun w h => List.mem_cons_of_mem _ (in_XN w h)) hown hK hP kv hkv rfl 6 (by decide) (va_Nw.use rfl (hE.w (.fieldLinkNest "MeldTree" 161 "MeldTree$Node" "total" "J" "MeldTree") (by decide +kernel))) (fun _ h9 => h9) rfl dXT_faultsOfFork_109 ?_
    refine qa_l (y := (mt_to nf lo + mt_to nf hi)) f6 ?_
    refine lv_aload_n hx hb dXT_faultsOfFork_112 rfl (lv_at hl 2 rfl) ?_
    refine va_getN (D := g.1) (ci := 0) (v := va_rf ((nf a).2.2.1)) (C := RXN) (T := TXN) (N := 7) hx hb hts (fun w h => List.mem_cons_of_mem _ (in_XN w h)) hown hK hP kv hkv rfl 2 (by decide) (va_Nw.use rfl (hE.w (.fieldLinkNest "MeldTree" 138 "MeldTree$Node" "low" "LMeldTree$Node;" "MeldTree") (by decide +kernel))) (fun _ h9 => h9) rfl dXT_faultsOfFork_113 ?_
    refine qa_q (y := lo) f2 ?_
    refine vp_callSl (W.runS (As := [va_rf lo]) (rest := [.long (mt_to nf lo + mt_to nf hi), .int 0]) ⟨hx, hb, hml, hown, hts⟩ (c_totalOf l g ws LP nf hp lo (fun x hx9 => (h1 x hx9).1)) (va_cwS 1 hts (mt_giS mw_104 mw_105 mw_1 (mt_gi mw_106)) rfl rfl rfl (by decide +kernel) ⟨Nat.le_of_ble_eq_true rfl, Nat.le_of_ble_eq_true rfl⟩) (mt_preS hE hz hS hP hD) rfl rfl hl.1 rfl (lv_room (Nat.le_of_ble_eq_true rfl)) dXT_faultsOfFork_116 ⟨Nat.zero_le _, Nat.zero_le _⟩) (fun z1 e1 => ?_)
    subst e1
    refine lv_aload_n hx hb dXT_faultsOfFork_119 rfl (lv_at hl 2 rfl) ?_
    refine va_getN (D := g.1) (ci := 0) (v := va_rf ((nf a).2.2.2.1)) (C := RXN) (T := TXN) (N := 7) hx hb hts (fun w h => List.mem_cons_of_mem _ (in_XN w h)) hown hK hP kv hkv rfl 3 (by decide) (va_Nw.use rfl (hE.w (.fieldLinkNest "MeldTree" 142 "MeldTree$Node" "high" "LMeldTree$Node;" "MeldTree") (by decide +kernel))) (fun _ h9 => h9) rfl dXT_faultsOfFork_120 ?_
    refine qa_q (y := hi) f3 ?_
    refine vp_callSl (W.runS (As := [va_rf hi]) (rest := [.long (mt_to nf lo), .long (mt_to nf lo + mt_to nf hi), .int 0]) ⟨hx, hb, hml, hown, hts⟩ (c_totalOf l g ws LP nf hp hi (fun x hx9 => (h2 x hx9).1)) (va_cwS 1 hts (mt_giS mw_104 mw_105 mw_1 (mt_gi mw_106)) rfl rfl rfl (by decide +kernel) ⟨Nat.le_of_ble_eq_true rfl, Nat.le_of_ble_eq_true rfl⟩) (mt_preS hE hz hS hP hD) rfl rfl hl.1 rfl (lv_room (Nat.le_of_ble_eq_true rfl)) dXT_faultsOfFork_123 ⟨Nat.zero_le _, Nat.zero_le _⟩) (fun z1 e1 => ?_)
    subst e1
    refine lv_ladd hx hb dXT_faultsOfFork_126 ?_
    refine W.lcmp hx hb dXT_faultsOfFork_127 ?_
    refine lv_if_ne (tgt := 135) hx hb dXT_faultsOfFork_128 (by decide) (fun z => absurd (qa_cmp _) z) (fun _ => ?_)
    refine lv_iconst (v := 0) hx hb dXT_faultsOfFork_131 (by decide +kernel) ?_
    refine lv_goto (tgt := 136) hx hb dXT_faultsOfFork_132 (by decide) ?_
    refine lv_iadd hx hb dXT_faultsOfFork_136 ?_
    refine qa_i (y := 0) rfl ?_
    refine lv_istore_n (i := 2) (lv' := [(2, .int 0), (1, .int (nI h)), (0, .ref a)]) hx hb dXT_faultsOfFork_137 rfl hl (by decide) rfl (fun ls hl => ?_)
    refine lv_iload_n hx hb dXT_faultsOfFork_138 rfl (lv_at hl 0 rfl) ?_
    exact W.iret (v := 0) hx hb hr (fun t9 ht hW => ⟨0, rfl, rfl, ht⟩) t_nil dXT_faultsOfFork_139
  · refine lv_aload_n hx hb dXT_faultsOfFork_63 rfl (lv_at hl 2 rfl) ?_
    refine va_getN (D := g.1) (ci := 0) (v := va_rf ((nf a).2.2.2.1)) (C := RXN) (T := TXN) (N := 7) hx hb hts (fun w h => List.mem_cons_of_mem _ (in_XN w h)) hown hK hP kv hkv rfl 3 (by decide) (va_Nw.use rfl (hE.w (.fieldLinkNest "MeldTree" 142 "MeldTree$Node" "high" "LMeldTree$Node;" "MeldTree") (by decide +kernel))) (fun _ h9 => h9) rfl dXT_faultsOfFork_64 ?_
    refine qa_q (y := hi) f3 ?_
    refine qa_ifnonnull (tgt := 74) hx hb dXT_faultsOfFork_67 (by decide) (fun ah c2 => ?_) (fun c2 => ?_)
    · refine lv_iconst (v := 0) hx hb dXT_faultsOfFork_74 (by decide +kernel) ?_
      refine lv_iadd hx hb dXT_faultsOfFork_75 ?_
      refine qa_i (y := 0) rfl ?_
      refine lv_istore_n (i := 2) (lv' := [(2, .int 0), (1, .int (nI h)), (0, .ref a)]) hx hb dXT_faultsOfFork_76 rfl hl (by decide) rfl (fun ls hl => ?_)
      refine lv_iload_n hx hb dXT_faultsOfFork_77 rfl (lv_at hl 0 rfl) ?_
      refine lv_aload_n hx hb dXT_faultsOfFork_78 rfl (lv_at hl 2 rfl) ?_
      refine va_getN (D := g.1) (ci := 0) (v := .int ((nf a).2.2.2.2.2.1)) (C := RXN) (T := TXN) (N := 7) hx hb hts (fun w h => List.mem_cons_of_mem _ (in_XN w h)) hown hK hP kv hkv rfl 5 (by decide) (va_Nw.use rfl (hE.w (.fieldLinkNest "MeldTree" 159 "MeldTree$Node" "size" "I" "MeldTree") (by decide +kernel))) (fun _ h9 => h9) rfl dXT_faultsOfFork_79 ?_
      refine qa_i (y := (mt_sz nf lo + mt_sz nf hi)) f5 ?_
      refine lv_aload_n hx hb dXT_faultsOfFork_82 rfl (lv_at hl 2 rfl) ?_
      refine va_getN (D := g.1) (ci := 0) (v := va_rf ((nf a).2.2.1)) (C := RXN) (T := TXN) (N := 7) hx hb hts (fun w h => List.mem_cons_of_mem _ (in_XN w h)) hown hK hP kv hkv rfl 2 (by decide) (va_Nw.use rfl (hE.w (.fieldLinkNest "MeldTree" 138 "MeldTree$Node" "low" "LMeldTree$Node;" "MeldTree") (by decide +kernel))) (fun _ h9 => h9) rfl dXT_faultsOfFork_83 ?_
      refine qa_q (y := lo) f2 ?_
      refine vp_callSi (W.runS (As := [va_rf lo]) (rest := [.int (mt_sz nf lo + mt_sz nf hi), .int 0]) ⟨hx, hb, hml, hown, hts⟩ (c_sizeOf l g ws LP nf hp lo (fun x hx9 => (h1 x hx9).1)) (va_cwS 1 hts (mt_giS mw_101 mw_102 mw_1 (mt_gi mw_103)) rfl rfl rfl (by decide +kernel) ⟨Nat.le_of_ble_eq_true rfl, Nat.le_of_ble_eq_true rfl⟩) (mt_preS hE hz hS hP hD) rfl rfl hl.1 rfl (lv_room (Nat.le_of_ble_eq_true rfl)) dXT_faultsOfFork_86 ⟨Nat.zero_le _, Nat.zero_le _⟩) (fun z1 e1 => ?_)
      subst e1
      refine lv_aload_n hx hb dXT_faultsOfFork_89 rfl (lv_at hl 2 rfl) ?_
      refine va_getN (D := g.1) (ci := 0) (v := va_rf ((nf a).2.2.2.1)) (C := RXN) (T := TXN) (N := 7) hx hb hts (fun w h => List.mem_cons_of_mem _ (in_XN w h)) hown hK hP kv hkv rfl 3 (by decide) (va_Nw.use rfl (hE.w (.fieldLinkNest "MeldTree" 142 "MeldTree$Node" "high" "LMeldTree$Node;" "MeldTree") (by decide +kernel))) (fun _ h9 => h9) rfl dXT_faultsOfFork_90 ?_
      refine qa_q (y := hi) f3 ?_
      refine vp_callSi (W.runS (As := [va_rf hi]) (rest := [.int (mt_sz nf lo), .int (mt_sz nf lo + mt_sz nf hi), .int 0]) ⟨hx, hb, hml, hown, hts⟩ (c_sizeOf l g ws LP nf hp hi (fun x hx9 => (h2 x hx9).1)) (va_cwS 1 hts (mt_giS mw_101 mw_102 mw_1 (mt_gi mw_103)) rfl rfl rfl (by decide +kernel) ⟨Nat.le_of_ble_eq_true rfl, Nat.le_of_ble_eq_true rfl⟩) (mt_preS hE hz hS hP hD) rfl rfl hl.1 rfl (lv_room (Nat.le_of_ble_eq_true rfl)) dXT_faultsOfFork_93 ⟨Nat.zero_le _, Nat.zero_le _⟩) (fun z1 e1 => ?_)
      subst e1
      refine lv_iadd hx hb dXT_faultsOfFork_96 ?_
      refine lv_icmp_ne (tgt := 104) hx hb dXT_faultsOfFork_97 (by decide) (fun z => absurd rfl z) (fun _ => ?_)
      refine lv_iconst (v := 0) hx hb dXT_faultsOfFork_100 (by decide +kernel) ?_
      refine lv_goto (tgt := 105) hx hb dXT_faultsOfFork_101 (by decide) ?_
      refine lv_iadd hx hb dXT_faultsOfFork_105 ?_
      refine qa_i (y := 0) rfl ?_
      refine lv_istore_n (i := 2) (lv' := [(2, .int 0), (1, .int (nI h)), (0, .ref a)]) hx hb dXT_faultsOfFork_106 rfl hl (by decide) rfl (fun ls hl => ?_)
      refine lv_iload_n hx hb dXT_faultsOfFork_107 rfl (lv_at hl 0 rfl) ?_
      refine lv_aload_n hx hb dXT_faultsOfFork_108 rfl (lv_at hl 2 rfl) ?_
      refine va_getN (D := g.1) (ci := 0) (v := .long ((nf a).2.2.2.2.2.2)) (C := RXN) (T := TXN) (N := 7) hx hb hts (fun w h => List.mem_cons_of_mem _ (in_XN w h)) hown hK hP kv hkv rfl 6 (by decide) (va_Nw.use rfl (hE.w (.fieldLinkNest "MeldTree" 161 "MeldTree$Node" "total" "J" "MeldTree") (by decide +kernel))) (fun _ h9 => h9) rfl dXT_faultsOfFork_109 ?_
      refine qa_l (y := (mt_to nf lo + mt_to nf hi)) f6 ?_
      refine lv_aload_n hx hb dXT_faultsOfFork_112 rfl (lv_at hl 2 rfl) ?_
      refine va_getN (D := g.1) (ci := 0) (v := va_rf ((nf a).2.2.1)) (C := RXN) (T := TXN) (N := 7) hx hb hts (fun w h => List.mem_cons_of_mem _ (in_XN w h)) hown hK hP kv hkv rfl 2 (by decide) (va_Nw.use rfl (hE.w (.fieldLinkNest "MeldTree" 138 "MeldTree$Node" "low" "LMeldTree$Node;" "MeldTree") (by decide +kernel))) (fun _ h9 => h9) rfl dXT_faultsOfFork_113 ?_
      refine qa_q (y := lo) f2 ?_
      refine vp_callSl (W.runS (As := [va_rf lo]) (rest := [.long (mt_to nf lo + mt_to nf hi), .int 0]) ⟨hx, hb, hml, hown, hts⟩ (c_totalOf l g ws LP nf hp lo (fun x hx9 => (h1 x hx9).1)) (va_cwS 1 hts (mt_giS mw_104 mw_105 mw_1 (mt_gi mw_106)) rfl rfl rfl (by decide +kernel) ⟨Nat.le_of_ble_eq_true rfl, Nat.le_of_ble_eq_true rfl⟩) (mt_preS hE hz hS hP hD) rfl rfl hl.1 rfl (lv_room (Nat.le_of_ble_eq_true rfl)) dXT_faultsOfFork_116 ⟨Nat.zero_le _, Nat.zero_le _⟩) (fun z1 e1 => ?_)
      subst e1
      refine lv_aload_n hx hb dXT_faultsOfFork_119 rfl (lv_at hl 2 rfl) ?_
      refine va_getN (D := g.1) (ci := 0) (v := va_rf ((nf a).2.2.2.1)) (C := RXN) (T := TXN) (N := 7) hx hb hts (fun w h => List.mem_cons_of_mem _ (in_XN w h)) hown hK hP kv hkv rfl 3 (by decide) (va_Nw.use rfl (hE.w (.fieldLinkNest "MeldTree" 142 "MeldTree$Node" "high" "LMeldTree$Node;" "MeldTree") (by decide +kernel))) (fun _ h9 => h9) rfl dXT_faultsOfFork_120 ?_
      refine qa_q (y := hi) f3 ?_
      refine vp_callSl (W.runS (As := [va_rf hi]) (rest := [.long (mt_to nf lo), .long (mt_to nf lo + mt_to nf hi), .int 0]) ⟨hx, hb, hml, hown, hts⟩ (c_totalOf l g ws LP nf hp hi (fun x hx9 => (h2 x hx9).1)) (va_cwS 1 hts (mt_giS mw_104 mw_105 mw_1 (mt_gi mw_106)) rfl rfl rfl (by decide +kernel) ⟨Nat.le_of_ble_eq_true rfl, Nat.le_of_ble_eq_true rfl⟩) (mt_preS hE hz hS hP hD) rfl rfl hl.1 rfl (lv_room (Nat.le_of_ble_eq_true rfl)) dXT_faultsOfFork_123 ⟨Nat.zero_le _, Nat.zero_le _⟩) (fun z1 e1 => ?_)
      subst e1
      refine lv_ladd hx hb dXT_faultsOfFork_126 ?_
      refine W.lcmp hx hb dXT_faultsOfFork_127 ?_
      refine lv_if_ne (tgt := 135) hx hb dXT_faultsOfFork_128 (by decide) (fun z => absurd (qa_cmp _) z) (fun _ => ?_)
      refine lv_iconst (v := 0) hx hb dXT_faultsOfFork_131 (by decide +kernel) ?_
      refine lv_goto (tgt := 136) hx hb dXT_faultsOfFork_132 (by decide) ?_
      refine lv_iadd hx hb dXT_faultsOfFork_136 ?_
      refine qa_i (y := 0) rfl ?_
      refine lv_istore_n (i := 2) (lv' := [(2, .int 0), (1, .int (nI h)), (0, .ref a)]) hx hb dXT_faultsOfFork_137 rfl hl (by decide) rfl (fun ls hl => ?_)
      refine lv_iload_n hx hb dXT_faultsOfFork_138 rfl (lv_at hl 0 rfl) ?_
      exact W.iret (v := 0) hx hb hr (fun t9 ht hW => ⟨0, rfl, rfl, ht⟩) t_nil dXT_faultsOfFork_139
    · exact absurd ⟨c1, c2⟩ hne
set_option maxHeartbeats 4000000 in
set_option maxRecDepth 100000 in
/-- faultsOf(node), where there are none -/
theorem c_faultsOf (l : Launch) (g : mt_G) (ws : va_W) (LP : List Nat) (nf : Nat → mt_N) (hp : mt_pool ws LP nf) (a : Nat) (ha : a ∈ LP) (hok : mt_ok LP nf a) : Met l yXT_faultsOf wsXT_faultsOf ({ frames := 2, cells := 0, slots := 0, locals := 44 }) (mt_Pc g ws [.ref a]) (vp_Si (fun z => z = 0)) (0) (0) (fun _ => False) := by
  refine Met.ofW (cc := cXT_faultsOf) (maxL := 1) (ret := (some .int)) (by decide) rfl ?_
  intro p e s m args below meth c s₁ B hml hv
  obtain ⟨rfl, hE, hz, hP, hD⟩ := hv
  have hx := B.exec
  have hb := B.bytes
  have hr := B.returns
  have hts := atoms_spec (ws := wsXT_faultsOf) B.pre
  have hown : s.vm.findClass RXT = some m.cls := findClass_of_methodNamed B.named
  have hlocks := B.notSynchronized
  have hK := hE.k
  have hA : ∀ q : Nat, s.heap.size ≤ q → mt_A g q := fun q h => Nat.le_trans hz h
  have hS : va_S (mt_A g) s.heap s.heap [] := va_S.rf
  have hl := lv_entry ([.ref a]) (n := 1) (Nat.le_of_ble_eq_true rfl)
  rw [lg_entry_eq]
  generalize (lg_sl ([.ref a]) ++ List.replicate (1 - (lg_sl ([.ref a])).length) Slot.unset).toArray = ls at hl ⊢
  have hl : lv_has ls 1 [(0, .ref a)] := hl
  have hH : s.heap = s.heap := rfl
  obtain ⟨kv, hkv⟩ := hp a ha
  refine lv_aload_n hx hb dXT_faultsOf_0 rfl (lv_at hl 0 rfl) ?_
  refine lv_ifnonnull (tgt := 6) hx hb dXT_faultsOf_1 (by decide) ?_
  refine lv_aload_n hx hb dXT_faultsOf_6 rfl (lv_at hl 0 rfl) ?_
  refine va_getN (D := g.1) (ci := 0) (v := .int ((nf a).1)) (C := RXN) (T := TXN) (N := 7) hx hb hts (fun w h => List.mem_cons_of_mem _ (in_XN w h)) hown hK hP kv hkv rfl 0 (by decide) (va_Nw.use rfl (hE.w (.fieldLinkNest "MeldTree" 150 "MeldTree$Node" "height" "I" "MeldTree") (by decide +kernel))) (fun _ h9 => h9) rfl dXT_faultsOf_7 ?_
  rcases hok with ⟨b, x, hn⟩ | ⟨h, b, lo, hi, hh, hb9, hn, hne, h1, h2⟩
  · refine qa_i (y := 0) (by rw [hn]) ?_
    refine lv_if_gt (tgt := 20) hx hb dXT_faultsOf_10 (by decide) (fun z => absurd z (show ¬ (0 : Int32) < 0 by decide)) (fun _ => ?_)
    refine lv_aload_n hx hb dXT_faultsOf_13 rfl (lv_at hl 0 rfl) ?_
    refine vp_callSi (W.runS (As := [.ref a]) (rest := []) ⟨hx, hb, hml, hown, hts⟩ (c_faultsOfLeaf l g ws LP nf hp a ha b x hn) (va_cwS 1 hts (mt_giS mw_95 mw_96 mw_1 (mt_gi mw_97)) rfl rfl rfl (by decide +kernel) ⟨Nat.le_of_ble_eq_true rfl, Nat.le_of_ble_eq_true rfl⟩) (mt_preS hE hz hS hP hD) rfl rfl hl.1 rfl (lv_room (Nat.le_of_ble_eq_true rfl)) dXT_faultsOf_14 ⟨Nat.zero_le _, Nat.zero_le _⟩) (fun z1 e1 => ?_)
    subst e1
    refine lv_goto (tgt := 24) hx hb dXT_faultsOf_17 (by decide) ?_
    exact W.iret (v := 0) hx hb hr (fun t9 ht hW => ⟨0, rfl, rfl, ht⟩) t_nil dXT_faultsOf_24
  · refine qa_i (y := (nI (h + 1))) (by rw [hn]) ?_
    refine lv_if_gt (tgt := 20) hx hb dXT_faultsOf_10 (by decide) (fun _ => ?_) (fun z => absurd (show 0 < nI (h + 1) from nI_lt (a := 0) (by omega) (by omega)) z)
    refine lv_aload_n hx hb dXT_faultsOf_20 rfl (lv_at hl 0 rfl) ?_
    refine vp_callSi (W.runS (As := [.ref a]) (rest := []) ⟨hx, hb, hml, hown, hts⟩ (c_faultsOfFork l g ws LP nf hp a ha h b lo hi hh hn hne h1 h2) (va_cwS 1 hts (mt_giS mw_98 mw_99 mw_1 (mt_gi mw_100)) rfl rfl rfl (by decide +kernel) ⟨Nat.le_of_ble_eq_true rfl, Nat.le_of_ble_eq_true rfl⟩) (mt_preS hE hz hS hP hD) rfl rfl hl.1 rfl (lv_room (Nat.le_of_ble_eq_true rfl)) dXT_faultsOf_21 ⟨Nat.zero_le _, Nat.zero_le _⟩) (fun z1 e1 => ?_)
    subst e1
    exact W.iret (v := 0) hx hb hr (fun t9 ht hW => ⟨0, rfl, rfl, ht⟩) t_nil dXT_faultsOf_24
end
section
set_option maxHeartbeats 4000000 in
set_option maxRecDepth 100000 in
/-- needVersion -/
theorem c_needVersion (l : Launch) (hl0 : l.stackTraces = false) (g : mt_G) (ws : va_W) (qT qR x ar al cn : Nat) (fr : Nat → Option Nat) (hT : ws[qT]? = some (x, .inr (1, [.ref ar, .ref al, .int (nI cn)]))) (hR : ws[qR]? = some (ar, .inl (g.2.2.2 1, 600, .inr (.inr (.inr (.inr fr)))))) (hcn : cn ≤ 600) (v : Int32) : vx_Met l yXT_needVersion wsXT_needVersion ({ frames := 6, cells := 1, slots := 6, locals := 100 }) (mt_Pc g ws [.ref x, .int v]) (va_Qv (fun _ : Unit => (mt_ver v cn)) (fun _ _ => True) (fun _ => False)) (vx_X (fun _ : Unit => ¬ (mt_ver v cn)) (fun E _ _ => E = "java/lang/IndexOutOfBoundsException") (fun _ => False)) (1) (6) (mt_A g) := by
  refine vx_ofW (cc := cXT_needVersion) (maxL := 2) (ret := none) (by decide) rfl ?_
  intro p e s m args below meth c s₁ B hml hnx hv
  obtain ⟨rfl, hE, hz, hP, hD⟩ := hv
  have hx := B.exec
  have hb := B.bytes
  have hr := B.returns
  have hts := atoms_spec (ws := wsXT_needVersion) B.pre
  have hown : s.vm.findClass RXT = some m.cls := findClass_of_methodNamed B.named
  have hlocks := B.notSynchronized
  have hK := hE.k
  have hA : ∀ q : Nat, s.heap.size ≤ q → mt_A g q := fun q h => Nat.le_trans hz h
  have hS : va_S (mt_A g) s.heap s.heap [] := va_S.rf
  have hl := lv_entry ([.ref x, .int v]) (n := 2) (Nat.le_of_ble_eq_true rfl)
  rw [lg_entry_eq]
  generalize (lg_sl ([.ref x, .int v]) ++ List.replicate (2 - (lg_sl ([.ref x, .int v])).length) Slot.unset).toArray = ls at hl ⊢
  have hl : lv_has ls 2 [(0, .ref x), (1, .int v)] := hl
  have hH : s.heap = s.heap := rfl
  have hU : mt_same s s.heap := mt_same.rf
  refine lv_iload_n hx hb dXT_needVersion_0 rfl (lv_at hl 1 rfl) ?_
  refine lv_if_lt (tgt := 12) hx hb dXT_needVersion_1 (by decide) (fun c1 => ?_) (fun c1 => ?_)
  · obtain ⟨sa, hsa⟩ := hE.s _ _ _ (show (RXT, 111, "no such version") ∈ mt_strs by decide +kernel)
    exact vx_throwS (names := ["java/lang/RuntimeException", "java/lang/Exception"]) hx hb hl0 hown (by decide +kernel) (by decide +kernel) (hts _ (List.mem_cons_of_mem _ mw_119)) (hts _ (List.mem_cons_of_mem _ mw_9)) hsa (vx_hat (L := vx_atS RXT 66 "java/lang/IndexOutOfBoundsException" ["java/lang/RuntimeException", "java/lang/Exception"]) (B := [.castable "java/lang/IndexOutOfBoundsException" "java/lang/IndexOutOfBoundsException", .declares ⟨"java/lang/RuntimeException", "<init>", "(Ljava/lang/String;)V"⟩, .declares ⟨"java/lang/Exception", "<init>", "(Ljava/lang/String;)V"⟩, .declares ⟨"java/lang/Throwable", "<init>", "(Ljava/lang/String;)V"⟩]) (fun w hw => hts w (List.mem_cons_of_mem _ (at_66 w hw))) (by decide +kernel) (vx_c (va_Nw.use rfl (hE.w (.castable "java/lang/IndexOutOfBoundsException" "java/lang/IndexOutOfBoundsException") (by decide +kernel))) (vx_c (va_Nw.use rfl (hE.w (.declares ⟨"java/lang/RuntimeException", "<init>", "(Ljava/lang/String;)V"⟩) (by decide +kernel))) (vx_c (va_Nw.use rfl (hE.w (.declares ⟨"java/lang/Exception", "<init>", "(Ljava/lang/String;)V"⟩) (by decide +kernel))) (vx_c (va_Nw.use rfl (hE.w (.declares ⟨"java/lang/Throwable", "<init>", "(Ljava/lang/String;)V"⟩) (by decide +kernel))) (vx_n)))))) (by decide +kernel) hE.u hE.n hS (by rw [hml]; exact hl.1) dXT_needVersion_12 dXT_needVersion_15 dXT_needVersion_16 dXT_needVersion_18 dXT_needVersion_21 (fun x hx9 => (hnx x hx9).elim) (by decide) (by decide) (by decide) (by decide) hlocks (fun t hvm h1 h2 => ⟨(), fun h9 => absurd c1 (Int32.not_lt.mpr h9.1), rfl, hU.ext h1 h2⟩) t_nil (by decide) (by decide)
  · refine lv_iload_n hx hb dXT_needVersion_4 rfl (lv_at hl 1 rfl) ?_
    refine lv_aload_n hx hb dXT_needVersion_5 rfl (lv_at hl 0 rfl) ?_
    refine va_get (D := g.1) (ci := 1) (v := .int (nI cn)) (C := RXT) (T := TXT) (N := 3) hx hb hts (fun w h => List.mem_cons_of_mem _ (in_XT w h)) hown hK hP qT hT rfl 2 (by decide) (hts _ (List.mem_cons_of_mem _ mw_55)) (fun _ h9 => h9) rfl dXT_needVersion_6 ?_
    refine lv_icmp_lt (tgt := 22) hx hb dXT_needVersion_9 (by decide) (fun c2 => ?_) (fun c2 => ?_)
    · refine vx_ret ?_
      refine W.widen (k := 1) (n := 6) (by decide) (by decide) ?_
      exact W.vret hx hb hr (fun t9 ht hW => ⟨⟨(), rfl, ⟨Int32.not_lt.mp c1, c2⟩, trivial⟩, hU.F ht⟩) t_nil dXT_needVersion_22
    · obtain ⟨sa, hsa⟩ := hE.s _ _ _ (show (RXT, 111, "no such version") ∈ mt_strs by decide +kernel)
      exact vx_throwS (names := ["java/lang/RuntimeException", "java/lang/Exception"]) hx hb hl0 hown (by decide +kernel) (by decide +kernel) (hts _ (List.mem_cons_of_mem _ mw_119)) (hts _ (List.mem_cons_of_mem _ mw_9)) hsa (vx_hat (L := vx_atS RXT 66 "java/lang/IndexOutOfBoundsException" ["java/lang/RuntimeException", "java/lang/Exception"]) (B := [.castable "java/lang/IndexOutOfBoundsException" "java/lang/IndexOutOfBoundsException", .declares ⟨"java/lang/RuntimeException", "<init>", "(Ljava/lang/String;)V"⟩, .declares ⟨"java/lang/Exception", "<init>", "(Ljava/lang/String;)V"⟩, .declares ⟨"java/lang/Throwable", "<init>", "(Ljava/lang/String;)V"⟩]) (fun w hw => hts w (List.mem_cons_of_mem _ (at_66 w hw))) (by decide +kernel) (vx_c (va_Nw.use rfl (hE.w (.castable "java/lang/IndexOutOfBoundsException" "java/lang/IndexOutOfBoundsException") (by decide +kernel))) (vx_c (va_Nw.use rfl (hE.w (.declares ⟨"java/lang/RuntimeException", "<init>", "(Ljava/lang/String;)V"⟩) (by decide +kernel))) (vx_c (va_Nw.use rfl (hE.w (.declares ⟨"java/lang/Exception", "<init>", "(Ljava/lang/String;)V"⟩) (by decide +kernel))) (vx_c (va_Nw.use rfl (hE.w (.declares ⟨"java/lang/Throwable", "<init>", "(Ljava/lang/String;)V"⟩) (by decide +kernel))) (vx_n)))))) (by decide +kernel) hE.u hE.n hS (by rw [hml]; exact hl.1) dXT_needVersion_12 dXT_needVersion_15 dXT_needVersion_16 dXT_needVersion_18 dXT_needVersion_21 (fun x hx9 => (hnx x hx9).elim) (by decide) (by decide) (by decide) (by decide) hlocks (fun t hvm h1 h2 => ⟨(), fun h9 => c2 h9.2, rfl, hU.ext h1 h2⟩) t_nil (by decide) (by decide)
set_option maxHeartbeats 4000000 in
set_option maxRecDepth 100000 in
/-- needKey -/
theorem c_needKey (l : Launch) (hl0 : l.stackTraces = false) (g : mt_G) (ws : va_W) (v : Int32) : vx_Met l yXT_needKey wsXT_needKey ({ frames := 6, cells := 1, slots := 6, locals := 100 }) (mt_Pc g ws [.int v]) (va_Qv (fun _ : Unit => (mt_key v)) (fun _ _ => True) (fun _ => False)) (vx_X (fun _ : Unit => ¬ (mt_key v)) (fun E _ _ => E = "java/lang/IndexOutOfBoundsException") (fun _ => False)) (1) (6) (mt_A g) := by
  refine vx_ofW (cc := cXT_needKey) (maxL := 1) (ret := none) (by decide) rfl ?_
  intro p e s m args below meth c s₁ B hml hnx hv
  obtain ⟨rfl, hE, hz, hP, hD⟩ := hv
  have hx := B.exec
  have hb := B.bytes
  have hr := B.returns
  have hts := atoms_spec (ws := wsXT_needKey) B.pre
  have hown : s.vm.findClass RXT = some m.cls := findClass_of_methodNamed B.named
  have hlocks := B.notSynchronized
  have hK := hE.k
  have hA : ∀ q : Nat, s.heap.size ≤ q → mt_A g q := fun q h => Nat.le_trans hz h
  have hS : va_S (mt_A g) s.heap s.heap [] := va_S.rf
  have hl := lv_entry ([.int v]) (n := 1) (Nat.le_of_ble_eq_true rfl)
  rw [lg_entry_eq]
  generalize (lg_sl ([.int v]) ++ List.replicate (1 - (lg_sl ([.int v])).length) Slot.unset).toArray = ls at hl ⊢
  have hl : lv_has ls 1 [(0, .int v)] := hl
  have hH : s.heap = s.heap := rfl
  have hU : mt_same s s.heap := mt_same.rf
  refine lv_iload_n hx hb dXT_needKey_0 rfl (lv_at hl 0 rfl) ?_
  refine lv_if_lt (tgt := 11) hx hb dXT_needKey_1 (by decide) (fun c1 => ?_) (fun c1 => ?_)
  · obtain ⟨sa, hsa⟩ := hE.s _ _ _ (show (RXT, 113, "keys are 0 to 255") ∈ mt_strs by decide +kernel)
    exact vx_throwS (names := ["java/lang/RuntimeException", "java/lang/Exception"]) hx hb hl0 hown (by decide +kernel) (by decide +kernel) (hts _ (List.mem_cons_of_mem _ mw_119)) (hts _ (List.mem_cons_of_mem _ mw_9)) hsa (vx_hat (L := vx_atS RXT 66 "java/lang/IndexOutOfBoundsException" ["java/lang/RuntimeException", "java/lang/Exception"]) (B := [.castable "java/lang/IndexOutOfBoundsException" "java/lang/IndexOutOfBoundsException", .declares ⟨"java/lang/RuntimeException", "<init>", "(Ljava/lang/String;)V"⟩, .declares ⟨"java/lang/Exception", "<init>", "(Ljava/lang/String;)V"⟩, .declares ⟨"java/lang/Throwable", "<init>", "(Ljava/lang/String;)V"⟩]) (fun w hw => hts w (List.mem_cons_of_mem _ (at_66 w hw))) (by decide +kernel) (vx_c (va_Nw.use rfl (hE.w (.castable "java/lang/IndexOutOfBoundsException" "java/lang/IndexOutOfBoundsException") (by decide +kernel))) (vx_c (va_Nw.use rfl (hE.w (.declares ⟨"java/lang/RuntimeException", "<init>", "(Ljava/lang/String;)V"⟩) (by decide +kernel))) (vx_c (va_Nw.use rfl (hE.w (.declares ⟨"java/lang/Exception", "<init>", "(Ljava/lang/String;)V"⟩) (by decide +kernel))) (vx_c (va_Nw.use rfl (hE.w (.declares ⟨"java/lang/Throwable", "<init>", "(Ljava/lang/String;)V"⟩) (by decide +kernel))) (vx_n)))))) (by decide +kernel) hE.u hE.n hS (by rw [hml]; exact hl.1) dXT_needKey_11 dXT_needKey_14 dXT_needKey_15 dXT_needKey_17 dXT_needKey_20 (fun x hx9 => (hnx x hx9).elim) (by decide) (by decide) (by decide) (by decide) hlocks (fun t hvm h1 h2 => ⟨(), fun h9 => absurd c1 (Int32.not_lt.mpr h9.1), rfl, hU.ext h1 h2⟩) t_nil (by decide) (by decide)
  · refine lv_iload_n hx hb dXT_needKey_4 rfl (lv_at hl 0 rfl) ?_
    refine lv_sipush (v := (nI 256)) hx hb dXT_needKey_5 (by decide +kernel) ?_
    refine lv_icmp_lt (tgt := 21) hx hb dXT_needKey_8 (by decide) (fun c2 => ?_) (fun c2 => ?_)
    · refine vx_ret ?_
      refine W.widen (k := 1) (n := 6) (by decide) (by decide) ?_
      exact W.vret hx hb hr (fun t9 ht hW => ⟨⟨(), rfl, ⟨Int32.not_lt.mp c1, c2⟩, trivial⟩, hU.F ht⟩) t_nil dXT_needKey_21
    · obtain ⟨sa, hsa⟩ := hE.s _ _ _ (show (RXT, 113, "keys are 0 to 255") ∈ mt_strs by decide +kernel)
      exact vx_throwS (names := ["java/lang/RuntimeException", "java/lang/Exception"]) hx hb hl0 hown (by decide +kernel) (by decide +kernel) (hts _ (List.mem_cons_of_mem _ mw_119)) (hts _ (List.mem_cons_of_mem _ mw_9)) hsa (vx_hat (L := vx_atS RXT 66 "java/lang/IndexOutOfBoundsException" ["java/lang/RuntimeException", "java/lang/Exception"]) (B := [.castable "java/lang/IndexOutOfBoundsException" "java/lang/IndexOutOfBoundsException", .declares ⟨"java/lang/RuntimeException", "<init>", "(Ljava/lang/String;)V"⟩, .declares ⟨"java/lang/Exception", "<init>", "(Ljava/lang/String;)V"⟩, .declares ⟨"java/lang/Throwable", "<init>", "(Ljava/lang/String;)V"⟩]) (fun w hw => hts w (List.mem_cons_of_mem _ (at_66 w hw))) (by decide +kernel) (vx_c (va_Nw.use rfl (hE.w (.castable "java/lang/IndexOutOfBoundsException" "java/lang/IndexOutOfBoundsException") (by decide +kernel))) (vx_c (va_Nw.use rfl (hE.w (.declares ⟨"java/lang/RuntimeException", "<init>", "(Ljava/lang/String;)V"⟩) (by decide +kernel))) (vx_c (va_Nw.use rfl (hE.w (.declares ⟨"java/lang/Exception", "<init>", "(Ljava/lang/String;)V"⟩) (by decide +kernel))) (vx_c (va_Nw.use rfl (hE.w (.declares ⟨"java/lang/Throwable", "<init>", "(Ljava/lang/String;)V"⟩) (by decide +kernel))) (vx_n)))))) (by decide +kernel) hE.u hE.n hS (by rw [hml]; exact hl.1) dXT_needKey_11 dXT_needKey_14 dXT_needKey_15 dXT_needKey_17 dXT_needKey_20 (fun x hx9 => (hnx x hx9).elim) (by decide) (by decide) (by decide) (by decide) hlocks (fun t hvm h1 h2 => ⟨(), fun h9 => c2 h9.2, rfl, hU.ext h1 h2⟩) t_nil (by decide) (by decide)
set_option maxHeartbeats 4000000 in
set_option maxRecDepth 100000 in
/-- needRoom -/
theorem c_needRoom (l : Launch) (hl0 : l.stackTraces = false) (g : mt_G) (ws : va_W) (qT qR x ar al cn : Nat) (fr : Nat → Option Nat) (hT : ws[qT]? = some (x, .inr (1, [.ref ar, .ref al, .int (nI cn)]))) (hR : ws[qR]? = some (ar, .inl (g.2.2.2 1, 600, .inr (.inr (.inr (.inr fr)))))) (hcn : cn ≤ 600) : vx_Met l yXT_needRoom wsXT_needRoom ({ frames := 6, cells := 1, slots := 6, locals := 100 }) (mt_Pc g ws [.ref x]) (va_Qv (fun _ : Unit => (cn < 600)) (fun _ _ => True) (fun _ => False)) (vx_X (fun _ : Unit => ¬ (cn < 600)) (fun E _ _ => E = "java/lang/IllegalStateException") (fun _ => False)) (1) (6) (mt_A g) := by
  refine vx_ofW (cc := cXT_needRoom) (maxL := 1) (ret := none) (by decide) rfl ?_
  intro p e s m args below meth c s₁ B hml hnx hv
  obtain ⟨rfl, hE, hz, hP, hD⟩ := hv
  have hx := B.exec
  have hb := B.bytes
  have hr := B.returns
  have hts := atoms_spec (ws := wsXT_needRoom) B.pre
  have hown : s.vm.findClass RXT = some m.cls := findClass_of_methodNamed B.named
  have hlocks := B.notSynchronized
  have hK := hE.k
  have hA : ∀ q : Nat, s.heap.size ≤ q → mt_A g q := fun q h => Nat.le_trans hz h
  have hS : va_S (mt_A g) s.heap s.heap [] := va_S.rf
  have hl := lv_entry ([.ref x]) (n := 1) (Nat.le_of_ble_eq_true rfl)
  rw [lg_entry_eq]
  generalize (lg_sl ([.ref x]) ++ List.replicate (1 - (lg_sl ([.ref x])).length) Slot.unset).toArray = ls at hl ⊢
  have hl : lv_has ls 1 [(0, .ref x)] := hl
  have hH : s.heap = s.heap := rfl
  have hU : mt_same s s.heap := mt_same.rf
  refine lv_aload_n hx hb dXT_needRoom_0 rfl (lv_at hl 0 rfl) ?_
  refine va_get (D := g.1) (ci := 1) (v := .int (nI cn)) (C := RXT) (T := TXT) (N := 3) hx hb hts (fun w h => List.mem_cons_of_mem _ (in_XT w h)) hown hK hP qT hT rfl 2 (by decide) (hts _ (List.mem_cons_of_mem _ mw_55)) (fun _ h9 => h9) rfl dXT_needRoom_1 ?_
  refine lv_sipush (v := (nI 600)) hx hb dXT_needRoom_4 (by decide +kernel) ?_
  refine lv_icmp_lt (tgt := 20) hx hb dXT_needRoom_7 (by decide) (fun c1 => ?_) (fun c1 => ?_)
  · refine vx_ret ?_
    refine W.widen (k := 1) (n := 6) (by decide) (by decide) ?_
    exact W.vret hx hb hr (fun t9 ht hW => ⟨⟨(), rfl, (nI_ltI (by omega) (by decide)).mp c1, trivial⟩, hU.F ht⟩) t_nil dXT_needRoom_20
  · obtain ⟨sa, hsa⟩ := hE.s _ _ _ (show (RXT, 117, "there are 600 versions") ∈ mt_strs by decide +kernel)
    exact vx_throwS (names := ["java/lang/RuntimeException", "java/lang/Exception"]) hx hb hl0 hown (by decide +kernel) (by decide +kernel) (hts _ (List.mem_cons_of_mem _ mw_181)) (hts _ (List.mem_cons_of_mem _ mw_10)) hsa (vx_hat (L := vx_atS RXT 119 "java/lang/IllegalStateException" ["java/lang/RuntimeException", "java/lang/Exception"]) (B := [.castable "java/lang/IllegalStateException" "java/lang/IllegalStateException", .declares ⟨"java/lang/RuntimeException", "<init>", "(Ljava/lang/String;)V"⟩, .declares ⟨"java/lang/Exception", "<init>", "(Ljava/lang/String;)V"⟩, .declares ⟨"java/lang/Throwable", "<init>", "(Ljava/lang/String;)V"⟩]) (fun w hw => hts w (List.mem_cons_of_mem _ (at_119 w hw))) (by decide +kernel) (vx_c (va_Nw.use rfl (hE.w (.castable "java/lang/IllegalStateException" "java/lang/IllegalStateException") (by decide +kernel))) (vx_c (va_Nw.use rfl (hE.w (.declares ⟨"java/lang/RuntimeException", "<init>", "(Ljava/lang/String;)V"⟩) (by decide +kernel))) (vx_c (va_Nw.use rfl (hE.w (.declares ⟨"java/lang/Exception", "<init>", "(Ljava/lang/String;)V"⟩) (by decide +kernel))) (vx_c (va_Nw.use rfl (hE.w (.declares ⟨"java/lang/Throwable", "<init>", "(Ljava/lang/String;)V"⟩) (by decide +kernel))) (vx_n)))))) (by decide +kernel) hE.u hE.n hS (by rw [hml]; exact hl.1) dXT_needRoom_10 dXT_needRoom_13 dXT_needRoom_14 dXT_needRoom_16 dXT_needRoom_19 (fun x hx9 => (hnx x hx9).elim) (by decide) (by decide) (by decide) (by decide) hlocks (fun t hvm h1 h2 => ⟨(), fun h9 => c1 (nI_lt h9 (by decide)), rfl, hU.ext h1 h2⟩) t_nil (by decide) (by decide)
end
section
theorem dXM_init_0 : decode cXM_init 0 = .ok (.aload_n 0, 1) := by decide +kernel
theorem dXM_init_1 : decode cXM_init 1 = .ok (.invokespecial 1, 3) := by decide +kernel
theorem dXM_init_4 : decode cXM_init 4 = .ok (.aload_n 0, 1) := by decide +kernel
theorem dXM_init_5 : decode cXM_init 5 = .ok (.ldc 9, 2) := by decide +kernel
theorem dXM_init_7 : decode cXM_init 7 = .ok (.newarray .int, 2) := by decide +kernel
theorem dXM_init_9 : decode cXM_init 9 = .ok (.putfield 10, 3) := by decide +kernel
theorem dXM_init_12 : decode cXM_init 12 = .ok (.aload_n 0, 1) := by decide +kernel
theorem dXM_init_13 : decode cXM_init 13 = .ok (.ldc 9, 2) := by decide +kernel
theorem dXM_init_15 : decode cXM_init 15 = .ok (.newarray .boolean, 2) := by decide +kernel
theorem dXM_init_17 : decode cXM_init 17 = .ok (.putfield 14, 3) := by decide +kernel
theorem dXM_init_20 : decode cXM_init 20 = .ok (.aload_n 0, 1) := by decide +kernel
theorem dXM_init_21 : decode cXM_init 21 = .ok (.iconst 1, 1) := by decide +kernel
theorem dXM_init_22 : decode cXM_init 22 = .ok (.putfield 18, 3) := by decide +kernel
theorem dXM_init_25 : decode cXM_init 25 = .ok (.return_, 1) := by decide +kernel
theorem dXM_thrown_0 : decode cXM_thrown 0 = .ok (.aload_n 0, 1) := by decide +kernel
theorem dXM_thrown_1 : decode cXM_thrown 1 = .ok (.getfield 22, 3) := by decide +kernel
theorem dXM_thrown_4 : decode cXM_thrown 4 = .ok (.ireturn, 1) := by decide +kernel
theorem dXM_put_0 : decode cXM_put 0 = .ok (.aload_n 0, 1) := by decide +kernel
theorem dXM_put_1 : decode cXM_put 1 = .ok (.aload_n 0, 1) := by decide +kernel
theorem dXM_put_2 : decode cXM_put 2 = .ok (.iload_n 1, 1) := by decide +kernel
theorem dXM_put_3 : decode cXM_put 3 = .ok (.invokevirtual 25, 3) := by decide +kernel
theorem dXM_put_6 : decode cXM_put 6 = .ok (.ifCond .eq 10, 3) := by decide +kernel
theorem dXM_put_9 : decode cXM_put 9 = .ok (.iload_n 2, 1) := by decide +kernel
theorem dXM_put_10 : decode cXM_put 10 = .ok (.invokestatic 29, 3) := by decide +kernel
theorem dXM_put_13 : decode cXM_put 13 = .ok (.ifCond .ne 7, 3) := by decide +kernel
theorem dXM_put_16 : decode cXM_put 16 = .ok (.iconst 1, 1) := by decide +kernel
theorem dXM_put_17 : decode cXM_put 17 = .ok (.goto 18, 3) := by decide +kernel
theorem dXM_put_20 : decode cXM_put 20 = .ok (.aload_n 0, 1) := by decide +kernel
theorem dXM_put_21 : decode cXM_put 21 = .ok (.getfield 18, 3) := by decide +kernel
theorem dXM_put_24 : decode cXM_put 24 = .ok (.sipush 600, 3) := by decide +kernel
theorem dXM_put_27 : decode cXM_put 27 = .ok (.if_icmp .ne 7, 3) := by decide +kernel
theorem dXM_put_30 : decode cXM_put 30 = .ok (.iconst 2, 1) := by decide +kernel
theorem dXM_put_31 : decode cXM_put 31 = .ok (.goto 4, 3) := by decide +kernel
theorem dXM_put_34 : decode cXM_put 34 = .ok (.iconst 0, 1) := by decide +kernel
theorem dXM_put_35 : decode cXM_put 35 = .ok (.putfield 22, 3) := by decide +kernel
theorem dXM_put_38 : decode cXM_put 38 = .ok (.aload_n 0, 1) := by decide +kernel
theorem dXM_put_39 : decode cXM_put 39 = .ok (.getfield 22, 3) := by decide +kernel
theorem dXM_put_42 : decode cXM_put 42 = .ok (.ifCond .le 5, 3) := by decide +kernel
theorem dXM_put_45 : decode cXM_put 45 = .ok (.iconst 0, 1) := by decide +kernel
theorem dXM_put_46 : decode cXM_put 46 = .ok (.ireturn, 1) := by decide +kernel
theorem dXM_put_47 : decode cXM_put 47 = .ok (.aload_n 0, 1) := by decide +kernel
theorem dXM_put_48 : decode cXM_put 48 = .ok (.iload_n 1, 1) := by decide +kernel
theorem dXM_put_49 : decode cXM_put 49 = .ok (.iload_n 1, 1) := by decide +kernel
theorem dXM_put_50 : decode cXM_put 50 = .ok (.iconst 0, 1) := by decide +kernel
theorem dXM_put_51 : decode cXM_put 51 = .ok (.invokevirtual 32, 3) := by decide +kernel
theorem dXM_put_54 : decode cXM_put 54 = .ok (.istore 4, 2) := by decide +kernel
theorem dXM_put_56 : decode cXM_put 56 = .ok (.aload_n 0, 1) := by decide +kernel
theorem dXM_put_57 : decode cXM_put 57 = .ok (.getfield 10, 3) := by decide +kernel
theorem dXM_put_60 : decode cXM_put 60 = .ok (.sipush 256, 3) := by decide +kernel
theorem dXM_put_63 : decode cXM_put 63 = .ok (.iload 4, 2) := by decide +kernel
theorem dXM_put_65 : decode cXM_put 65 = .ok (.imul, 1) := by decide +kernel
theorem dXM_put_66 : decode cXM_put 66 = .ok (.iload_n 2, 1) := by decide +kernel
theorem dXM_put_67 : decode cXM_put 67 = .ok (.iadd, 1) := by decide +kernel
theorem dXM_put_68 : decode cXM_put 68 = .ok (.iload_n 3, 1) := by decide +kernel
theorem dXM_put_69 : decode cXM_put 69 = .ok (.iastore, 1) := by decide +kernel
theorem dXM_put_70 : decode cXM_put 70 = .ok (.aload_n 0, 1) := by decide +kernel
theorem dXM_put_71 : decode cXM_put 71 = .ok (.getfield 14, 3) := by decide +kernel
theorem dXM_put_74 : decode cXM_put 74 = .ok (.sipush 256, 3) := by decide +kernel
theorem dXM_put_77 : decode cXM_put 77 = .ok (.iload 4, 2) := by decide +kernel
theorem dXM_put_79 : decode cXM_put 79 = .ok (.imul, 1) := by decide +kernel
theorem dXM_put_80 : decode cXM_put 80 = .ok (.iload_n 2, 1) := by decide +kernel
theorem dXM_put_81 : decode cXM_put 81 = .ok (.iadd, 1) := by decide +kernel
theorem dXM_put_82 : decode cXM_put 82 = .ok (.iconst 1, 1) := by decide +kernel
theorem dXM_put_83 : decode cXM_put 83 = .ok (.bastore, 1) := by decide +kernel
theorem dXM_put_84 : decode cXM_put 84 = .ok (.iload 4, 2) := by decide +kernel
theorem dXM_put_86 : decode cXM_put 86 = .ok (.ireturn, 1) := by decide +kernel
theorem dXM_isOne_0 : decode cXM_isOne 0 = .ok (.iload_n 1, 1) := by decide +kernel
theorem dXM_isOne_1 : decode cXM_isOne 1 = .ok (.ifCond .lt 15, 3) := by decide +kernel
theorem dXM_isOne_4 : decode cXM_isOne 4 = .ok (.iload_n 1, 1) := by decide +kernel
theorem dXM_isOne_5 : decode cXM_isOne 5 = .ok (.aload_n 0, 1) := by decide +kernel
theorem dXM_isOne_6 : decode cXM_isOne 6 = .ok (.getfield 18, 3) := by decide +kernel
theorem dXM_isOne_9 : decode cXM_isOne 9 = .ok (.if_icmp .ge 7, 3) := by decide +kernel
theorem dXM_isOne_12 : decode cXM_isOne 12 = .ok (.iconst 1, 1) := by decide +kernel
theorem dXM_isOne_13 : decode cXM_isOne 13 = .ok (.goto 4, 3) := by decide +kernel
theorem dXM_isOne_16 : decode cXM_isOne 16 = .ok (.iconst 0, 1) := by decide +kernel
theorem dXM_isOne_17 : decode cXM_isOne 17 = .ok (.ireturn, 1) := by decide +kernel
theorem dXM_isKey_0 : decode cXM_isKey 0 = .ok (.iload_n 0, 1) := by decide +kernel
theorem dXM_isKey_1 : decode cXM_isKey 1 = .ok (.ifCond .lt 14, 3) := by decide +kernel
theorem dXM_isKey_4 : decode cXM_isKey 4 = .ok (.iload_n 0, 1) := by decide +kernel
theorem dXM_isKey_5 : decode cXM_isKey 5 = .ok (.sipush 256, 3) := by decide +kernel
theorem dXM_isKey_8 : decode cXM_isKey 8 = .ok (.if_icmp .ge 7, 3) := by decide +kernel
theorem dXM_isKey_11 : decode cXM_isKey 11 = .ok (.iconst 1, 1) := by decide +kernel
theorem dXM_isKey_12 : decode cXM_isKey 12 = .ok (.goto 4, 3) := by decide +kernel
theorem dXM_isKey_15 : decode cXM_isKey 15 = .ok (.iconst 0, 1) := by decide +kernel
theorem dXM_isKey_16 : decode cXM_isKey 16 = .ok (.ireturn, 1) := by decide +kernel
theorem dXM_made_0 : decode cXM_made 0 = .ok (.sipush 256, 3) := by decide +kernel
theorem dXM_made_3 : decode cXM_made 3 = .ok (.aload_n 0, 1) := by decide +kernel
theorem dXM_made_4 : decode cXM_made 4 = .ok (.getfield 18, 3) := by decide +kernel
theorem dXM_made_7 : decode cXM_made 7 = .ok (.imul, 1) := by decide +kernel
theorem dXM_made_8 : decode cXM_made 8 = .ok (.istore 4, 2) := by decide +kernel
theorem dXM_made_10 : decode cXM_made 10 = .ok (.iconst 0, 1) := by decide +kernel
theorem dXM_made_11 : decode cXM_made 11 = .ok (.istore 5, 2) := by decide +kernel
theorem dXM_made_13 : decode cXM_made 13 = .ok (.iload 5, 2) := by decide +kernel
theorem dXM_made_15 : decode cXM_made 15 = .ok (.sipush 256, 3) := by decide +kernel
theorem dXM_made_18 : decode cXM_made 18 = .ok (.if_icmp .ge 63, 3) := by decide +kernel
theorem dXM_made_21 : decode cXM_made 21 = .ok (.sipush 256, 3) := by decide +kernel
theorem dXM_made_24 : decode cXM_made 24 = .ok (.iload 5, 2) := by decide +kernel
theorem dXM_made_26 : decode cXM_made 26 = .ok (.iload_n 3, 1) := by decide +kernel
theorem dXM_made_27 : decode cXM_made 27 = .ok (.if_icmp .ge 7, 3) := by decide +kernel
theorem dXM_made_30 : decode cXM_made 30 = .ok (.iload_n 1, 1) := by decide +kernel
theorem dXM_made_31 : decode cXM_made 31 = .ok (.goto 4, 3) := by decide +kernel
theorem dXM_made_34 : decode cXM_made 34 = .ok (.iload_n 2, 1) := by decide +kernel
theorem dXM_made_35 : decode cXM_made 35 = .ok (.imul, 1) := by decide +kernel
theorem dXM_made_36 : decode cXM_made 36 = .ok (.iload 5, 2) := by decide +kernel
theorem dXM_made_38 : decode cXM_made 38 = .ok (.iadd, 1) := by decide +kernel
theorem dXM_made_39 : decode cXM_made 39 = .ok (.istore 6, 2) := by decide +kernel
theorem dXM_made_41 : decode cXM_made 41 = .ok (.aload_n 0, 1) := by decide +kernel
theorem dXM_made_42 : decode cXM_made 42 = .ok (.getfield 10, 3) := by decide +kernel
theorem dXM_made_45 : decode cXM_made 45 = .ok (.iload 4, 2) := by decide +kernel
theorem dXM_made_47 : decode cXM_made 47 = .ok (.iload 5, 2) := by decide +kernel
theorem dXM_made_49 : decode cXM_made 49 = .ok (.iadd, 1) := by decide +kernel
theorem dXM_made_50 : decode cXM_made 50 = .ok (.aload_n 0, 1) := by decide +kernel
theorem dXM_made_51 : decode cXM_made 51 = .ok (.getfield 10, 3) := by decide +kernel
theorem dXM_made_54 : decode cXM_made 54 = .ok (.iload 6, 2) := by decide +kernel
theorem dXM_made_56 : decode cXM_made 56 = .ok (.iaload, 1) := by decide +kernel
theorem dXM_made_57 : decode cXM_made 57 = .ok (.iastore, 1) := by decide +kernel
theorem dXM_made_58 : decode cXM_made 58 = .ok (.aload_n 0, 1) := by decide +kernel
theorem dXM_made_59 : decode cXM_made 59 = .ok (.getfield 14, 3) := by decide +kernel
theorem dXM_made_62 : decode cXM_made 62 = .ok (.iload 4, 2) := by decide +kernel
theorem dXM_made_64 : decode cXM_made 64 = .ok (.iload 5, 2) := by decide +kernel
theorem dXM_made_66 : decode cXM_made 66 = .ok (.iadd, 1) := by decide +kernel
theorem dXM_made_67 : decode cXM_made 67 = .ok (.aload_n 0, 1) := by decide +kernel
theorem dXM_made_68 : decode cXM_made 68 = .ok (.getfield 14, 3) := by decide +kernel
theorem dXM_made_71 : decode cXM_made 71 = .ok (.iload 6, 2) := by decide +kernel
theorem dXM_made_73 : decode cXM_made 73 = .ok (.baload, 1) := by decide +kernel
theorem dXM_made_74 : decode cXM_made 74 = .ok (.bastore, 1) := by decide +kernel
theorem dXM_made_75 : decode cXM_made 75 = .ok (.iinc 5 1, 3) := by decide +kernel
theorem dXM_made_78 : decode cXM_made 78 = .ok (.goto (-65), 3) := by decide +kernel
theorem dXM_made_81 : decode cXM_made 81 = .ok (.aload_n 0, 1) := by decide +kernel
theorem dXM_made_82 : decode cXM_made 82 = .ok (.dup, 1) := by decide +kernel
theorem dXM_made_83 : decode cXM_made 83 = .ok (.getfield 18, 3) := by decide +kernel
theorem dXM_made_86 : decode cXM_made 86 = .ok (.iconst 1, 1) := by decide +kernel
theorem dXM_made_87 : decode cXM_made 87 = .ok (.iadd, 1) := by decide +kernel
theorem dXM_made_88 : decode cXM_made 88 = .ok (.putfield 18, 3) := by decide +kernel
theorem dXM_made_91 : decode cXM_made 91 = .ok (.aload_n 0, 1) := by decide +kernel
theorem dXM_made_92 : decode cXM_made 92 = .ok (.getfield 18, 3) := by decide +kernel
theorem dXM_made_95 : decode cXM_made 95 = .ok (.iconst 1, 1) := by decide +kernel
theorem dXM_made_96 : decode cXM_made 96 = .ok (.isub, 1) := by decide +kernel
theorem dXM_made_97 : decode cXM_made 97 = .ok (.ireturn, 1) := by decide +kernel
theorem dXM_remove_0 : decode cXM_remove 0 = .ok (.aload_n 0, 1) := by decide +kernel
theorem dXM_remove_1 : decode cXM_remove 1 = .ok (.aload_n 0, 1) := by decide +kernel
theorem dXM_remove_2 : decode cXM_remove 2 = .ok (.iload_n 1, 1) := by decide +kernel
theorem dXM_remove_3 : decode cXM_remove 3 = .ok (.invokevirtual 25, 3) := by decide +kernel
theorem dXM_remove_6 : decode cXM_remove 6 = .ok (.ifCond .eq 10, 3) := by decide +kernel
theorem dXM_remove_9 : decode cXM_remove 9 = .ok (.iload_n 2, 1) := by decide +kernel
theorem dXM_remove_10 : decode cXM_remove 10 = .ok (.invokestatic 29, 3) := by decide +kernel
theorem dXM_remove_13 : decode cXM_remove 13 = .ok (.ifCond .ne 7, 3) := by decide +kernel
theorem dXM_remove_16 : decode cXM_remove 16 = .ok (.iconst 1, 1) := by decide +kernel
theorem dXM_remove_17 : decode cXM_remove 17 = .ok (.goto 37, 3) := by decide +kernel
theorem dXM_remove_20 : decode cXM_remove 20 = .ok (.aload_n 0, 1) := by decide +kernel
theorem dXM_remove_21 : decode cXM_remove 21 = .ok (.getfield 18, 3) := by decide +kernel
theorem dXM_remove_24 : decode cXM_remove 24 = .ok (.sipush 600, 3) := by decide +kernel
theorem dXM_remove_27 : decode cXM_remove 27 = .ok (.if_icmp .ne 7, 3) := by decide +kernel
theorem dXM_remove_30 : decode cXM_remove 30 = .ok (.iconst 2, 1) := by decide +kernel
theorem dXM_remove_31 : decode cXM_remove 31 = .ok (.goto 23, 3) := by decide +kernel
theorem dXM_remove_34 : decode cXM_remove 34 = .ok (.aload_n 0, 1) := by decide +kernel
theorem dXM_remove_35 : decode cXM_remove 35 = .ok (.getfield 14, 3) := by decide +kernel
theorem dXM_remove_38 : decode cXM_remove 38 = .ok (.sipush 256, 3) := by decide +kernel
theorem dXM_remove_41 : decode cXM_remove 41 = .ok (.iload_n 1, 1) := by decide +kernel
theorem dXM_remove_42 : decode cXM_remove 42 = .ok (.imul, 1) := by decide +kernel
theorem dXM_remove_43 : decode cXM_remove 43 = .ok (.iload_n 2, 1) := by decide +kernel
theorem dXM_remove_44 : decode cXM_remove 44 = .ok (.iadd, 1) := by decide +kernel
theorem dXM_remove_45 : decode cXM_remove 45 = .ok (.baload, 1) := by decide +kernel
theorem dXM_remove_46 : decode cXM_remove 46 = .ok (.ifCond .ne 7, 3) := by decide +kernel
theorem dXM_remove_49 : decode cXM_remove 49 = .ok (.iconst 3, 1) := by decide +kernel
theorem dXM_remove_50 : decode cXM_remove 50 = .ok (.goto 4, 3) := by decide +kernel
theorem dXM_remove_53 : decode cXM_remove 53 = .ok (.iconst 0, 1) := by decide +kernel
theorem dXM_remove_54 : decode cXM_remove 54 = .ok (.putfield 22, 3) := by decide +kernel
theorem dXM_remove_57 : decode cXM_remove 57 = .ok (.aload_n 0, 1) := by decide +kernel
theorem dXM_remove_58 : decode cXM_remove 58 = .ok (.getfield 22, 3) := by decide +kernel
theorem dXM_remove_61 : decode cXM_remove 61 = .ok (.ifCond .le 5, 3) := by decide +kernel
theorem dXM_remove_64 : decode cXM_remove 64 = .ok (.iconst 0, 1) := by decide +kernel
theorem dXM_remove_65 : decode cXM_remove 65 = .ok (.ireturn, 1) := by decide +kernel
theorem dXM_remove_66 : decode cXM_remove 66 = .ok (.aload_n 0, 1) := by decide +kernel
theorem dXM_remove_67 : decode cXM_remove 67 = .ok (.iload_n 1, 1) := by decide +kernel
theorem dXM_remove_68 : decode cXM_remove 68 = .ok (.iload_n 1, 1) := by decide +kernel
theorem dXM_remove_69 : decode cXM_remove 69 = .ok (.iconst 0, 1) := by decide +kernel
theorem dXM_remove_70 : decode cXM_remove 70 = .ok (.invokevirtual 32, 3) := by decide +kernel
theorem dXM_remove_73 : decode cXM_remove 73 = .ok (.istore_n 3, 1) := by decide +kernel
theorem dXM_remove_74 : decode cXM_remove 74 = .ok (.aload_n 0, 1) := by decide +kernel
theorem dXM_remove_75 : decode cXM_remove 75 = .ok (.getfield 10, 3) := by decide +kernel
theorem dXM_remove_78 : decode cXM_remove 78 = .ok (.sipush 256, 3) := by decide +kernel
theorem dXM_remove_81 : decode cXM_remove 81 = .ok (.iload_n 3, 1) := by decide +kernel
theorem dXM_remove_82 : decode cXM_remove 82 = .ok (.imul, 1) := by decide +kernel
theorem dXM_remove_83 : decode cXM_remove 83 = .ok (.iload_n 2, 1) := by decide +kernel
theorem dXM_remove_84 : decode cXM_remove 84 = .ok (.iadd, 1) := by decide +kernel
theorem dXM_remove_85 : decode cXM_remove 85 = .ok (.iconst 0, 1) := by decide +kernel
theorem dXM_remove_86 : decode cXM_remove 86 = .ok (.iastore, 1) := by decide +kernel
theorem dXM_remove_87 : decode cXM_remove 87 = .ok (.aload_n 0, 1) := by decide +kernel
theorem dXM_remove_88 : decode cXM_remove 88 = .ok (.getfield 14, 3) := by decide +kernel
theorem dXM_remove_91 : decode cXM_remove 91 = .ok (.sipush 256, 3) := by decide +kernel
theorem dXM_remove_94 : decode cXM_remove 94 = .ok (.iload_n 3, 1) := by decide +kernel
theorem dXM_remove_95 : decode cXM_remove 95 = .ok (.imul, 1) := by decide +kernel
theorem dXM_remove_96 : decode cXM_remove 96 = .ok (.iload_n 2, 1) := by decide +kernel
theorem dXM_remove_97 : decode cXM_remove 97 = .ok (.iadd, 1) := by decide +kernel
theorem dXM_remove_98 : decode cXM_remove 98 = .ok (.iconst 0, 1) := by decide +kernel
theorem dXM_remove_99 : decode cXM_remove 99 = .ok (.bastore, 1) := by decide +kernel
theorem dXM_remove_100 : decode cXM_remove 100 = .ok (.iload_n 3, 1) := by decide +kernel
theorem dXM_remove_101 : decode cXM_remove 101 = .ok (.ireturn, 1) := by decide +kernel
theorem dXM_join_0 : decode cXM_join 0 = .ok (.aload_n 0, 1) := by decide +kernel
theorem dXM_join_1 : decode cXM_join 1 = .ok (.aload_n 0, 1) := by decide +kernel
theorem dXM_join_2 : decode cXM_join 2 = .ok (.iload_n 1, 1) := by decide +kernel
theorem dXM_join_3 : decode cXM_join 3 = .ok (.invokevirtual 25, 3) := by decide +kernel
theorem dXM_join_6 : decode cXM_join 6 = .ok (.ifCond .eq 22, 3) := by decide +kernel
theorem dXM_join_9 : decode cXM_join 9 = .ok (.aload_n 0, 1) := by decide +kernel
theorem dXM_join_10 : decode cXM_join 10 = .ok (.iload_n 2, 1) := by decide +kernel
theorem dXM_join_11 : decode cXM_join 11 = .ok (.invokevirtual 25, 3) := by decide +kernel
theorem dXM_join_14 : decode cXM_join 14 = .ok (.ifCond .eq 14, 3) := by decide +kernel
theorem dXM_join_17 : decode cXM_join 17 = .ok (.iload_n 3, 1) := by decide +kernel
theorem dXM_join_18 : decode cXM_join 18 = .ok (.ifCond .lt 10, 3) := by decide +kernel
theorem dXM_join_21 : decode cXM_join 21 = .ok (.iload_n 3, 1) := by decide +kernel
theorem dXM_join_22 : decode cXM_join 22 = .ok (.sipush 256, 3) := by decide +kernel
theorem dXM_join_25 : decode cXM_join 25 = .ok (.if_icmp .le 7, 3) := by decide +kernel
theorem dXM_join_28 : decode cXM_join 28 = .ok (.iconst 1, 1) := by decide +kernel
theorem dXM_join_29 : decode cXM_join 29 = .ok (.goto 18, 3) := by decide +kernel
theorem dXM_join_32 : decode cXM_join 32 = .ok (.aload_n 0, 1) := by decide +kernel
theorem dXM_join_33 : decode cXM_join 33 = .ok (.getfield 18, 3) := by decide +kernel
theorem dXM_join_36 : decode cXM_join 36 = .ok (.sipush 600, 3) := by decide +kernel
theorem dXM_join_39 : decode cXM_join 39 = .ok (.if_icmp .ne 7, 3) := by decide +kernel
theorem dXM_join_42 : decode cXM_join 42 = .ok (.iconst 2, 1) := by decide +kernel
theorem dXM_join_43 : decode cXM_join 43 = .ok (.goto 4, 3) := by decide +kernel
theorem dXM_join_46 : decode cXM_join 46 = .ok (.iconst 0, 1) := by decide +kernel
theorem dXM_join_47 : decode cXM_join 47 = .ok (.putfield 22, 3) := by decide +kernel
theorem dXM_join_50 : decode cXM_join 50 = .ok (.aload_n 0, 1) := by decide +kernel
theorem dXM_join_51 : decode cXM_join 51 = .ok (.getfield 22, 3) := by decide +kernel
theorem dXM_join_54 : decode cXM_join 54 = .ok (.ifCond .le 7, 3) := by decide +kernel
theorem dXM_join_57 : decode cXM_join 57 = .ok (.iconst 0, 1) := by decide +kernel
theorem dXM_join_58 : decode cXM_join 58 = .ok (.goto 10, 3) := by decide +kernel
theorem dXM_join_61 : decode cXM_join 61 = .ok (.aload_n 0, 1) := by decide +kernel
theorem dXM_join_62 : decode cXM_join 62 = .ok (.iload_n 1, 1) := by decide +kernel
theorem dXM_join_63 : decode cXM_join 63 = .ok (.iload_n 2, 1) := by decide +kernel
theorem dXM_join_64 : decode cXM_join 64 = .ok (.iload_n 3, 1) := by decide +kernel
theorem dXM_join_65 : decode cXM_join 65 = .ok (.invokevirtual 32, 3) := by decide +kernel
theorem dXM_join_68 : decode cXM_join 68 = .ok (.ireturn, 1) := by decide +kernel
theorem dXM_get_0 : decode cXM_get 0 = .ok (.aload_n 0, 1) := by decide +kernel
theorem dXM_get_1 : decode cXM_get 1 = .ok (.aload_n 0, 1) := by decide +kernel
theorem dXM_get_2 : decode cXM_get 2 = .ok (.iload_n 1, 1) := by decide +kernel
theorem dXM_get_3 : decode cXM_get 3 = .ok (.invokevirtual 25, 3) := by decide +kernel
theorem dXM_get_6 : decode cXM_get 6 = .ok (.ifCond .eq 10, 3) := by decide +kernel
theorem dXM_get_9 : decode cXM_get 9 = .ok (.iload_n 2, 1) := by decide +kernel
theorem dXM_get_10 : decode cXM_get 10 = .ok (.invokestatic 29, 3) := by decide +kernel
theorem dXM_get_13 : decode cXM_get 13 = .ok (.ifCond .ne 7, 3) := by decide +kernel
theorem dXM_get_16 : decode cXM_get 16 = .ok (.iconst 1, 1) := by decide +kernel
theorem dXM_get_17 : decode cXM_get 17 = .ok (.goto 23, 3) := by decide +kernel
theorem dXM_get_20 : decode cXM_get 20 = .ok (.aload_n 0, 1) := by decide +kernel
theorem dXM_get_21 : decode cXM_get 21 = .ok (.getfield 14, 3) := by decide +kernel
theorem dXM_get_24 : decode cXM_get 24 = .ok (.sipush 256, 3) := by decide +kernel
theorem dXM_get_27 : decode cXM_get 27 = .ok (.iload_n 1, 1) := by decide +kernel
theorem dXM_get_28 : decode cXM_get 28 = .ok (.imul, 1) := by decide +kernel
theorem dXM_get_29 : decode cXM_get 29 = .ok (.iload_n 2, 1) := by decide +kernel
theorem dXM_get_30 : decode cXM_get 30 = .ok (.iadd, 1) := by decide +kernel
theorem dXM_get_31 : decode cXM_get 31 = .ok (.baload, 1) := by decide +kernel
theorem dXM_get_32 : decode cXM_get 32 = .ok (.ifCond .ne 7, 3) := by decide +kernel
theorem dXM_get_35 : decode cXM_get 35 = .ok (.iconst 2, 1) := by decide +kernel
theorem dXM_get_36 : decode cXM_get 36 = .ok (.goto 4, 3) := by decide +kernel
theorem dXM_get_39 : decode cXM_get 39 = .ok (.iconst 0, 1) := by decide +kernel
theorem dXM_get_40 : decode cXM_get 40 = .ok (.putfield 22, 3) := by decide +kernel
theorem dXM_get_43 : decode cXM_get 43 = .ok (.aload_n 0, 1) := by decide +kernel
theorem dXM_get_44 : decode cXM_get 44 = .ok (.getfield 22, 3) := by decide +kernel
theorem dXM_get_47 : decode cXM_get 47 = .ok (.ifCond .le 7, 3) := by decide +kernel
theorem dXM_get_50 : decode cXM_get 50 = .ok (.iconst 0, 1) := by decide +kernel
theorem dXM_get_51 : decode cXM_get 51 = .ok (.goto 15, 3) := by decide +kernel
theorem dXM_get_54 : decode cXM_get 54 = .ok (.aload_n 0, 1) := by decide +kernel
theorem dXM_get_55 : decode cXM_get 55 = .ok (.getfield 10, 3) := by decide +kernel
theorem dXM_get_58 : decode cXM_get 58 = .ok (.sipush 256, 3) := by decide +kernel
theorem dXM_get_61 : decode cXM_get 61 = .ok (.iload_n 1, 1) := by decide +kernel
theorem dXM_get_62 : decode cXM_get 62 = .ok (.imul, 1) := by decide +kernel
theorem dXM_get_63 : decode cXM_get 63 = .ok (.iload_n 2, 1) := by decide +kernel
theorem dXM_get_64 : decode cXM_get 64 = .ok (.iadd, 1) := by decide +kernel
theorem dXM_get_65 : decode cXM_get 65 = .ok (.iaload, 1) := by decide +kernel
theorem dXM_get_66 : decode cXM_get 66 = .ok (.ireturn, 1) := by decide +kernel
theorem dXM_select_0 : decode cXM_select 0 = .ok (.aload_n 0, 1) := by decide +kernel
theorem dXM_select_1 : decode cXM_select 1 = .ok (.iconst 1, 1) := by decide +kernel
theorem dXM_select_2 : decode cXM_select 2 = .ok (.putfield 22, 3) := by decide +kernel
theorem dXM_select_5 : decode cXM_select 5 = .ok (.aload_n 0, 1) := by decide +kernel
theorem dXM_select_6 : decode cXM_select 6 = .ok (.iload_n 1, 1) := by decide +kernel
theorem dXM_select_7 : decode cXM_select 7 = .ok (.invokevirtual 25, 3) := by decide +kernel
theorem dXM_select_10 : decode cXM_select 10 = .ok (.ifCond .eq 7, 3) := by decide +kernel
theorem dXM_select_13 : decode cXM_select 13 = .ok (.iload_n 2, 1) := by decide +kernel
theorem dXM_select_14 : decode cXM_select 14 = .ok (.ifCond .ge 5, 3) := by decide +kernel
theorem dXM_select_17 : decode cXM_select 17 = .ok (.iconst 0, 1) := by decide +kernel
theorem dXM_select_18 : decode cXM_select 18 = .ok (.ireturn, 1) := by decide +kernel
theorem dXM_select_19 : decode cXM_select 19 = .ok (.iload_n 2, 1) := by decide +kernel
theorem dXM_select_20 : decode cXM_select 20 = .ok (.istore_n 3, 1) := by decide +kernel
theorem dXM_select_21 : decode cXM_select 21 = .ok (.iconst 0, 1) := by decide +kernel
theorem dXM_select_22 : decode cXM_select 22 = .ok (.istore 4, 2) := by decide +kernel
theorem dXM_select_24 : decode cXM_select 24 = .ok (.iload 4, 2) := by decide +kernel
theorem dXM_select_26 : decode cXM_select 26 = .ok (.sipush 256, 3) := by decide +kernel
theorem dXM_select_29 : decode cXM_select 29 = .ok (.if_icmp .ge 43, 3) := by decide +kernel
theorem dXM_select_32 : decode cXM_select 32 = .ok (.aload_n 0, 1) := by decide +kernel
theorem dXM_select_33 : decode cXM_select 33 = .ok (.getfield 14, 3) := by decide +kernel
theorem dXM_select_36 : decode cXM_select 36 = .ok (.sipush 256, 3) := by decide +kernel
theorem dXM_select_39 : decode cXM_select 39 = .ok (.iload_n 1, 1) := by decide +kernel
theorem dXM_select_40 : decode cXM_select 40 = .ok (.imul, 1) := by decide +kernel
theorem dXM_select_41 : decode cXM_select 41 = .ok (.iload 4, 2) := by decide +kernel
theorem dXM_select_43 : decode cXM_select 43 = .ok (.iadd, 1) := by decide +kernel
theorem dXM_select_44 : decode cXM_select 44 = .ok (.baload, 1) := by decide +kernel
theorem dXM_select_45 : decode cXM_select 45 = .ok (.ifCond .ne 6, 3) := by decide +kernel
theorem dXM_select_48 : decode cXM_select 48 = .ok (.goto 18, 3) := by decide +kernel
theorem dXM_select_51 : decode cXM_select 51 = .ok (.iload_n 3, 1) := by decide +kernel
theorem dXM_select_52 : decode cXM_select 52 = .ok (.ifCond .ne 11, 3) := by decide +kernel
theorem dXM_select_55 : decode cXM_select 55 = .ok (.aload_n 0, 1) := by decide +kernel
theorem dXM_select_56 : decode cXM_select 56 = .ok (.iconst 0, 1) := by decide +kernel
theorem dXM_select_57 : decode cXM_select 57 = .ok (.putfield 22, 3) := by decide +kernel
theorem dXM_select_60 : decode cXM_select 60 = .ok (.iload 4, 2) := by decide +kernel
theorem dXM_select_62 : decode cXM_select 62 = .ok (.ireturn, 1) := by decide +kernel
theorem dXM_select_63 : decode cXM_select 63 = .ok (.iinc 3 (-1), 3) := by decide +kernel
theorem dXM_select_66 : decode cXM_select 66 = .ok (.iinc 4 1, 3) := by decide +kernel
theorem dXM_select_69 : decode cXM_select 69 = .ok (.goto (-45), 3) := by decide +kernel
theorem dXM_select_72 : decode cXM_select 72 = .ok (.iconst 0, 1) := by decide +kernel
theorem dXM_select_73 : decode cXM_select 73 = .ok (.ireturn, 1) := by decide +kernel
theorem dXM_many_0 : decode cXM_many 0 = .ok (.aload_n 0, 1) := by decide +kernel
theorem dXM_many_1 : decode cXM_many 1 = .ok (.aload_n 0, 1) := by decide +kernel
theorem dXM_many_2 : decode cXM_many 2 = .ok (.iload_n 1, 1) := by decide +kernel
theorem dXM_many_3 : decode cXM_many 3 = .ok (.invokevirtual 25, 3) := by decide +kernel
theorem dXM_many_6 : decode cXM_many 6 = .ok (.ifCond .eq 7, 3) := by decide +kernel
theorem dXM_many_9 : decode cXM_many 9 = .ok (.iconst 0, 1) := by decide +kernel
theorem dXM_many_10 : decode cXM_many 10 = .ok (.goto 4, 3) := by decide +kernel
theorem dXM_many_13 : decode cXM_many 13 = .ok (.iconst 1, 1) := by decide +kernel
theorem dXM_many_14 : decode cXM_many 14 = .ok (.putfield 22, 3) := by decide +kernel
theorem dXM_many_17 : decode cXM_many 17 = .ok (.iconst 0, 1) := by decide +kernel
theorem dXM_many_18 : decode cXM_many 18 = .ok (.istore 4, 2) := by decide +kernel
theorem dXM_many_20 : decode cXM_many 20 = .ok (.iconst 0, 1) := by decide +kernel
theorem dXM_many_21 : decode cXM_many 21 = .ok (.istore 5, 2) := by decide +kernel
theorem dXM_many_23 : decode cXM_many 23 = .ok (.iload 5, 2) := by decide +kernel
theorem dXM_many_25 : decode cXM_many 25 = .ok (.sipush 256, 3) := by decide +kernel
theorem dXM_many_28 : decode cXM_many 28 = .ok (.if_icmp .ge 47, 3) := by decide +kernel
theorem dXM_many_31 : decode cXM_many 31 = .ok (.aload_n 0, 1) := by decide +kernel
theorem dXM_many_32 : decode cXM_many 32 = .ok (.getfield 22, 3) := by decide +kernel
theorem dXM_many_35 : decode cXM_many 35 = .ok (.ifCond .ne 40, 3) := by decide +kernel
theorem dXM_many_38 : decode cXM_many 38 = .ok (.iload 5, 2) := by decide +kernel
theorem dXM_many_40 : decode cXM_many 40 = .ok (.iload_n 2, 1) := by decide +kernel
theorem dXM_many_41 : decode cXM_many 41 = .ok (.if_icmp .lt 28, 3) := by decide +kernel
theorem dXM_many_44 : decode cXM_many 44 = .ok (.iload 5, 2) := by decide +kernel
theorem dXM_many_46 : decode cXM_many 46 = .ok (.iload_n 3, 1) := by decide +kernel
theorem dXM_many_47 : decode cXM_many 47 = .ok (.if_icmp .ge 22, 3) := by decide +kernel
theorem dXM_many_50 : decode cXM_many 50 = .ok (.aload_n 0, 1) := by decide +kernel
theorem dXM_many_51 : decode cXM_many 51 = .ok (.getfield 14, 3) := by decide +kernel
theorem dXM_many_54 : decode cXM_many 54 = .ok (.sipush 256, 3) := by decide +kernel
theorem dXM_many_57 : decode cXM_many 57 = .ok (.iload_n 1, 1) := by decide +kernel
theorem dXM_many_58 : decode cXM_many 58 = .ok (.imul, 1) := by decide +kernel
theorem dXM_many_59 : decode cXM_many 59 = .ok (.iload 5, 2) := by decide +kernel
theorem dXM_many_61 : decode cXM_many 61 = .ok (.iadd, 1) := by decide +kernel
theorem dXM_many_62 : decode cXM_many 62 = .ok (.baload, 1) := by decide +kernel
theorem dXM_many_63 : decode cXM_many 63 = .ok (.ifCond .eq 6, 3) := by decide +kernel
theorem dXM_many_66 : decode cXM_many 66 = .ok (.iinc 4 1, 3) := by decide +kernel
theorem dXM_many_69 : decode cXM_many 69 = .ok (.iinc 5 1, 3) := by decide +kernel
theorem dXM_many_72 : decode cXM_many 72 = .ok (.goto (-49), 3) := by decide +kernel
theorem dXM_many_75 : decode cXM_many 75 = .ok (.iload 4, 2) := by decide +kernel
theorem dXM_many_77 : decode cXM_many 77 = .ok (.ireturn, 1) := by decide +kernel
theorem dXM_sum_0 : decode cXM_sum 0 = .ok (.aload_n 0, 1) := by decide +kernel
theorem dXM_sum_1 : decode cXM_sum 1 = .ok (.aload_n 0, 1) := by decide +kernel
theorem dXM_sum_2 : decode cXM_sum 2 = .ok (.iload_n 1, 1) := by decide +kernel
theorem dXM_sum_3 : decode cXM_sum 3 = .ok (.invokevirtual 25, 3) := by decide +kernel
theorem dXM_sum_6 : decode cXM_sum 6 = .ok (.ifCond .eq 7, 3) := by decide +kernel
theorem dXM_sum_9 : decode cXM_sum 9 = .ok (.iconst 0, 1) := by decide +kernel
theorem dXM_sum_10 : decode cXM_sum 10 = .ok (.goto 4, 3) := by decide +kernel
theorem dXM_sum_13 : decode cXM_sum 13 = .ok (.iconst 1, 1) := by decide +kernel
theorem dXM_sum_14 : decode cXM_sum 14 = .ok (.putfield 22, 3) := by decide +kernel
theorem dXM_sum_17 : decode cXM_sum 17 = .ok (.lconst 0, 1) := by decide +kernel
theorem dXM_sum_18 : decode cXM_sum 18 = .ok (.lstore 4, 2) := by decide +kernel
theorem dXM_sum_20 : decode cXM_sum 20 = .ok (.iconst 0, 1) := by decide +kernel
theorem dXM_sum_21 : decode cXM_sum 21 = .ok (.istore 6, 2) := by decide +kernel
theorem dXM_sum_23 : decode cXM_sum 23 = .ok (.iload 6, 2) := by decide +kernel
theorem dXM_sum_25 : decode cXM_sum 25 = .ok (.sipush 256, 3) := by decide +kernel
theorem dXM_sum_28 : decode cXM_sum 28 = .ok (.if_icmp .ge 63, 3) := by decide +kernel
theorem dXM_sum_31 : decode cXM_sum 31 = .ok (.aload_n 0, 1) := by decide +kernel
theorem dXM_sum_32 : decode cXM_sum 32 = .ok (.getfield 22, 3) := by decide +kernel
theorem dXM_sum_35 : decode cXM_sum 35 = .ok (.ifCond .ne 56, 3) := by decide +kernel
theorem dXM_sum_38 : decode cXM_sum 38 = .ok (.iload 6, 2) := by decide +kernel
theorem dXM_sum_40 : decode cXM_sum 40 = .ok (.iload_n 2, 1) := by decide +kernel
theorem dXM_sum_41 : decode cXM_sum 41 = .ok (.if_icmp .lt 44, 3) := by decide +kernel
theorem dXM_sum_44 : decode cXM_sum 44 = .ok (.iload 6, 2) := by decide +kernel
theorem dXM_sum_46 : decode cXM_sum 46 = .ok (.iload_n 3, 1) := by decide +kernel
theorem dXM_sum_47 : decode cXM_sum 47 = .ok (.if_icmp .ge 38, 3) := by decide +kernel
theorem dXM_sum_50 : decode cXM_sum 50 = .ok (.aload_n 0, 1) := by decide +kernel
theorem dXM_sum_51 : decode cXM_sum 51 = .ok (.getfield 14, 3) := by decide +kernel
theorem dXM_sum_54 : decode cXM_sum 54 = .ok (.sipush 256, 3) := by decide +kernel
theorem dXM_sum_57 : decode cXM_sum 57 = .ok (.iload_n 1, 1) := by decide +kernel
theorem dXM_sum_58 : decode cXM_sum 58 = .ok (.imul, 1) := by decide +kernel
theorem dXM_sum_59 : decode cXM_sum 59 = .ok (.iload 6, 2) := by decide +kernel
theorem dXM_sum_61 : decode cXM_sum 61 = .ok (.iadd, 1) := by decide +kernel
theorem dXM_sum_62 : decode cXM_sum 62 = .ok (.baload, 1) := by decide +kernel
theorem dXM_sum_63 : decode cXM_sum 63 = .ok (.ifCond .eq 22, 3) := by decide +kernel
theorem dXM_sum_66 : decode cXM_sum 66 = .ok (.lload 4, 2) := by decide +kernel
theorem dXM_sum_68 : decode cXM_sum 68 = .ok (.aload_n 0, 1) := by decide +kernel
theorem dXM_sum_69 : decode cXM_sum 69 = .ok (.getfield 10, 3) := by decide +kernel
theorem dXM_sum_72 : decode cXM_sum 72 = .ok (.sipush 256, 3) := by decide +kernel
theorem dXM_sum_75 : decode cXM_sum 75 = .ok (.iload_n 1, 1) := by decide +kernel
theorem dXM_sum_76 : decode cXM_sum 76 = .ok (.imul, 1) := by decide +kernel
theorem dXM_sum_77 : decode cXM_sum 77 = .ok (.iload 6, 2) := by decide +kernel
theorem dXM_sum_79 : decode cXM_sum 79 = .ok (.iadd, 1) := by decide +kernel
theorem dXM_sum_80 : decode cXM_sum 80 = .ok (.iaload, 1) := by decide +kernel
theorem dXM_sum_81 : decode cXM_sum 81 = .ok (.i2l, 1) := by decide +kernel
theorem dXM_sum_82 : decode cXM_sum 82 = .ok (.ladd, 1) := by decide +kernel
theorem dXM_sum_83 : decode cXM_sum 83 = .ok (.lstore 4, 2) := by decide +kernel
theorem dXM_sum_85 : decode cXM_sum 85 = .ok (.iinc 6 1, 3) := by decide +kernel
theorem dXM_sum_88 : decode cXM_sum 88 = .ok (.goto (-65), 3) := by decide +kernel
theorem dXM_sum_91 : decode cXM_sum 91 = .ok (.lload 4, 2) := by decide +kernel
theorem dXM_sum_93 : decode cXM_sum 93 = .ok (.lreturn, 1) := by decide +kernel
theorem dXM_differ_0 : decode cXM_differ 0 = .ok (.aload_n 0, 1) := by decide +kernel
theorem dXM_differ_1 : decode cXM_differ 1 = .ok (.aload_n 0, 1) := by decide +kernel
theorem dXM_differ_2 : decode cXM_differ 2 = .ok (.iload_n 1, 1) := by decide +kernel
theorem dXM_differ_3 : decode cXM_differ 3 = .ok (.invokevirtual 25, 3) := by decide +kernel
theorem dXM_differ_6 : decode cXM_differ 6 = .ok (.ifCond .eq 15, 3) := by decide +kernel
theorem dXM_differ_9 : decode cXM_differ 9 = .ok (.aload_n 0, 1) := by decide +kernel
theorem dXM_differ_10 : decode cXM_differ 10 = .ok (.iload_n 2, 1) := by decide +kernel
theorem dXM_differ_11 : decode cXM_differ 11 = .ok (.invokevirtual 25, 3) := by decide +kernel
theorem dXM_differ_14 : decode cXM_differ 14 = .ok (.ifCond .eq 7, 3) := by decide +kernel
theorem dXM_differ_17 : decode cXM_differ 17 = .ok (.iconst 0, 1) := by decide +kernel
theorem dXM_differ_18 : decode cXM_differ 18 = .ok (.goto 4, 3) := by decide +kernel
theorem dXM_differ_21 : decode cXM_differ 21 = .ok (.iconst 1, 1) := by decide +kernel
theorem dXM_differ_22 : decode cXM_differ 22 = .ok (.putfield 22, 3) := by decide +kernel
theorem dXM_differ_25 : decode cXM_differ 25 = .ok (.iconst 0, 1) := by decide +kernel
theorem dXM_differ_26 : decode cXM_differ 26 = .ok (.istore_n 3, 1) := by decide +kernel
theorem dXM_differ_27 : decode cXM_differ 27 = .ok (.iconst 0, 1) := by decide +kernel
theorem dXM_differ_28 : decode cXM_differ 28 = .ok (.istore 4, 2) := by decide +kernel
theorem dXM_differ_30 : decode cXM_differ 30 = .ok (.iload 4, 2) := by decide +kernel
theorem dXM_differ_32 : decode cXM_differ 32 = .ok (.sipush 256, 3) := by decide +kernel
theorem dXM_differ_35 : decode cXM_differ 35 = .ok (.if_icmp .ge 83, 3) := by decide +kernel
theorem dXM_differ_38 : decode cXM_differ 38 = .ok (.aload_n 0, 1) := by decide +kernel
theorem dXM_differ_39 : decode cXM_differ 39 = .ok (.getfield 22, 3) := by decide +kernel
theorem dXM_differ_42 : decode cXM_differ 42 = .ok (.ifCond .ne 76, 3) := by decide +kernel
theorem dXM_differ_45 : decode cXM_differ 45 = .ok (.sipush 256, 3) := by decide +kernel
theorem dXM_differ_48 : decode cXM_differ 48 = .ok (.iload_n 1, 1) := by decide +kernel
theorem dXM_differ_49 : decode cXM_differ 49 = .ok (.imul, 1) := by decide +kernel
theorem dXM_differ_50 : decode cXM_differ 50 = .ok (.iload 4, 2) := by decide +kernel
theorem dXM_differ_52 : decode cXM_differ 52 = .ok (.iadd, 1) := by decide +kernel
theorem dXM_differ_53 : decode cXM_differ 53 = .ok (.istore 5, 2) := by decide +kernel
theorem dXM_differ_55 : decode cXM_differ 55 = .ok (.sipush 256, 3) := by decide +kernel
theorem dXM_differ_58 : decode cXM_differ 58 = .ok (.iload_n 2, 1) := by decide +kernel
theorem dXM_differ_59 : decode cXM_differ 59 = .ok (.imul, 1) := by decide +kernel
theorem dXM_differ_60 : decode cXM_differ 60 = .ok (.iload 4, 2) := by decide +kernel
theorem dXM_differ_62 : decode cXM_differ 62 = .ok (.iadd, 1) := by decide +kernel
theorem dXM_differ_63 : decode cXM_differ 63 = .ok (.istore 6, 2) := by decide +kernel
theorem dXM_differ_65 : decode cXM_differ 65 = .ok (.aload_n 0, 1) := by decide +kernel
theorem dXM_differ_66 : decode cXM_differ 66 = .ok (.getfield 14, 3) := by decide +kernel
theorem dXM_differ_69 : decode cXM_differ 69 = .ok (.iload 5, 2) := by decide +kernel
theorem dXM_differ_71 : decode cXM_differ 71 = .ok (.baload, 1) := by decide +kernel
theorem dXM_differ_72 : decode cXM_differ 72 = .ok (.aload_n 0, 1) := by decide +kernel
theorem dXM_differ_73 : decode cXM_differ 73 = .ok (.getfield 14, 3) := by decide +kernel
theorem dXM_differ_76 : decode cXM_differ 76 = .ok (.iload 6, 2) := by decide +kernel
theorem dXM_differ_78 : decode cXM_differ 78 = .ok (.baload, 1) := by decide +kernel
theorem dXM_differ_79 : decode cXM_differ 79 = .ok (.if_icmp .ne 30, 3) := by decide +kernel
theorem dXM_differ_82 : decode cXM_differ 82 = .ok (.aload_n 0, 1) := by decide +kernel
theorem dXM_differ_83 : decode cXM_differ 83 = .ok (.getfield 14, 3) := by decide +kernel
theorem dXM_differ_86 : decode cXM_differ 86 = .ok (.iload 5, 2) := by decide +kernel
theorem dXM_differ_88 : decode cXM_differ 88 = .ok (.baload, 1) := by decide +kernel
theorem dXM_differ_89 : decode cXM_differ 89 = .ok (.ifCond .eq 23, 3) := by decide +kernel
theorem dXM_differ_92 : decode cXM_differ 92 = .ok (.aload_n 0, 1) := by decide +kernel
theorem dXM_differ_93 : decode cXM_differ 93 = .ok (.getfield 10, 3) := by decide +kernel
theorem dXM_differ_96 : decode cXM_differ 96 = .ok (.iload 5, 2) := by decide +kernel
theorem dXM_differ_98 : decode cXM_differ 98 = .ok (.iaload, 1) := by decide +kernel
theorem dXM_differ_99 : decode cXM_differ 99 = .ok (.aload_n 0, 1) := by decide +kernel
theorem dXM_differ_100 : decode cXM_differ 100 = .ok (.getfield 10, 3) := by decide +kernel
theorem dXM_differ_103 : decode cXM_differ 103 = .ok (.iload 6, 2) := by decide +kernel
theorem dXM_differ_105 : decode cXM_differ 105 = .ok (.iaload, 1) := by decide +kernel
theorem dXM_differ_106 : decode cXM_differ 106 = .ok (.if_icmp .eq 6, 3) := by decide +kernel
theorem dXM_differ_109 : decode cXM_differ 109 = .ok (.iinc 3 1, 3) := by decide +kernel
theorem dXM_differ_112 : decode cXM_differ 112 = .ok (.iinc 4 1, 3) := by decide +kernel
theorem dXM_differ_115 : decode cXM_differ 115 = .ok (.goto (-85), 3) := by decide +kernel
theorem dXM_differ_118 : decode cXM_differ 118 = .ok (.iload_n 3, 1) := by decide +kernel
theorem dXM_differ_119 : decode cXM_differ 119 = .ok (.ireturn, 1) := by decide +kernel
theorem dXM_digest_0 : decode cXM_digest 0 = .ok (.aload_n 0, 1) := by decide +kernel
theorem dXM_digest_1 : decode cXM_digest 1 = .ok (.aload_n 0, 1) := by decide +kernel
theorem dXM_digest_2 : decode cXM_digest 2 = .ok (.iload_n 1, 1) := by decide +kernel
theorem dXM_digest_3 : decode cXM_digest 3 = .ok (.invokevirtual 25, 3) := by decide +kernel
theorem dXM_digest_6 : decode cXM_digest 6 = .ok (.ifCond .eq 7, 3) := by decide +kernel
theorem dXM_digest_9 : decode cXM_digest 9 = .ok (.iconst 0, 1) := by decide +kernel
theorem dXM_digest_10 : decode cXM_digest 10 = .ok (.goto 4, 3) := by decide +kernel
theorem dXM_digest_13 : decode cXM_digest 13 = .ok (.iconst 1, 1) := by decide +kernel
theorem dXM_digest_14 : decode cXM_digest 14 = .ok (.putfield 22, 3) := by decide +kernel
theorem dXM_digest_17 : decode cXM_digest 17 = .ok (.ldc2_w 36, 3) := by decide +kernel
theorem dXM_digest_20 : decode cXM_digest 20 = .ok (.lstore_n 2, 1) := by decide +kernel
theorem dXM_digest_21 : decode cXM_digest 21 = .ok (.iconst 0, 1) := by decide +kernel
theorem dXM_digest_22 : decode cXM_digest 22 = .ok (.istore 4, 2) := by decide +kernel
theorem dXM_digest_24 : decode cXM_digest 24 = .ok (.iload 4, 2) := by decide +kernel
theorem dXM_digest_26 : decode cXM_digest 26 = .ok (.sipush 256, 3) := by decide +kernel
theorem dXM_digest_29 : decode cXM_digest 29 = .ok (.if_icmp .ge 61, 3) := by decide +kernel
theorem dXM_digest_32 : decode cXM_digest 32 = .ok (.aload_n 0, 1) := by decide +kernel
theorem dXM_digest_33 : decode cXM_digest 33 = .ok (.getfield 22, 3) := by decide +kernel
theorem dXM_digest_36 : decode cXM_digest 36 = .ok (.ifCond .ne 54, 3) := by decide +kernel
theorem dXM_digest_39 : decode cXM_digest 39 = .ok (.aload_n 0, 1) := by decide +kernel
theorem dXM_digest_40 : decode cXM_digest 40 = .ok (.getfield 14, 3) := by decide +kernel
theorem dXM_digest_43 : decode cXM_digest 43 = .ok (.sipush 256, 3) := by decide +kernel
theorem dXM_digest_46 : decode cXM_digest 46 = .ok (.iload_n 1, 1) := by decide +kernel
theorem dXM_digest_47 : decode cXM_digest 47 = .ok (.imul, 1) := by decide +kernel
theorem dXM_digest_48 : decode cXM_digest 48 = .ok (.iload 4, 2) := by decide +kernel
theorem dXM_digest_50 : decode cXM_digest 50 = .ok (.iadd, 1) := by decide +kernel
theorem dXM_digest_51 : decode cXM_digest 51 = .ok (.baload, 1) := by decide +kernel
theorem dXM_digest_52 : decode cXM_digest 52 = .ok (.ifCond .eq 32, 3) := by decide +kernel
theorem dXM_digest_55 : decode cXM_digest 55 = .ok (.ldc2_w 38, 3) := by decide +kernel
theorem dXM_digest_58 : decode cXM_digest 58 = .ok (.ldc2_w 38, 3) := by decide +kernel
theorem dXM_digest_61 : decode cXM_digest 61 = .ok (.lload_n 2, 1) := by decide +kernel
theorem dXM_digest_62 : decode cXM_digest 62 = .ok (.lmul, 1) := by decide +kernel
theorem dXM_digest_63 : decode cXM_digest 63 = .ok (.iload 4, 2) := by decide +kernel
theorem dXM_digest_65 : decode cXM_digest 65 = .ok (.i2l, 1) := by decide +kernel
theorem dXM_digest_66 : decode cXM_digest 66 = .ok (.ladd, 1) := by decide +kernel
theorem dXM_digest_67 : decode cXM_digest 67 = .ok (.lmul, 1) := by decide +kernel
theorem dXM_digest_68 : decode cXM_digest 68 = .ok (.aload_n 0, 1) := by decide +kernel
theorem dXM_digest_69 : decode cXM_digest 69 = .ok (.getfield 10, 3) := by decide +kernel
theorem dXM_digest_72 : decode cXM_digest 72 = .ok (.sipush 256, 3) := by decide +kernel
theorem dXM_digest_75 : decode cXM_digest 75 = .ok (.iload_n 1, 1) := by decide +kernel
theorem dXM_digest_76 : decode cXM_digest 76 = .ok (.imul, 1) := by decide +kernel
theorem dXM_digest_77 : decode cXM_digest 77 = .ok (.iload 4, 2) := by decide +kernel
theorem dXM_digest_79 : decode cXM_digest 79 = .ok (.iadd, 1) := by decide +kernel
theorem dXM_digest_80 : decode cXM_digest 80 = .ok (.iaload, 1) := by decide +kernel
theorem dXM_digest_81 : decode cXM_digest 81 = .ok (.i2l, 1) := by decide +kernel
theorem dXM_digest_82 : decode cXM_digest 82 = .ok (.ladd, 1) := by decide +kernel
theorem dXM_digest_83 : decode cXM_digest 83 = .ok (.lstore_n 2, 1) := by decide +kernel
theorem dXM_digest_84 : decode cXM_digest 84 = .ok (.iinc 4 1, 3) := by decide +kernel
theorem dXM_digest_87 : decode cXM_digest 87 = .ok (.goto (-63), 3) := by decide +kernel
theorem dXM_digest_90 : decode cXM_digest 90 = .ok (.aload_n 0, 1) := by decide +kernel
theorem dXM_digest_91 : decode cXM_digest 91 = .ok (.getfield 22, 3) := by decide +kernel
theorem dXM_digest_94 : decode cXM_digest 94 = .ok (.ifCond .le 7, 3) := by decide +kernel
theorem dXM_digest_97 : decode cXM_digest 97 = .ok (.lconst 0, 1) := by decide +kernel
theorem dXM_digest_98 : decode cXM_digest 98 = .ok (.goto 4, 3) := by decide +kernel
theorem dXM_digest_101 : decode cXM_digest 101 = .ok (.lload_n 2, 1) := by decide +kernel
theorem dXM_digest_102 : decode cXM_digest 102 = .ok (.lreturn, 1) := by decide +kernel
theorem dXM_versions_0 : decode cXM_versions 0 = .ok (.aload_n 0, 1) := by decide +kernel
theorem dXM_versions_1 : decode cXM_versions 1 = .ok (.iconst 0, 1) := by decide +kernel
theorem dXM_versions_2 : decode cXM_versions 2 = .ok (.putfield 22, 3) := by decide +kernel
theorem dXM_versions_5 : decode cXM_versions 5 = .ok (.aload_n 0, 1) := by decide +kernel
theorem dXM_versions_6 : decode cXM_versions 6 = .ok (.getfield 18, 3) := by decide +kernel
theorem dXM_versions_9 : decode cXM_versions 9 = .ok (.ireturn, 1) := by decide +kernel
theorem dXM_check_0 : decode cXM_check 0 = .ok (.aload_n 0, 1) := by decide +kernel
theorem dXM_check_1 : decode cXM_check 1 = .ok (.iconst 0, 1) := by decide +kernel
theorem dXM_check_2 : decode cXM_check 2 = .ok (.putfield 22, 3) := by decide +kernel
theorem dXM_check_5 : decode cXM_check 5 = .ok (.iconst 0, 1) := by decide +kernel
theorem dXM_check_6 : decode cXM_check 6 = .ok (.ireturn, 1) := by decide +kernel
end
section
/-! the reference's world -/
abbrev mt_MW (g : mt_G) (am av ab : Nat) (n th : Int32) (fv fb : Nat → Int32) (Z : va_W) : va_W := (am, .inr (2, [.ref av, .ref ab, .int n, .int th])) :: (av, .inl (g.2.2.2 2, 153600, .inl fv)) :: (ab, .inl (g.2.2.2 3, 153600, .inl fb)) :: Z
/-- version j as the reference's arrays hold it -/
def mt_ft (fv fb : Nat → Int32) (j : Nat) : mt_T := fun k => if fb (256 * j + k) = 0 then none else some (fv (256 * j + k))
/-- version cn is new, by w; the older ones stay -/
def mt_new (fv fb f h : Nat → Int32) (cn : Nat) (w : Nat → Int32 × Int32) : Prop := (∀ i, i < 256 → f (256 * cn + i) = (w i).1 ∧ h (256 * cn + i) = (w i).2) ∧ (∀ i, i < 256 * cn → f i = fv i ∧ h i = fb i) ∧ ∀ i, h i = 0 ∨ h i = 1
theorem mt_nar01 {x : Int32} (h : x = 0 ∨ x = 1) : vp_nar .boolean x = x := by
  rcases h with rfl | rfl <;> decide
theorem sb_m1s {a b : Nat} (h : b < a) : nI (a - b) + Int32.ofInt (-1) = nI (a - (b + 1)) := by
  have e : a - b = (a - (b + 1)) + 1 := by omega
  rw [e]
  exact pk_m1 _
theorem mt_new_put {fv fb f h : Nat → Int32} {cn i : Nat} {x y : Int32} {w : Nat → Int32 × Int32} (hy : y = 0 ∨ y = 1) (hw : mt_new fv fb f h cn w) (hi : i < 256) : mt_new fv fb (upd f (256 * cn + i) x) (upd h (256 * cn + i) y) cn (fun q => if q = i then (x, y) else w q) := by
  obtain ⟨h1, h2, h3⟩ := hw
  refine ⟨fun q hq => ?_, fun q hq => ?_, fun q => ?_⟩
  · dsimp only
    by_cases e : q = i
    · subst e
      rw [pk_us, pk_us, if_pos rfl]
      exact ⟨rfl, rfl⟩
    · rw [pk_un (by omega), pk_un (by omega), if_neg e]
      exact h1 q hq
  · rw [pk_un (by omega), pk_un (by omega)]
    exact h2 q hq
  · by_cases e : q = 256 * cn + i
    · subst e
      rw [pk_us]
      exact hy
    · rw [pk_un e]
      exact h3 q
def mt_kb (k : Int32) : Prop := 0 ≤ k ∧ k ≤ nI 256
theorem mt_kb_nat {k : Int32} (h : mt_kb k) : ∃ i, i ≤ 256 ∧ k = nI i := by
  obtain ⟨i, hi, rfl⟩ := nI_of (x := k) (Int32.not_lt.mpr h.1)
  exact ⟨i, (nI_leI hi (by omega)).mp h.2, rfl⟩
set_option maxHeartbeats 4000000 in
set_option maxRecDepth 100000 in
/-- the reference: thrown() -/
theorem c_M_thrown (l : Launch) (g : mt_G) (am av ab : Nat) (n th : Int32) (fv fb : Nat → Int32) (Z : va_W) : Met l yXM_thrown wsXM_thrown ({ frames := 0, cells := 0, slots := 0, locals := 0 }) (mt_Pc g (mt_MW g am av ab n th fv fb Z) [.ref am]) (vp_Si (fun z => z = th)) (0) (0) (fun _ => False) := by
  refine Met.ofW (cc := cXM_thrown) (maxL := 1) (ret := (some .int)) (by decide) rfl ?_
  intro p e s m args below meth c s₁ B hml hv
  obtain ⟨rfl, hE, hz, hP, hD⟩ := hv
  have hx := B.exec
  have hb := B.bytes
  have hr := B.returns
  have hts := atoms_spec (ws := wsXM_thrown) B.pre
  have hown : s.vm.findClass RXM = some m.cls := findClass_of_methodNamed B.named
  have hlocks := B.notSynchronized
  have hK := hE.k
  have hA : ∀ q : Nat, s.heap.size ≤ q → mt_A g q := fun q h => Nat.le_trans hz h
  have hS : va_S (mt_A g) s.heap s.heap [] := va_S.rf
  have hl := lv_entry ([.ref am]) (n := 1) (Nat.le_of_ble_eq_true rfl)
  rw [lg_entry_eq]
  generalize (lg_sl ([.ref am]) ++ List.replicate (1 - (lg_sl ([.ref am])).length) Slot.unset).toArray = ls at hl ⊢
  have hl : lv_has ls 1 [(0, .ref am)] := hl
  have hH : s.heap = s.heap := rfl
  refine lv_aload_n hx hb dXM_thrown_0 rfl (lv_at hl 0 rfl) ?_
  refine va_get (D := g.1) (ci := 2) (v := .int th) (C := RXM) (T := TXM) (N := 4) hx hb hts (fun w h => List.mem_cons_of_mem _ (in_XM w h)) hown hK hP 0 rfl rfl 3 (by decide) (hts _ (List.mem_cons_of_mem _ mw_389)) (fun _ h9 => h9) rfl dXM_thrown_1 ?_
  exact W.iret (v := th) hx hb hr (fun t9 ht hW => ⟨th, rfl, rfl, ht⟩) t_nil dXM_thrown_4
set_option maxHeartbeats 4000000 in
set_option maxRecDepth 100000 in
/-- the reference: isOne(v) -/
theorem c_M_isOne (l : Launch) (g : mt_G) (am av ab : Nat) (cn : Nat) (th : Int32) (fv fb : Nat → Int32) (Z : va_W) (hcn : cn ≤ 600) (v : Int32) : Met l yXM_isOne wsXM_isOne ({ frames := 0, cells := 0, slots := 0, locals := 0 }) (mt_Pc g (mt_MW g am av ab (nI cn) th fv fb Z) [.ref am, .int v]) (vp_Si (fun z => (z = 1 ∧ mt_ver v cn) ∨ (z = 0 ∧ ¬ mt_ver v cn))) (0) (0) (fun _ => False) := by
  refine Met.ofW (cc := cXM_isOne) (maxL := 2) (ret := (some .boolean)) (by decide) rfl ?_
  intro p e s m args below meth c s₁ B hml hv
  obtain ⟨rfl, hE, hz, hP, hD⟩ := hv
  have hx := B.exec
  have hb := B.bytes
  have hr := B.returns
  have hts := atoms_spec (ws := wsXM_isOne) B.pre
  have hown : s.vm.findClass RXM = some m.cls := findClass_of_methodNamed B.named
  have hlocks := B.notSynchronized
  have hK := hE.k
  have hA : ∀ q : Nat, s.heap.size ≤ q → mt_A g q := fun q h => Nat.le_trans hz h
  have hS : va_S (mt_A g) s.heap s.heap [] := va_S.rf
  have hl := lv_entry ([.ref am, .int v]) (n := 2) (Nat.le_of_ble_eq_true rfl)
  rw [lg_entry_eq]
  generalize (lg_sl ([.ref am, .int v]) ++ List.replicate (2 - (lg_sl ([.ref am, .int v])).length) Slot.unset).toArray = ls at hl ⊢
  have hl : lv_has ls 2 [(0, .ref am), (1, .int v)] := hl
  have hH : s.heap = s.heap := rfl
  refine lv_iload_n hx hb dXM_isOne_0 rfl (lv_at hl 1 rfl) ?_
  refine lv_if_lt (tgt := 16) hx hb dXM_isOne_1 (by decide) (fun c1 => ?_) (fun c1 => ?_)
  · refine lv_iconst (v := 0) hx hb dXM_isOne_16 (by decide +kernel) ?_
    exact W.zret (v := 0) hx hb hr rfl (fun t9 ht hW => ⟨0, rfl, Or.inr ⟨rfl, fun h9 => absurd c1 (Int32.not_lt.mpr h9.1)⟩, ht⟩) t_nil dXM_isOne_17
  · refine lv_iload_n hx hb dXM_isOne_4 rfl (lv_at hl 1 rfl) ?_
    refine lv_aload_n hx hb dXM_isOne_5 rfl (lv_at hl 0 rfl) ?_
    refine va_get (D := g.1) (ci := 2) (v := .int (nI cn)) (C := RXM) (T := TXM) (N := 4) hx hb hts (fun w h => List.mem_cons_of_mem _ (in_XM w h)) hown hK hP 0 rfl rfl 2 (by decide) (hts _ (List.mem_cons_of_mem _ mw_388)) (fun _ h9 => h9) rfl dXM_isOne_6 ?_
    refine lv_icmp_ge (tgt := 16) hx hb dXM_isOne_9 (by decide) (fun c2 => ?_) (fun c2 => ?_)
    · refine lv_iconst (v := 0) hx hb dXM_isOne_16 (by decide +kernel) ?_
      exact W.zret (v := 0) hx hb hr rfl (fun t9 ht hW => ⟨0, rfl, Or.inr ⟨rfl, fun h9 => absurd h9.2 (Int32.not_lt.mpr c2)⟩, ht⟩) t_nil dXM_isOne_17
    · refine lv_iconst (v := 1) hx hb dXM_isOne_12 (by decide +kernel) ?_
      refine lv_goto (tgt := 17) hx hb dXM_isOne_13 (by decide) ?_
      exact W.zret (v := 1) hx hb hr rfl (fun t9 ht hW => ⟨1, rfl, Or.inl ⟨rfl, Int32.not_lt.mp c1, Int32.not_le.mp c2⟩, ht⟩) t_nil dXM_isOne_17
set_option maxHeartbeats 4000000 in
set_option maxRecDepth 100000 in
/-- the reference: isKey(k) -/
theorem c_M_isKey (l : Launch) (g : mt_G) (ws : va_W) (v : Int32) : Met l yXM_isKey wsXM_isKey ({ frames := 0, cells := 0, slots := 0, locals := 0 }) (mt_Pc g ws [.int v]) (vp_Si (fun z => (z = 1 ∧ mt_key v) ∨ (z = 0 ∧ ¬ mt_key v))) (0) (0) (fun _ => False) := by
  refine Met.ofW (cc := cXM_isKey) (maxL := 1) (ret := (some .boolean)) (by decide) rfl ?_
  intro p e s m args below meth c s₁ B hml hv
  obtain ⟨rfl, hE, hz, hP, hD⟩ := hv
  have hx := B.exec
  have hb := B.bytes
  have hr := B.returns
  have hts := atoms_spec (ws := wsXM_isKey) B.pre
  have hown : s.vm.findClass RXM = some m.cls := findClass_of_methodNamed B.named
  have hlocks := B.notSynchronized
  have hK := hE.k
  have hA : ∀ q : Nat, s.heap.size ≤ q → mt_A g q := fun q h => Nat.le_trans hz h
  have hS : va_S (mt_A g) s.heap s.heap [] := va_S.rf
  have hl := lv_entry ([.int v]) (n := 1) (Nat.le_of_ble_eq_true rfl)
  rw [lg_entry_eq]
  generalize (lg_sl ([.int v]) ++ List.replicate (1 - (lg_sl ([.int v])).length) Slot.unset).toArray = ls at hl ⊢
  have hl : lv_has ls 1 [(0, .int v)] := hl
  have hH : s.heap = s.heap := rfl
  refine lv_iload_n hx hb dXM_isKey_0 rfl (lv_at hl 0 rfl) ?_
  refine lv_if_lt (tgt := 15) hx hb dXM_isKey_1 (by decide) (fun c1 => ?_) (fun c1 => ?_)
  · refine lv_iconst (v := 0) hx hb dXM_isKey_15 (by decide +kernel) ?_
    exact W.zret (v := 0) hx hb hr rfl (fun t9 ht hW => ⟨0, rfl, Or.inr ⟨rfl, fun h9 => absurd c1 (Int32.not_lt.mpr h9.1)⟩, ht⟩) t_nil dXM_isKey_16
  · refine lv_iload_n hx hb dXM_isKey_4 rfl (lv_at hl 0 rfl) ?_
    refine lv_sipush (v := (nI 256)) hx hb dXM_isKey_5 (by decide +kernel) ?_
    refine lv_icmp_ge (tgt := 15) hx hb dXM_isKey_8 (by decide) (fun c2 => ?_) (fun c2 => ?_)
    · refine lv_iconst (v := 0) hx hb dXM_isKey_15 (by decide +kernel) ?_
      exact W.zret (v := 0) hx hb hr rfl (fun t9 ht hW => ⟨0, rfl, Or.inr ⟨rfl, fun h9 => absurd h9.2 (Int32.not_lt.mpr c2)⟩, ht⟩) t_nil dXM_isKey_16
    · refine lv_iconst (v := 1) hx hb dXM_isKey_11 (by decide +kernel) ?_
      refine lv_goto (tgt := 16) hx hb dXM_isKey_12 (by decide) ?_
      exact W.zret (v := 1) hx hb hr rfl (fun t9 ht hW => ⟨1, rfl, Or.inl ⟨rfl, Int32.not_lt.mp c1, Int32.not_le.mp c2⟩, ht⟩) t_nil dXM_isKey_16
set_option maxHeartbeats 4000000 in
set_option maxRecDepth 100000 in
/-- the reference: made(v, w, k) -/
theorem c_M_made (l : Launch) (g : mt_G) (am av ab : Nat) (cn : Nat) (th : Int32) (fv fb : Nat → Int32) (Z : va_W) (hcn : cn ≤ 600) (hfb : ∀ j, fb j = 0 ∨ fb j = 1) (hc6 : cn < 600) (jv jw kk : Nat) (hjv : jv < cn) (hjw : jw < cn) (hkk : kk ≤ 256) : Met l yXM_made wsXM_made ({ frames := 0, cells := 0, slots := 0, locals := 0 }) (mt_Pc g (mt_MW g am av ab (nI cn) th fv fb Z) [.ref am, .int (nI jv), .int (nI jw), .int (nI kk)]) (va_Qi (fun r (q : (Nat → Int32) × (Nat → Int32)) => r = nI cn ∧ mt_new fv fb q.1 q.2 cn (fun i => (fv (256 * (if i < kk then jv else jw) + i), fb (256 * (if i < kk then jv else jw) + i)))) (fun q t => mt_B g (mt_MW g am av ab (nI (cn + 1)) th q.1 q.2 Z) t) (mt_A g)) (0) (0) (mt_A g) := by
  refine Met.ofW (cc := cXM_made) (maxL := 7) (ret := (some .int)) (by decide) rfl ?_
  intro p e s m args below meth c s₁ B hml hv
  obtain ⟨rfl, hE, hz, hP, hD⟩ := hv
  have hx := B.exec
  have hb := B.bytes
  have hr := B.returns
  have hts := atoms_spec (ws := wsXM_made) B.pre
  have hown : s.vm.findClass RXM = some m.cls := findClass_of_methodNamed B.named
  have hlocks := B.notSynchronized
  have hK := hE.k
  have hA : ∀ q : Nat, s.heap.size ≤ q → mt_A g q := fun q h => Nat.le_trans hz h
  have hS : va_S (mt_A g) s.heap s.heap [] := va_S.rf
  have hl := lv_entry ([.ref am, .int (nI jv), .int (nI jw), .int (nI kk)]) (n := 7) (Nat.le_of_ble_eq_true rfl)
  rw [lg_entry_eq]
  generalize (lg_sl ([.ref am, .int (nI jv), .int (nI jw), .int (nI kk)]) ++ List.replicate (7 - (lg_sl ([.ref am, .int (nI jv), .int (nI jw), .int (nI kk)])).length) Slot.unset).toArray = ls at hl ⊢
  have hl : lv_has ls 7 [(0, .ref am), (1, .int (nI jv)), (2, .int (nI jw)), (3, .int (nI kk))] := hl
  have hH : s.heap = s.heap := rfl
  refine lv_sipush (v := (nI 256)) hx hb dXM_made_0 (by decide +kernel) ?_
  refine lv_aload_n hx hb dXM_made_3 rfl (lv_at hl 0 rfl) ?_
  refine va_get (D := g.1) (ci := 2) (v := .int (nI cn)) (C := RXM) (T := TXM) (N := 4) hx hb hts (fun w h => List.mem_cons_of_mem _ (in_XM w h)) hown hK hP 0 rfl rfl 2 (by decide) (hts _ (List.mem_cons_of_mem _ mw_388)) (fun _ h9 => h9) rfl dXM_made_4 ?_
  refine lv_imul hx hb dXM_made_7 ?_
  refine qa_i (y := (nI (256 * cn))) (pk_mul 256 cn) ?_
  refine lv_istore (i := 4) (lv' := [(4, .int (nI (256 * cn))), (0, .ref am), (1, .int (nI jv)), (2, .int (nI jw)), (3, .int (nI kk))]) hx hb dXM_made_8 hl (by decide) rfl (fun ls hl => ?_)
  refine lv_iconst (v := 0) hx hb dXM_made_10 (by decide +kernel) ?_
  refine lv_istore (i := 5) (lv' := [(5, .int 0), (4, .int (nI (256 * cn))), (0, .ref am), (1, .int (nI jv)), (2, .int (nI jw)), (3, .int (nI kk))]) hx hb dXM_made_11 hl (by decide) rfl (fun ls hl => ?_)
  refine qa_forH (V := Nat × (Nat → Int32) × (Nat → Int32)) (fun v => 256 - v.1) (fun v => [(5, .int (nI v.1)), (4, .int (nI (256 * cn))), (0, .ref am), (1, .int (nI jv)), (2, .int (nI jw)), (3, .int (nI kk))]) (fun v H locs => v.1 ≤ 256 ∧ va_P g.1 vwCl (mt_MW g am av ab (nI cn) th v.2.1 v.2.2 Z) H ∧ va_D (mt_A g) (mt_MW g am av ab (nI cn) th v.2.1 v.2.2 Z) ∧ va_S (mt_A g) s.heap H locs ∧ (∀ i, i < v.1 → v.2.1 (256 * cn + i) = fv (256 * (if i < kk then jv else jw) + i) ∧ v.2.2 (256 * cn + i) = fb (256 * (if i < kk then jv else jw) + i)) ∧ (∀ i, i < 256 * cn → v.2.1 i = fv i ∧ v.2.2 i = fb i) ∧ (∀ i, v.2.2 i = 0 ∨ v.2.2 i = 1)) (fun _ => 0) (fun _ => 0) ?_ (0, fv, fb) ls s.heap [] ⟨Nat.zero_le _, hP, hD, hS, fun i h9 => absurd h9 (Nat.not_lt_zero i), fun _ _ => ⟨rfl, rfl⟩, hfb⟩ hl
  clear hP hD hS hl
  intro v ls H locs hi hl ih
  obtain ⟨i, f, h⟩ := v
  obtain ⟨hi6, hP, hD, hS, hn1, hn2, hn3⟩ := hi
  dsimp only at hi6 hP hD hS hn1 hn2 hn3 hl ih ⊢
  refine lv_iload hx hb dXM_made_13 (lv_at hl 0 rfl) ?_
  refine lv_sipush (v := (nI 256)) hx hb dXM_made_15 (by decide +kernel) ?_
  by_cases hlt : i < 256
  · refine lv_icmp_ge (tgt := 81) hx hb dXM_made_18 (by decide) (fun z => absurd z (nI_ge hlt (by omega))) (fun _ => ?_)
    refine lv_sipush (v := (nI 256)) hx hb dXM_made_21 (by decide +kernel) ?_
    refine lv_iload hx hb dXM_made_24 (lv_at hl 0 rfl) ?_
    refine lv_iload_n hx hb dXM_made_26 rfl (lv_at hl 5 rfl) ?_
    have hsrc : (if i < kk then jv else jw) < cn := by split <;> assumption
    by_cases hik : i < kk
    · rw [if_pos hik] at hsrc
      refine lv_icmp_ge (tgt := 34) hx hb dXM_made_27 (by decide) (fun z => absurd z (nI_ge hik (by omega))) (fun _ => ?_)
      refine lv_iload_n hx hb dXM_made_30 rfl (lv_at hl 3 rfl) ?_
      refine lv_goto (tgt := 35) hx hb dXM_made_31 (by decide) ?_
      refine lv_imul hx hb dXM_made_35 ?_
      refine qa_i (y := (nI (256 * jv))) (pk_mul 256 jv) ?_
      refine lv_iload hx hb dXM_made_36 (lv_at hl 0 rfl) ?_
      refine lv_iadd hx hb dXM_made_38 ?_
      refine qa_i (y := (nI (256 * jv + i))) (nI_add (256 * jv) i) ?_
      refine lv_istore (i := 6) (lv' := [(6, .int (nI (256 * jv + i))), (5, .int (nI i)), (4, .int (nI (256 * cn))), (0, .ref am), (1, .int (nI jv)), (2, .int (nI jw)), (3, .int (nI kk))]) hx hb dXM_made_39 hl (by decide) rfl (fun ls hl => ?_)
      refine lv_aload_n hx hb dXM_made_41 rfl (lv_at hl 3 rfl) ?_
      refine va_get (D := g.1) (ci := 2) (v := .ref av) (C := RXM) (T := TXM) (N := 4) hx hb hts (fun w h => List.mem_cons_of_mem _ (in_XM w h)) hown hK hP 0 rfl rfl 0 (by decide) (hts _ (List.mem_cons_of_mem _ mw_386)) (fun _ h9 => h9) rfl dXM_made_42 ?_
      refine lv_iload hx hb dXM_made_45 (lv_at hl 2 rfl) ?_
      refine lv_iload hx hb dXM_made_47 (lv_at hl 1 rfl) ?_
      refine lv_iadd hx hb dXM_made_49 ?_
      refine qa_i (y := (nI (256 * cn + i))) (nI_add (256 * cn) i) ?_
      refine lv_aload_n hx hb dXM_made_50 rfl (lv_at hl 3 rfl) ?_
      refine va_get (D := g.1) (ci := 2) (v := .ref av) (C := RXM) (T := TXM) (N := 4) hx hb hts (fun w h => List.mem_cons_of_mem _ (in_XM w h)) hown hK hP 0 rfl rfl 0 (by decide) (hts _ (List.mem_cons_of_mem _ mw_386)) (fun _ h9 => h9) rfl dXM_made_51 ?_
      refine lv_iload hx hb dXM_made_54 (lv_at hl 0 rfl) ?_
      refine va_iald (D := g.1) (cl := vwCl) hx hb hK hP 1 2 rfl rfl (vp_in_nI (n := 256 * jv + i) (by omega) (by decide)) dXM_made_56 ?_
      refine qa_i (y := (f (256 * jv + i))) (by rw [nI_clamp (by omega)]) ?_
      refine va_iast (D := g.1) (cl := vwCl) hx hb hK hP hD hS 1 2 rfl rfl (vp_in_nI (n := 256 * cn + i) (by omega) (by decide)) dXM_made_57 (fun H locs hP hD hS => ?_)
      rw [nI_clamp (by omega)] at hP hD
      have hP : va_P g.1 vwCl (mt_MW g am av ab (nI cn) th (upd f (256 * cn + i) (f (256 * jv + i))) h Z) H := hP
      have hD : va_D (mt_A g) (mt_MW g am av ab (nI cn) th (upd f (256 * cn + i) (f (256 * jv + i))) h Z) := hD
      refine lv_aload_n hx hb dXM_made_58 rfl (lv_at hl 3 rfl) ?_
      refine va_get (D := g.1) (ci := 2) (v := .ref ab) (C := RXM) (T := TXM) (N := 4) hx hb hts (fun w h => List.mem_cons_of_mem _ (in_XM w h)) hown hK hP 0 rfl rfl 1 (by decide) (hts _ (List.mem_cons_of_mem _ mw_387)) (fun _ h9 => h9) rfl dXM_made_59 ?_
      refine lv_iload hx hb dXM_made_62 (lv_at hl 2 rfl) ?_
      refine lv_iload hx hb dXM_made_64 (lv_at hl 1 rfl) ?_
      refine lv_iadd hx hb dXM_made_66 ?_
      refine qa_i (y := (nI (256 * cn + i))) (nI_add (256 * cn) i) ?_
      refine lv_aload_n hx hb dXM_made_67 rfl (lv_at hl 3 rfl) ?_
      refine va_get (D := g.1) (ci := 2) (v := .ref ab) (C := RXM) (T := TXM) (N := 4) hx hb hts (fun w h => List.mem_cons_of_mem _ (in_XM w h)) hown hK hP 0 rfl rfl 1 (by decide) (hts _ (List.mem_cons_of_mem _ mw_387)) (fun _ h9 => h9) rfl dXM_made_68 ?_
      refine lv_iload hx hb dXM_made_71 (lv_at hl 0 rfl) ?_
      refine va_zald (D := g.1) (cl := vwCl) hx hb hK hP 2 3 rfl rfl (vp_in_nI (n := 256 * jv + i) (by omega) (by decide)) dXM_made_73 ?_
      refine qa_i (y := (h (256 * jv + i))) (by rw [nI_clamp (by omega)]) ?_
      refine va_zast (D := g.1) (cl := vwCl) hx hb hK hP hD hS 2 3 rfl rfl (vp_in_nI (n := 256 * cn + i) (by omega) (by decide)) dXM_made_74 (fun H locs hP hD hS => ?_)
      rw [nI_clamp (by omega), mt_nar01 (hn3 _)] at hP hD
      have hP : va_P g.1 vwCl (mt_MW g am av ab (nI cn) th (upd f (256 * cn + i) (f (256 * jv + i))) (upd h (256 * cn + i) (h (256 * jv + i))) Z) H := hP
      have hD : va_D (mt_A g) (mt_MW g am av ab (nI cn) th (upd f (256 * cn + i) (f (256 * jv + i))) (upd h (256 * cn + i) (h (256 * jv + i))) Z) := hD
      refine lv_iinc (k := 1) (v := (nI (i + 1))) (lv' := [(5, .int (nI (i + 1))), (6, .int (nI (256 * jv + i))), (4, .int (nI (256 * cn))), (0, .ref am), (1, .int (nI jv)), (2, .int (nI jw)), (3, .int (nI kk))]) hx hb dXM_made_75 hl rfl (nI_1 i) (by decide) rfl (fun ls hl => ?_)
      refine lv_goto (tgt := 13) hx hb dXM_made_78 (by decide) ?_
      have hl := lv_sub (l' := [(5, .int (nI (i + 1))), (4, .int (nI (256 * cn))), (0, .ref am), (1, .int (nI jv)), (2, .int (nI jw)), (3, .int (nI kk))]) hl [0, 2, 3, 4, 5, 6] rfl
      refine ih (i + 1, (upd f (256 * cn + i) (f (256 * jv + i))), (upd h (256 * cn + i) (h (256 * jv + i)))) ls H locs (by show 256 - (i + 1) < 256 - i; omega) ⟨hlt, hP, hD, hS, fun q hq => ?_, fun q hq => ?_, fun q => ?_⟩ hl
      · dsimp only
        by_cases e9 : q = i
        · subst e9; rw [pk_us, pk_us, if_pos hik]; exact hn2 _ (by omega)
        · rw [pk_un (by omega), pk_un (by omega)]; exact hn1 q (by have : q < i + 1 := hq; omega)
      · dsimp only; have hq2 : q < 256 * cn := hq; rw [pk_un (by omega), pk_un (by omega)]; exact hn2 q hq2
      · dsimp only; by_cases e9 : q = 256 * cn + i
        · subst e9; rw [pk_us]; exact hn3 _
        · rw [pk_un e9]; exact hn3 q
    · rw [if_neg hik] at hsrc
      refine lv_icmp_ge (tgt := 34) hx hb dXM_made_27 (by decide) (fun _ => ?_) (fun z => absurd (nI_le (a := kk) (b := i) (by omega) (by omega)) z)
      refine lv_iload_n hx hb dXM_made_34 rfl (lv_at hl 4 rfl) ?_
      refine lv_imul hx hb dXM_made_35 ?_
      refine qa_i (y := (nI (256 * jw))) (pk_mul 256 jw) ?_
      refine lv_iload hx hb dXM_made_36 (lv_at hl 0 rfl) ?_
      refine lv_iadd hx hb dXM_made_38 ?_
      refine qa_i (y := (nI (256 * jw + i))) (nI_add (256 * jw) i) ?_
      refine lv_istore (i := 6) (lv' := [(6, .int (nI (256 * jw + i))), (5, .int (nI i)), (4, .int (nI (256 * cn))), (0, .ref am), (1, .int (nI jv)), (2, .int (nI jw)), (3, .int (nI kk))]) hx hb dXM_made_39 hl (by decide) rfl (fun ls hl => ?_)
      refine lv_aload_n hx hb dXM_made_41 rfl (lv_at hl 3 rfl) ?_
      refine va_get (D := g.1) (ci := 2) (v := .ref av) (C := RXM) (T := TXM) (N := 4) hx hb hts (fun w h => List.mem_cons_of_mem _ (in_XM w h)) hown hK hP 0 rfl rfl 0 (by decide) (hts _ (List.mem_cons_of_mem _ mw_386)) (fun _ h9 => h9) rfl dXM_made_42 ?_
      refine lv_iload hx hb dXM_made_45 (lv_at hl 2 rfl) ?_
      refine lv_iload hx hb dXM_made_47 (lv_at hl 1 rfl) ?_
      refine lv_iadd hx hb dXM_made_49 ?_
      refine qa_i (y := (nI (256 * cn + i))) (nI_add (256 * cn) i) ?_
      refine lv_aload_n hx hb dXM_made_50 rfl (lv_at hl 3 rfl) ?_
      refine va_get (D := g.1) (ci := 2) (v := .ref av) (C := RXM) (T := TXM) (N := 4) hx hb hts (fun w h => List.mem_cons_of_mem _ (in_XM w h)) hown hK hP 0 rfl rfl 0 (by decide) (hts _ (List.mem_cons_of_mem _ mw_386)) (fun _ h9 => h9) rfl dXM_made_51 ?_
      refine lv_iload hx hb dXM_made_54 (lv_at hl 0 rfl) ?_
      refine va_iald (D := g.1) (cl := vwCl) hx hb hK hP 1 2 rfl rfl (vp_in_nI (n := 256 * jw + i) (by omega) (by decide)) dXM_made_56 ?_
      refine qa_i (y := (f (256 * jw + i))) (by rw [nI_clamp (by omega)]) ?_
      refine va_iast (D := g.1) (cl := vwCl) hx hb hK hP hD hS 1 2 rfl rfl (vp_in_nI (n := 256 * cn + i) (by omega) (by decide)) dXM_made_57 (fun H locs hP hD hS => ?_)
      rw [nI_clamp (by omega)] at hP hD
      have hP : va_P g.1 vwCl (mt_MW g am av ab (nI cn) th (upd f (256 * cn + i) (f (256 * jw + i))) h Z) H := hP
      have hD : va_D (mt_A g) (mt_MW g am av ab (nI cn) th (upd f (256 * cn + i) (f (256 * jw + i))) h Z) := hD
      refine lv_aload_n hx hb dXM_made_58 rfl (lv_at hl 3 rfl) ?_
      refine va_get (D := g.1) (ci := 2) (v := .ref ab) (C := RXM) (T := TXM) (N := 4) hx hb hts (fun w h => List.mem_cons_of_mem _ (in_XM w h)) hown hK hP 0 rfl rfl 1 (by decide) (hts _ (List.mem_cons_of_mem _ mw_387)) (fun _ h9 => h9) rfl dXM_made_59 ?_
      refine lv_iload hx hb dXM_made_62 (lv_at hl 2 rfl) ?_
      refine lv_iload hx hb dXM_made_64 (lv_at hl 1 rfl) ?_
      refine lv_iadd hx hb dXM_made_66 ?_
      refine qa_i (y := (nI (256 * cn + i))) (nI_add (256 * cn) i) ?_
      refine lv_aload_n hx hb dXM_made_67 rfl (lv_at hl 3 rfl) ?_
      refine va_get (D := g.1) (ci := 2) (v := .ref ab) (C := RXM) (T := TXM) (N := 4) hx hb hts (fun w h => List.mem_cons_of_mem _ (in_XM w h)) hown hK hP 0 rfl rfl 1 (by decide) (hts _ (List.mem_cons_of_mem _ mw_387)) (fun _ h9 => h9) rfl dXM_made_68 ?_
      refine lv_iload hx hb dXM_made_71 (lv_at hl 0 rfl) ?_
      refine va_zald (D := g.1) (cl := vwCl) hx hb hK hP 2 3 rfl rfl (vp_in_nI (n := 256 * jw + i) (by omega) (by decide)) dXM_made_73 ?_
      refine qa_i (y := (h (256 * jw + i))) (by rw [nI_clamp (by omega)]) ?_
      refine va_zast (D := g.1) (cl := vwCl) hx hb hK hP hD hS 2 3 rfl rfl (vp_in_nI (n := 256 * cn + i) (by omega) (by decide)) dXM_made_74 (fun H locs hP hD hS => ?_)
      rw [nI_clamp (by omega), mt_nar01 (hn3 _)] at hP hD
      have hP : va_P g.1 vwCl (mt_MW g am av ab (nI cn) th (upd f (256 * cn + i) (f (256 * jw + i))) (upd h (256 * cn + i) (h (256 * jw + i))) Z) H := hP
      have hD : va_D (mt_A g) (mt_MW g am av ab (nI cn) th (upd f (256 * cn + i) (f (256 * jw + i))) (upd h (256 * cn + i) (h (256 * jw + i))) Z) := hD
      refine lv_iinc (k := 1) (v := (nI (i + 1))) (lv' := [(5, .int (nI (i + 1))), (6, .int (nI (256 * jw + i))), (4, .int (nI (256 * cn))), (0, .ref am), (1, .int (nI jv)), (2, .int (nI jw)), (3, .int (nI kk))]) hx hb dXM_made_75 hl rfl (nI_1 i) (by decide) rfl (fun ls hl => ?_)
      refine lv_goto (tgt := 13) hx hb dXM_made_78 (by decide) ?_
      have hl := lv_sub (l' := [(5, .int (nI (i + 1))), (4, .int (nI (256 * cn))), (0, .ref am), (1, .int (nI jv)), (2, .int (nI jw)), (3, .int (nI kk))]) hl [0, 2, 3, 4, 5, 6] rfl
      refine ih (i + 1, (upd f (256 * cn + i) (f (256 * jw + i))), (upd h (256 * cn + i) (h (256 * jw + i)))) ls H locs (by show 256 - (i + 1) < 256 - i; omega) ⟨hlt, hP, hD, hS, fun q hq => ?_, fun q hq => ?_, fun q => ?_⟩ hl
      · dsimp only
        by_cases e9 : q = i
        · subst e9; rw [pk_us, pk_us, if_neg hik]; exact hn2 _ (by omega)
        · rw [pk_un (by omega), pk_un (by omega)]; exact hn1 q (by have : q < i + 1 := hq; omega)
      · dsimp only; have hq2 : q < 256 * cn := hq; rw [pk_un (by omega), pk_un (by omega)]; exact hn2 q hq2
      · dsimp only; by_cases e9 : q = 256 * cn + i
        · subst e9; rw [pk_us]; exact hn3 _
        · rw [pk_un e9]; exact hn3 q
  · refine lv_icmp_ge (tgt := 81) hx hb dXM_made_18 (by decide) (fun _ => ?_) (fun z => absurd (nI_le (a := 256) (b := i) (by omega) (by omega)) z)
    have ei : i = 256 := by omega
    subst ei
    refine lv_aload_n hx hb dXM_made_81 rfl (lv_at hl 2 rfl) ?_
    refine lv_dup hx hb dXM_made_82 rfl ?_
    refine va_get (D := g.1) (ci := 2) (v := .int (nI cn)) (C := RXM) (T := TXM) (N := 4) hx hb hts (fun w h => List.mem_cons_of_mem _ (in_XM w h)) hown hK hP 0 rfl rfl 2 (by decide) (hts _ (List.mem_cons_of_mem _ mw_388)) (fun _ h9 => h9) rfl dXM_made_83 ?_
    refine lv_iconst (v := 1) hx hb dXM_made_86 (by decide +kernel) ?_
    refine lv_iadd hx hb dXM_made_87 ?_
    refine qa_i (y := (nI (cn + 1))) (nI_1 cn) ?_
    refine va_put (D := g.1) (ci := 2) (v := .int (nI (cn + 1))) (ty := .int) (C := RXM) (T := TXM) (N := 4) hx hb hts (fun w h => List.mem_cons_of_mem _ (in_XM w h)) tyXM tyXM_ok nmXM hown hK hP hD hS 0 rfl rfl 2 (by decide) (hts _ (List.mem_cons_of_mem _ mw_388)) (fun _ h9 => h9) rfl (by decide +kernel) rfl rfl (Nat.le_of_ble_eq_true rfl) dXM_made_88 (fun H locs hP hD hS => ?_)
    have hP : va_P g.1 vwCl (mt_MW g am av ab (nI (cn + 1)) th f h Z) H := hP
    have hD : va_D (mt_A g) (mt_MW g am av ab (nI (cn + 1)) th f h Z) := hD
    refine lv_aload_n hx hb dXM_made_91 rfl (lv_at hl 2 rfl) ?_
    refine va_get (D := g.1) (ci := 2) (v := .int (nI (cn + 1))) (C := RXM) (T := TXM) (N := 4) hx hb hts (fun w h => List.mem_cons_of_mem _ (in_XM w h)) hown hK hP 0 rfl rfl 2 (by decide) (hts _ (List.mem_cons_of_mem _ mw_388)) (fun _ h9 => h9) rfl dXM_made_92 ?_
    refine lv_iconst (v := 1) hx hb dXM_made_95 (by decide +kernel) ?_
    refine lv_isub hx hb dXM_made_96 ?_
    refine qa_i (y := (nI cn)) (nI_pred cn) ?_
    exact W.iret (v := (nI cn)) hx hb hr (fun t9 ht hW => ⟨⟨(nI cn), (f, h), rfl, ⟨rfl, hn1, hn2, hn3⟩, by rw [ht]; exact hP, hD⟩, hS.F ht⟩) hS.2.2 dXM_made_97
end
section
set_option maxHeartbeats 4000000 in
set_option maxRecDepth 100000 in
/-- the reference: put -/
theorem c_M_put (l : Launch) (g : mt_G) (am av ab : Nat) (cn : Nat) (th : Int32) (fv fb : Nat → Int32) (Z : va_W) (hcn : cn ≤ 600) (hfb : ∀ j, fb j = 0 ∨ fb j = 1) (v k x : Int32) : Met l yXM_put wsXM_put ({ frames := 1, cells := 0, slots := 0, locals := 60 }) (mt_Pc g (mt_MW g am av ab (nI cn) th fv fb Z) [.ref am, .int v, .int k, .int x]) (va_Qi (fun r q => (¬ (mt_ver v cn ∧ mt_key k) ∧ q = (cn, 1, fv, fb)) ∨ ((mt_ver v cn ∧ mt_key k) ∧ cn = 600 ∧ q = (cn, 2, fv, fb)) ∨ ∃ j i, j < cn ∧ i < 256 ∧ v = nI j ∧ k = nI i ∧ cn < 600 ∧ r = nI cn ∧ ∃ f h, q = (cn + 1, 0, f, h) ∧ mt_new fv fb f h cn (fun y => if y = i then (x, 1) else (fv (256 * j + y), fb (256 * j + y)))) (fun (q : Nat × Int32 × (Nat → Int32) × (Nat → Int32)) t => mt_B g (mt_MW g am av ab (nI q.1) q.2.1 q.2.2.1 q.2.2.2 Z) t) (mt_A g)) (0) (0) (mt_A g) := by
  refine Met.ofW (cc := cXM_put) (maxL := 5) (ret := (some .int)) (by decide) rfl ?_
  intro p e s m args below meth c s₁ B hml hv
  obtain ⟨rfl, hE, hz, hP, hD⟩ := hv
  have hx := B.exec
  have hb := B.bytes
  have hr := B.returns
  have hts := atoms_spec (ws := wsXM_put) B.pre
  have hown : s.vm.findClass RXM = some m.cls := findClass_of_methodNamed B.named
  have hlocks := B.notSynchronized
  have hK := hE.k
  have hA : ∀ q : Nat, s.heap.size ≤ q → mt_A g q := fun q h => Nat.le_trans hz h
  have hS : va_S (mt_A g) s.heap s.heap [] := va_S.rf
  have hl := lv_entry ([.ref am, .int v, .int k, .int x]) (n := 5) (Nat.le_of_ble_eq_true rfl)
  rw [lg_entry_eq]
  generalize (lg_sl ([.ref am, .int v, .int k, .int x]) ++ List.replicate (5 - (lg_sl ([.ref am, .int v, .int k, .int x])).length) Slot.unset).toArray = ls at hl ⊢
  have hl : lv_has ls 5 [(0, .ref am), (1, .int v), (2, .int k), (3, .int x)] := hl
  have hH : s.heap = s.heap := rfl
  refine lv_aload_n hx hb dXM_put_0 rfl (lv_at hl 0 rfl) ?_
  refine lv_aload_n hx hb dXM_put_1 rfl (lv_at hl 0 rfl) ?_
  refine lv_iload_n hx hb dXM_put_2 rfl (lv_at hl 1 rfl) ?_
  refine vp_callSi (W.runV (As := [.int v]) (rest := [.ref am]) ⟨hx, hb, hml, hown, hts⟩ (c_M_isOne l g am av ab cn th fv fb Z hcn v) (cwV 1 hts (mt_giV mw_409 mw_410 mw_471 mw_5 (mt_gi mw_411)) rfl rfl rfl (by decide +kernel) ⟨by decide, by decide⟩) (mt_preV hE hz hS hP hD (va_recv hK hP (q := (RXM, TXM, 4)) (q0 := 0) rfl rfl)) rfl rfl hl.1 rfl (lv_room (Nat.le_of_ble_eq_true rfl)) dXM_put_3 ⟨Nat.zero_le _, Nat.zero_le _⟩) (fun z1 e1 => ?_)
  rcases e1 with ⟨rfl, hver⟩ | ⟨rfl, hver⟩
  · refine lv_if_eq (tgt := 16) hx hb dXM_put_6 (by decide) (fun z => absurd z (show ¬ (1 : Int32) = 0 by decide)) (fun _ => ?_)
    refine lv_iload_n hx hb dXM_put_9 rfl (lv_at hl 2 rfl) ?_
    refine vp_callSi (W.runS (As := [.int k]) (rest := [.ref am]) ⟨hx, hb, hml, hown, hts⟩ (c_M_isKey l g _ k) (va_cwS 1 hts (mt_giS mw_412 mw_413 mw_5 (mt_gi mw_414)) rfl rfl rfl (by decide +kernel) ⟨by decide, by decide⟩) (mt_preS hE hz hS hP hD) rfl rfl hl.1 rfl (lv_room (Nat.le_of_ble_eq_true rfl)) dXM_put_10 ⟨Nat.zero_le _, Nat.zero_le _⟩) (fun z2 e2 => ?_)
    rcases e2 with ⟨rfl, hkey⟩ | ⟨rfl, hkey⟩
    · refine lv_if_ne (tgt := 20) hx hb dXM_put_13 (by decide) (fun _ => ?_) (fun z => absurd z (show ¬ (1 : Int32) = 0 by decide))
      obtain ⟨j, hj, rfl⟩ := mt_ver_nat hcn hver
      obtain ⟨i, hi, rfl⟩ := mt_key_nat hkey
      refine lv_aload_n hx hb dXM_put_20 rfl (lv_at hl 0 rfl) ?_
      refine va_get (D := g.1) (ci := 2) (v := .int (nI cn)) (C := RXM) (T := TXM) (N := 4) hx hb hts (fun w h => List.mem_cons_of_mem _ (in_XM w h)) hown hK hP 0 rfl rfl 2 (by decide) (hts _ (List.mem_cons_of_mem _ mw_388)) (fun _ h9 => h9) rfl dXM_put_21 ?_
      refine lv_sipush (v := (nI 600)) hx hb dXM_put_24 (by decide +kernel) ?_
      by_cases hc6 : cn < 600
      · refine lv_icmp_ne (tgt := 34) hx hb dXM_put_27 (by decide) (fun _ => ?_) (fun z => absurd z (fun e9 => absurd ((nI_eq (by omega) (by omega)).mp e9) (by omega)))
        refine lv_iconst (v := 0) hx hb dXM_put_34 (by decide +kernel) ?_
        refine va_put (D := g.1) (ci := 2) (v := .int 0) (ty := .int) (C := RXM) (T := TXM) (N := 4) hx hb hts (fun w h => List.mem_cons_of_mem _ (in_XM w h)) tyXM tyXM_ok nmXM hown hK hP hD hS 0 rfl rfl 3 (by decide) (hts _ (List.mem_cons_of_mem _ mw_389)) (fun _ h9 => h9) rfl (by decide +kernel) rfl rfl (Nat.le_of_ble_eq_true rfl) dXM_put_35 (fun H locs hP hD hS => ?_)
        have hP : va_P g.1 vwCl (mt_MW g am av ab (nI cn) 0 fv fb Z) H := hP
        have hD : va_D (mt_A g) (mt_MW g am av ab (nI cn) 0 fv fb Z) := hD
        refine lv_aload_n hx hb dXM_put_38 rfl (lv_at hl 0 rfl) ?_
        refine va_get (D := g.1) (ci := 2) (v := .int 0) (C := RXM) (T := TXM) (N := 4) hx hb hts (fun w h => List.mem_cons_of_mem _ (in_XM w h)) hown hK hP 0 rfl rfl 3 (by decide) (hts _ (List.mem_cons_of_mem _ mw_389)) (fun _ h9 => h9) rfl dXM_put_39 ?_
        refine lv_if_le (tgt := 47) hx hb dXM_put_42 (by decide) (fun _ => ?_) (fun z => absurd (show (0 : Int32) ≤ 0 by decide) z)
        refine lv_aload_n hx hb dXM_put_47 rfl (lv_at hl 0 rfl) ?_
        refine lv_iload_n hx hb dXM_put_48 rfl (lv_at hl 1 rfl) ?_
        refine lv_iload_n hx hb dXM_put_49 rfl (lv_at hl 1 rfl) ?_
        refine lv_iconst (v := 0) hx hb dXM_put_50 (by decide +kernel) ?_
        refine va_calli (va_runV (As := [.int (nI j), .int (nI j), .int 0]) (rest := []) ⟨hx, hb, hml, hown, hts⟩ (c_M_made l g am av ab cn 0 fv fb Z hcn hfb hc6 j j 0 hj hj (Nat.zero_le _)) (cwV 3 hts (mt_giV mw_415 mw_416 mw_472 mw_5 (mt_gi mw_417)) rfl rfl rfl (by decide +kernel) ⟨by decide, by decide⟩) (mt_preV hE hz hS hP hD (va_recv hK hP (q := (RXM, TXM, 4)) (q0 := 0) rfl rfl)) rfl rfl hl.1 rfl (lv_room (Nat.le_of_ble_eq_true rfl)) dXM_put_51 ⟨Nat.zero_le _, Nat.zero_le _⟩) hS (fun _ _ h => h) (fun _ h => h) (fun r1 u1 t1 H locs ht1 hvm1 hpo1 hB1 hz1 hk1 hS => ?_)
        obtain ⟨f, h⟩ := u1
        obtain ⟨rfl, hnew⟩ := hpo1
        obtain ⟨hP, hD⟩ := hB1
        rw [ht1] at hP
        dsimp only at hnew hP hD
        refine lv_istore (i := 4) (lv' := [(4, .int (nI cn)), (0, .ref am), (1, .int (nI j)), (2, .int (nI i)), (3, .int x)]) hx hb dXM_put_54 hl (by decide) rfl (fun ls hl => ?_)
        refine lv_aload_n hx hb dXM_put_56 rfl (lv_at hl 1 rfl) ?_
        refine va_get (D := g.1) (ci := 2) (v := .ref av) (C := RXM) (T := TXM) (N := 4) hx hb hts (fun w h => List.mem_cons_of_mem _ (in_XM w h)) hown hK hP 0 rfl rfl 0 (by decide) (hts _ (List.mem_cons_of_mem _ mw_386)) (fun _ h9 => h9) rfl dXM_put_57 ?_
        refine lv_sipush (v := (nI 256)) hx hb dXM_put_60 (by decide +kernel) ?_
        refine lv_iload hx hb dXM_put_63 (lv_at hl 0 rfl) ?_
        refine lv_imul hx hb dXM_put_65 ?_
        refine qa_i (y := (nI (256 * cn))) (pk_mul 256 cn) ?_
        refine lv_iload_n hx hb dXM_put_66 rfl (lv_at hl 3 rfl) ?_
        refine lv_iadd hx hb dXM_put_67 ?_
        refine qa_i (y := (nI (256 * cn + i))) (nI_add (256 * cn) i) ?_
        refine lv_iload_n hx hb dXM_put_68 rfl (lv_at hl 4 rfl) ?_
        refine va_iast (D := g.1) (cl := vwCl) hx hb hK hP hD hS 1 2 rfl rfl (vp_in_nI (n := 256 * cn + i) (by omega) (by decide)) dXM_put_69 (fun H locs hP hD hS => ?_)
        rw [nI_clamp (by omega)] at hP hD
        have hP : va_P g.1 vwCl (mt_MW g am av ab (nI (cn + 1)) 0 (upd f (256 * cn + i) x) h Z) H := hP
        have hD : va_D (mt_A g) (mt_MW g am av ab (nI (cn + 1)) 0 (upd f (256 * cn + i) x) h Z) := hD
        refine lv_aload_n hx hb dXM_put_70 rfl (lv_at hl 1 rfl) ?_
        refine va_get (D := g.1) (ci := 2) (v := .ref ab) (C := RXM) (T := TXM) (N := 4) hx hb hts (fun w h => List.mem_cons_of_mem _ (in_XM w h)) hown hK hP 0 rfl rfl 1 (by decide) (hts _ (List.mem_cons_of_mem _ mw_387)) (fun _ h9 => h9) rfl dXM_put_71 ?_
        refine lv_sipush (v := (nI 256)) hx hb dXM_put_74 (by decide +kernel) ?_
        refine lv_iload hx hb dXM_put_77 (lv_at hl 0 rfl) ?_
        refine lv_imul hx hb dXM_put_79 ?_
        refine qa_i (y := (nI (256 * cn))) (pk_mul 256 cn) ?_
        refine lv_iload_n hx hb dXM_put_80 rfl (lv_at hl 3 rfl) ?_
        refine lv_iadd hx hb dXM_put_81 ?_
        refine qa_i (y := (nI (256 * cn + i))) (nI_add (256 * cn) i) ?_
        refine lv_iconst (v := 1) hx hb dXM_put_82 (by decide +kernel) ?_
        refine va_zast (D := g.1) (cl := vwCl) hx hb hK hP hD hS 2 3 rfl rfl (vp_in_nI (n := 256 * cn + i) (by omega) (by decide)) dXM_put_83 (fun H locs hP hD hS => ?_)
        rw [nI_clamp (by omega), (by decide : vp_nar .boolean 1 = 1)] at hP hD
        have hP : va_P g.1 vwCl (mt_MW g am av ab (nI (cn + 1)) 0 (upd f (256 * cn + i) x) (upd h (256 * cn + i) 1) Z) H := hP
        have hD : va_D (mt_A g) (mt_MW g am av ab (nI (cn + 1)) 0 (upd f (256 * cn + i) x) (upd h (256 * cn + i) 1) Z) := hD
        refine lv_iload hx hb dXM_put_84 (lv_at hl 0 rfl) ?_
        simp only [ite_self] at hnew
        obtain ⟨hw1, hw2, hw3⟩ := hnew
        exact W.iret (v := (nI cn)) hx hb hr (fun t9 ht hW => ⟨⟨(nI cn), (cn + 1, 0, (upd f (256 * cn + i) x), (upd h (256 * cn + i) 1)), rfl, Or.inr (Or.inr ⟨j, i, hj, hi, rfl, rfl, hc6, rfl, (upd f (256 * cn + i) x), (upd h (256 * cn + i) 1), rfl, mt_new_put (Or.inr rfl) ⟨hw1, hw2, hw3⟩ hi⟩), by rw [ht]; exact hP, hD⟩, hS.F ht⟩) hS.2.2 dXM_put_86
      · refine lv_icmp_ne (tgt := 34) hx hb dXM_put_27 (by decide) (fun z => absurd (by rw [show cn = 600 by omega]) z) (fun _ => ?_)
        refine lv_iconst (v := (nI 2)) hx hb dXM_put_30 (by decide +kernel) ?_
        refine lv_goto (tgt := 35) hx hb dXM_put_31 (by decide) ?_
        refine va_put (D := g.1) (ci := 2) (v := .int (nI 2)) (ty := .int) (C := RXM) (T := TXM) (N := 4) hx hb hts (fun w h => List.mem_cons_of_mem _ (in_XM w h)) tyXM tyXM_ok nmXM hown hK hP hD hS 0 rfl rfl 3 (by decide) (hts _ (List.mem_cons_of_mem _ mw_389)) (fun _ h9 => h9) rfl (by decide +kernel) rfl rfl (Nat.le_of_ble_eq_true rfl) dXM_put_35 (fun H locs hP hD hS => ?_)
        have hP : va_P g.1 vwCl (mt_MW g am av ab (nI cn) (nI 2) fv fb Z) H := hP
        have hD : va_D (mt_A g) (mt_MW g am av ab (nI cn) (nI 2) fv fb Z) := hD
        refine lv_aload_n hx hb dXM_put_38 rfl (lv_at hl 0 rfl) ?_
        refine va_get (D := g.1) (ci := 2) (v := .int (nI 2)) (C := RXM) (T := TXM) (N := 4) hx hb hts (fun w h => List.mem_cons_of_mem _ (in_XM w h)) hown hK hP 0 rfl rfl 3 (by decide) (hts _ (List.mem_cons_of_mem _ mw_389)) (fun _ h9 => h9) rfl dXM_put_39 ?_
        refine lv_if_le (tgt := 47) hx hb dXM_put_42 (by decide) (fun z => absurd z (show ¬ (nI 2) ≤ 0 by decide)) (fun _ => ?_)
        refine lv_iconst (v := 0) hx hb dXM_put_45 (by decide +kernel) ?_
        exact W.iret (v := 0) hx hb hr (fun t9 ht hW => ⟨⟨0, (cn, 2, fv, fb), rfl, Or.inr (Or.inl ⟨⟨hver, hkey⟩, by omega, rfl⟩), by rw [ht]; exact hP, hD⟩, hS.F ht⟩) hS.2.2 dXM_put_46
    · refine lv_if_ne (tgt := 20) hx hb dXM_put_13 (by decide) (fun z => absurd rfl z) (fun _ => ?_)
      refine lv_iconst (v := 1) hx hb dXM_put_16 (by decide +kernel) ?_
      refine lv_goto (tgt := 35) hx hb dXM_put_17 (by decide) ?_
      refine va_put (D := g.1) (ci := 2) (v := .int 1) (ty := .int) (C := RXM) (T := TXM) (N := 4) hx hb hts (fun w h => List.mem_cons_of_mem _ (in_XM w h)) tyXM tyXM_ok nmXM hown hK hP hD hS 0 rfl rfl 3 (by decide) (hts _ (List.mem_cons_of_mem _ mw_389)) (fun _ h9 => h9) rfl (by decide +kernel) rfl rfl (Nat.le_of_ble_eq_true rfl) dXM_put_35 (fun H locs hP hD hS => ?_)
      have hP : va_P g.1 vwCl (mt_MW g am av ab (nI cn) 1 fv fb Z) H := hP
      have hD : va_D (mt_A g) (mt_MW g am av ab (nI cn) 1 fv fb Z) := hD
      refine lv_aload_n hx hb dXM_put_38 rfl (lv_at hl 0 rfl) ?_
      refine va_get (D := g.1) (ci := 2) (v := .int 1) (C := RXM) (T := TXM) (N := 4) hx hb hts (fun w h => List.mem_cons_of_mem _ (in_XM w h)) hown hK hP 0 rfl rfl 3 (by decide) (hts _ (List.mem_cons_of_mem _ mw_389)) (fun _ h9 => h9) rfl dXM_put_39 ?_
      refine lv_if_le (tgt := 47) hx hb dXM_put_42 (by decide) (fun z => absurd z (show ¬ (1 : Int32) ≤ 0 by decide)) (fun _ => ?_)
      refine lv_iconst (v := 0) hx hb dXM_put_45 (by decide +kernel) ?_
      exact W.iret (v := 0) hx hb hr (fun t9 ht hW => ⟨⟨0, (cn, 1, fv, fb), rfl, Or.inl ⟨fun h9 => hkey h9.2, rfl⟩, by rw [ht]; exact hP, hD⟩, hS.F ht⟩) hS.2.2 dXM_put_46
  · refine lv_if_eq (tgt := 16) hx hb dXM_put_6 (by decide) (fun _ => ?_) (fun z => absurd rfl z)
    refine lv_iconst (v := 1) hx hb dXM_put_16 (by decide +kernel) ?_
    refine lv_goto (tgt := 35) hx hb dXM_put_17 (by decide) ?_
    refine va_put (D := g.1) (ci := 2) (v := .int 1) (ty := .int) (C := RXM) (T := TXM) (N := 4) hx hb hts (fun w h => List.mem_cons_of_mem _ (in_XM w h)) tyXM tyXM_ok nmXM hown hK hP hD hS 0 rfl rfl 3 (by decide) (hts _ (List.mem_cons_of_mem _ mw_389)) (fun _ h9 => h9) rfl (by decide +kernel) rfl rfl (Nat.le_of_ble_eq_true rfl) dXM_put_35 (fun H locs hP hD hS => ?_)
    have hP : va_P g.1 vwCl (mt_MW g am av ab (nI cn) 1 fv fb Z) H := hP
    have hD : va_D (mt_A g) (mt_MW g am av ab (nI cn) 1 fv fb Z) := hD
    refine lv_aload_n hx hb dXM_put_38 rfl (lv_at hl 0 rfl) ?_
    refine va_get (D := g.1) (ci := 2) (v := .int 1) (C := RXM) (T := TXM) (N := 4) hx hb hts (fun w h => List.mem_cons_of_mem _ (in_XM w h)) hown hK hP 0 rfl rfl 3 (by decide) (hts _ (List.mem_cons_of_mem _ mw_389)) (fun _ h9 => h9) rfl dXM_put_39 ?_
    refine lv_if_le (tgt := 47) hx hb dXM_put_42 (by decide) (fun z => absurd z (show ¬ (1 : Int32) ≤ 0 by decide)) (fun _ => ?_)
    refine lv_iconst (v := 0) hx hb dXM_put_45 (by decide +kernel) ?_
    exact W.iret (v := 0) hx hb hr (fun t9 ht hW => ⟨⟨0, (cn, 1, fv, fb), rfl, Or.inl ⟨fun h9 => hver h9.1, rfl⟩, by rw [ht]; exact hP, hD⟩, hS.F ht⟩) hS.2.2 dXM_put_46
set_option maxHeartbeats 4000000 in
set_option maxRecDepth 100000 in
/-- the reference: remove -/
theorem c_M_remove (l : Launch) (g : mt_G) (am av ab : Nat) (cn : Nat) (th : Int32) (fv fb : Nat → Int32) (Z : va_W) (hcn : cn ≤ 600) (hfb : ∀ j, fb j = 0 ∨ fb j = 1) (v k : Int32) : Met l yXM_remove wsXM_remove ({ frames := 1, cells := 0, slots := 0, locals := 60 }) (mt_Pc g (mt_MW g am av ab (nI cn) th fv fb Z) [.ref am, .int v, .int k]) (va_Qi (fun r q => (¬ (mt_ver v cn ∧ mt_key k) ∧ q = (cn, 1, fv, fb)) ∨ ((mt_ver v cn ∧ mt_key k) ∧ cn = 600 ∧ q = (cn, 2, fv, fb)) ∨ ∃ j i, j < cn ∧ i < 256 ∧ v = nI j ∧ k = nI i ∧ cn < 600 ∧ ((fb (256 * j + i) = 0 ∧ q = (cn, 3, fv, fb)) ∨ (fb (256 * j + i) = 1 ∧ r = nI cn ∧ ∃ f h, q = (cn + 1, 0, f, h) ∧ mt_new fv fb f h cn (fun y => if y = i then (0, 0) else (fv (256 * j + y), fb (256 * j + y)))))) (fun (q : Nat × Int32 × (Nat → Int32) × (Nat → Int32)) t => mt_B g (mt_MW g am av ab (nI q.1) q.2.1 q.2.2.1 q.2.2.2 Z) t) (mt_A g)) (0) (0) (mt_A g) := by
  refine Met.ofW (cc := cXM_remove) (maxL := 4) (ret := (some .int)) (by decide) rfl ?_
  intro p e s m args below meth c s₁ B hml hv
  obtain ⟨rfl, hE, hz, hP, hD⟩ := hv
  have hx := B.exec
  have hb := B.bytes
  have hr := B.returns
  have hts := atoms_spec (ws := wsXM_remove) B.pre
  have hown : s.vm.findClass RXM = some m.cls := findClass_of_methodNamed B.named
  have hlocks := B.notSynchronized
  have hK := hE.k
  have hA : ∀ q : Nat, s.heap.size ≤ q → mt_A g q := fun q h => Nat.le_trans hz h
  have hS : va_S (mt_A g) s.heap s.heap [] := va_S.rf
  have hl := lv_entry ([.ref am, .int v, .int k]) (n := 4) (Nat.le_of_ble_eq_true rfl)
  rw [lg_entry_eq]
  generalize (lg_sl ([.ref am, .int v, .int k]) ++ List.replicate (4 - (lg_sl ([.ref am, .int v, .int k])).length) Slot.unset).toArray = ls at hl ⊢
  have hl : lv_has ls 4 [(0, .ref am), (1, .int v), (2, .int k)] := hl
  have hH : s.heap = s.heap := rfl
  refine lv_aload_n hx hb dXM_remove_0 rfl (lv_at hl 0 rfl) ?_
  refine lv_aload_n hx hb dXM_remove_1 rfl (lv_at hl 0 rfl) ?_
  refine lv_iload_n hx hb dXM_remove_2 rfl (lv_at hl 1 rfl) ?_
  refine vp_callSi (W.runV (As := [.int v]) (rest := [.ref am]) ⟨hx, hb, hml, hown, hts⟩ (c_M_isOne l g am av ab cn th fv fb Z hcn v) (cwV 1 hts (mt_giV mw_409 mw_410 mw_471 mw_5 (mt_gi mw_411)) rfl rfl rfl (by decide +kernel) ⟨by decide, by decide⟩) (mt_preV hE hz hS hP hD (va_recv hK hP (q := (RXM, TXM, 4)) (q0 := 0) rfl rfl)) rfl rfl hl.1 rfl (lv_room (Nat.le_of_ble_eq_true rfl)) dXM_remove_3 ⟨Nat.zero_le _, Nat.zero_le _⟩) (fun z1 e1 => ?_)
  rcases e1 with ⟨rfl, hver⟩ | ⟨rfl, hver⟩
  · refine lv_if_eq (tgt := 16) hx hb dXM_remove_6 (by decide) (fun z => absurd z (show ¬ (1 : Int32) = 0 by decide)) (fun _ => ?_)
    refine lv_iload_n hx hb dXM_remove_9 rfl (lv_at hl 2 rfl) ?_
    refine vp_callSi (W.runS (As := [.int k]) (rest := [.ref am]) ⟨hx, hb, hml, hown, hts⟩ (c_M_isKey l g _ k) (va_cwS 1 hts (mt_giS mw_412 mw_413 mw_5 (mt_gi mw_414)) rfl rfl rfl (by decide +kernel) ⟨by decide, by decide⟩) (mt_preS hE hz hS hP hD) rfl rfl hl.1 rfl (lv_room (Nat.le_of_ble_eq_true rfl)) dXM_remove_10 ⟨Nat.zero_le _, Nat.zero_le _⟩) (fun z2 e2 => ?_)
    rcases e2 with ⟨rfl, hkey⟩ | ⟨rfl, hkey⟩
    · refine lv_if_ne (tgt := 20) hx hb dXM_remove_13 (by decide) (fun _ => ?_) (fun z => absurd z (show ¬ (1 : Int32) = 0 by decide))
      obtain ⟨j, hj, rfl⟩ := mt_ver_nat hcn hver
      obtain ⟨i, hi, rfl⟩ := mt_key_nat hkey
      refine lv_aload_n hx hb dXM_remove_20 rfl (lv_at hl 0 rfl) ?_
      refine va_get (D := g.1) (ci := 2) (v := .int (nI cn)) (C := RXM) (T := TXM) (N := 4) hx hb hts (fun w h => List.mem_cons_of_mem _ (in_XM w h)) hown hK hP 0 rfl rfl 2 (by decide) (hts _ (List.mem_cons_of_mem _ mw_388)) (fun _ h9 => h9) rfl dXM_remove_21 ?_
      refine lv_sipush (v := (nI 600)) hx hb dXM_remove_24 (by decide +kernel) ?_
      by_cases hc6 : cn < 600
      · refine lv_icmp_ne (tgt := 34) hx hb dXM_remove_27 (by decide) (fun _ => ?_) (fun z => absurd z (fun e9 => absurd ((nI_eq (by omega) (by omega)).mp e9) (by omega)))
        refine lv_aload_n hx hb dXM_remove_34 rfl (lv_at hl 0 rfl) ?_
        refine va_get (D := g.1) (ci := 2) (v := .ref ab) (C := RXM) (T := TXM) (N := 4) hx hb hts (fun w h => List.mem_cons_of_mem _ (in_XM w h)) hown hK hP 0 rfl rfl 1 (by decide) (hts _ (List.mem_cons_of_mem _ mw_387)) (fun _ h9 => h9) rfl dXM_remove_35 ?_
        refine lv_sipush (v := (nI 256)) hx hb dXM_remove_38 (by decide +kernel) ?_
        refine lv_iload_n hx hb dXM_remove_41 rfl (lv_at hl 1 rfl) ?_
        refine lv_imul hx hb dXM_remove_42 ?_
        refine qa_i (y := (nI (256 * j))) (pk_mul 256 j) ?_
        refine lv_iload_n hx hb dXM_remove_43 rfl (lv_at hl 2 rfl) ?_
        refine lv_iadd hx hb dXM_remove_44 ?_
        refine qa_i (y := (nI (256 * j + i))) (nI_add (256 * j) i) ?_
        refine va_zald (D := g.1) (cl := vwCl) hx hb hK hP 2 3 rfl rfl (vp_in_nI (n := 256 * j + i) (by omega) (by decide)) dXM_remove_45 ?_
        refine qa_i (y := (fb (256 * j + i))) (by rw [nI_clamp (by omega)]) ?_
        rcases hfb (256 * j + i) with hf0 | hf1
        · refine qa_i (y := 0) hf0 ?_
          refine lv_if_ne (tgt := 53) hx hb dXM_remove_46 (by decide) (fun z => absurd rfl z) (fun _ => ?_)
          refine lv_iconst (v := (nI 3)) hx hb dXM_remove_49 (by decide +kernel) ?_
          refine lv_goto (tgt := 54) hx hb dXM_remove_50 (by decide) ?_
          refine va_put (D := g.1) (ci := 2) (v := .int (nI 3)) (ty := .int) (C := RXM) (T := TXM) (N := 4) hx hb hts (fun w h => List.mem_cons_of_mem _ (in_XM w h)) tyXM tyXM_ok nmXM hown hK hP hD hS 0 rfl rfl 3 (by decide) (hts _ (List.mem_cons_of_mem _ mw_389)) (fun _ h9 => h9) rfl (by decide +kernel) rfl rfl (Nat.le_of_ble_eq_true rfl) dXM_remove_54 (fun H locs hP hD hS => ?_)
          have hP : va_P g.1 vwCl (mt_MW g am av ab (nI cn) (nI 3) fv fb Z) H := hP
          have hD : va_D (mt_A g) (mt_MW g am av ab (nI cn) (nI 3) fv fb Z) := hD
          refine lv_aload_n hx hb dXM_remove_57 rfl (lv_at hl 0 rfl) ?_
          refine va_get (D := g.1) (ci := 2) (v := .int (nI 3)) (C := RXM) (T := TXM) (N := 4) hx hb hts (fun w h => List.mem_cons_of_mem _ (in_XM w h)) hown hK hP 0 rfl rfl 3 (by decide) (hts _ (List.mem_cons_of_mem _ mw_389)) (fun _ h9 => h9) rfl dXM_remove_58 ?_
          refine lv_if_le (tgt := 66) hx hb dXM_remove_61 (by decide) (fun z => absurd z (show ¬ (nI 3) ≤ 0 by decide)) (fun _ => ?_)
          refine lv_iconst (v := 0) hx hb dXM_remove_64 (by decide +kernel) ?_
          exact W.iret (v := 0) hx hb hr (fun t9 ht hW => ⟨⟨0, (cn, 3, fv, fb), rfl, Or.inr (Or.inr ⟨j, i, hj, hi, rfl, rfl, hc6, Or.inl ⟨hf0, rfl⟩⟩), by rw [ht]; exact hP, hD⟩, hS.F ht⟩) hS.2.2 dXM_remove_65
        · refine qa_i (y := 1) hf1 ?_
          refine lv_if_ne (tgt := 53) hx hb dXM_remove_46 (by decide) (fun _ => ?_) (fun z => absurd z (show ¬ (1 : Int32) = 0 by decide))
          refine lv_iconst (v := 0) hx hb dXM_remove_53 (by decide +kernel) ?_
          refine va_put (D := g.1) (ci := 2) (v := .int 0) (ty := .int) (C := RXM) (T := TXM) (N := 4) hx hb hts (fun w h => List.mem_cons_of_mem _ (in_XM w h)) tyXM tyXM_ok nmXM hown hK hP hD hS 0 rfl rfl 3 (by decide) (hts _ (List.mem_cons_of_mem _ mw_389)) (fun _ h9 => h9) rfl (by decide +kernel) rfl rfl (Nat.le_of_ble_eq_true rfl) dXM_remove_54 (fun H locs hP hD hS => ?_)
          have hP : va_P g.1 vwCl (mt_MW g am av ab (nI cn) 0 fv fb Z) H := hP
          have hD : va_D (mt_A g) (mt_MW g am av ab (nI cn) 0 fv fb Z) := hD
          refine lv_aload_n hx hb dXM_remove_57 rfl (lv_at hl 0 rfl) ?_
          refine va_get (D := g.1) (ci := 2) (v := .int 0) (C := RXM) (T := TXM) (N := 4) hx hb hts (fun w h => List.mem_cons_of_mem _ (in_XM w h)) hown hK hP 0 rfl rfl 3 (by decide) (hts _ (List.mem_cons_of_mem _ mw_389)) (fun _ h9 => h9) rfl dXM_remove_58 ?_
          refine lv_if_le (tgt := 66) hx hb dXM_remove_61 (by decide) (fun _ => ?_) (fun z => absurd (show (0 : Int32) ≤ 0 by decide) z)
          refine lv_aload_n hx hb dXM_remove_66 rfl (lv_at hl 0 rfl) ?_
          refine lv_iload_n hx hb dXM_remove_67 rfl (lv_at hl 1 rfl) ?_
          refine lv_iload_n hx hb dXM_remove_68 rfl (lv_at hl 1 rfl) ?_
          refine lv_iconst (v := 0) hx hb dXM_remove_69 (by decide +kernel) ?_
          refine va_calli (va_runV (As := [.int (nI j), .int (nI j), .int 0]) (rest := []) ⟨hx, hb, hml, hown, hts⟩ (c_M_made l g am av ab cn 0 fv fb Z hcn hfb hc6 j j 0 hj hj (Nat.zero_le _)) (cwV 3 hts (mt_giV mw_415 mw_416 mw_472 mw_5 (mt_gi mw_417)) rfl rfl rfl (by decide +kernel) ⟨by decide, by decide⟩) (mt_preV hE hz hS hP hD (va_recv hK hP (q := (RXM, TXM, 4)) (q0 := 0) rfl rfl)) rfl rfl hl.1 rfl (lv_room (Nat.le_of_ble_eq_true rfl)) dXM_remove_70 ⟨Nat.zero_le _, Nat.zero_le _⟩) hS (fun _ _ h => h) (fun _ h => h) (fun r1 u1 t1 H locs ht1 hvm1 hpo1 hB1 hz1 hk1 hS => ?_)
          obtain ⟨f, h⟩ := u1
          obtain ⟨rfl, hnew⟩ := hpo1
          obtain ⟨hP, hD⟩ := hB1
          rw [ht1] at hP
          dsimp only at hnew hP hD
          refine lv_istore_n (i := 3) (lv' := [(3, .int (nI cn)), (0, .ref am), (1, .int (nI j)), (2, .int (nI i))]) hx hb dXM_remove_73 rfl hl (by decide) rfl (fun ls hl => ?_)
          refine lv_aload_n hx hb dXM_remove_74 rfl (lv_at hl 1 rfl) ?_
          refine va_get (D := g.1) (ci := 2) (v := .ref av) (C := RXM) (T := TXM) (N := 4) hx hb hts (fun w h => List.mem_cons_of_mem _ (in_XM w h)) hown hK hP 0 rfl rfl 0 (by decide) (hts _ (List.mem_cons_of_mem _ mw_386)) (fun _ h9 => h9) rfl dXM_remove_75 ?_
          refine lv_sipush (v := (nI 256)) hx hb dXM_remove_78 (by decide +kernel) ?_
          refine lv_iload_n hx hb dXM_remove_81 rfl (lv_at hl 0 rfl) ?_
          refine lv_imul hx hb dXM_remove_82 ?_
          refine qa_i (y := (nI (256 * cn))) (pk_mul 256 cn) ?_
          refine lv_iload_n hx hb dXM_remove_83 rfl (lv_at hl 3 rfl) ?_
          refine lv_iadd hx hb dXM_remove_84 ?_
          refine qa_i (y := (nI (256 * cn + i))) (nI_add (256 * cn) i) ?_
          refine lv_iconst (v := 0) hx hb dXM_remove_85 (by decide +kernel) ?_
          refine va_iast (D := g.1) (cl := vwCl) hx hb hK hP hD hS 1 2 rfl rfl (vp_in_nI (n := 256 * cn + i) (by omega) (by decide)) dXM_remove_86 (fun H locs hP hD hS => ?_)
          rw [nI_clamp (by omega)] at hP hD
          have hP : va_P g.1 vwCl (mt_MW g am av ab (nI (cn + 1)) 0 (upd f (256 * cn + i) 0) h Z) H := hP
          have hD : va_D (mt_A g) (mt_MW g am av ab (nI (cn + 1)) 0 (upd f (256 * cn + i) 0) h Z) := hD
          refine lv_aload_n hx hb dXM_remove_87 rfl (lv_at hl 1 rfl) ?_
          refine va_get (D := g.1) (ci := 2) (v := .ref ab) (C := RXM) (T := TXM) (N := 4) hx hb hts (fun w h => List.mem_cons_of_mem _ (in_XM w h)) hown hK hP 0 rfl rfl 1 (by decide) (hts _ (List.mem_cons_of_mem _ mw_387)) (fun _ h9 => h9) rfl dXM_remove_88 ?_
          refine lv_sipush (v := (nI 256)) hx hb dXM_remove_91 (by decide +kernel) ?_
          refine lv_iload_n hx hb dXM_remove_94 rfl (lv_at hl 0 rfl) ?_
          refine lv_imul hx hb dXM_remove_95 ?_
          refine qa_i (y := (nI (256 * cn))) (pk_mul 256 cn) ?_
          refine lv_iload_n hx hb dXM_remove_96 rfl (lv_at hl 3 rfl) ?_
          refine lv_iadd hx hb dXM_remove_97 ?_
          refine qa_i (y := (nI (256 * cn + i))) (nI_add (256 * cn) i) ?_
          refine lv_iconst (v := 0) hx hb dXM_remove_98 (by decide +kernel) ?_
          refine va_zast (D := g.1) (cl := vwCl) hx hb hK hP hD hS 2 3 rfl rfl (vp_in_nI (n := 256 * cn + i) (by omega) (by decide)) dXM_remove_99 (fun H locs hP hD hS => ?_)
          rw [nI_clamp (by omega), (by decide : vp_nar .boolean 0 = 0)] at hP hD
          have hP : va_P g.1 vwCl (mt_MW g am av ab (nI (cn + 1)) 0 (upd f (256 * cn + i) 0) (upd h (256 * cn + i) 0) Z) H := hP
          have hD : va_D (mt_A g) (mt_MW g am av ab (nI (cn + 1)) 0 (upd f (256 * cn + i) 0) (upd h (256 * cn + i) 0) Z) := hD
          refine lv_iload_n hx hb dXM_remove_100 rfl (lv_at hl 0 rfl) ?_
          simp only [ite_self] at hnew
          obtain ⟨hw1, hw2, hw3⟩ := hnew
          exact W.iret (v := (nI cn)) hx hb hr (fun t9 ht hW => ⟨⟨(nI cn), (cn + 1, 0, (upd f (256 * cn + i) 0), (upd h (256 * cn + i) 0)), rfl, Or.inr (Or.inr ⟨j, i, hj, hi, rfl, rfl, hc6, Or.inr ⟨hf1, rfl, (upd f (256 * cn + i) 0), (upd h (256 * cn + i) 0), rfl, mt_new_put (Or.inl rfl) ⟨hw1, hw2, hw3⟩ hi⟩⟩), by rw [ht]; exact hP, hD⟩, hS.F ht⟩) hS.2.2 dXM_remove_101
      · refine lv_icmp_ne (tgt := 34) hx hb dXM_remove_27 (by decide) (fun z => absurd (by rw [show cn = 600 by omega]) z) (fun _ => ?_)
        refine lv_iconst (v := (nI 2)) hx hb dXM_remove_30 (by decide +kernel) ?_
        refine lv_goto (tgt := 54) hx hb dXM_remove_31 (by decide) ?_
        refine va_put (D := g.1) (ci := 2) (v := .int (nI 2)) (ty := .int) (C := RXM) (T := TXM) (N := 4) hx hb hts (fun w h => List.mem_cons_of_mem _ (in_XM w h)) tyXM tyXM_ok nmXM hown hK hP hD hS 0 rfl rfl 3 (by decide) (hts _ (List.mem_cons_of_mem _ mw_389)) (fun _ h9 => h9) rfl (by decide +kernel) rfl rfl (Nat.le_of_ble_eq_true rfl) dXM_remove_54 (fun H locs hP hD hS => ?_)
        have hP : va_P g.1 vwCl (mt_MW g am av ab (nI cn) (nI 2) fv fb Z) H := hP
        have hD : va_D (mt_A g) (mt_MW g am av ab (nI cn) (nI 2) fv fb Z) := hD
        refine lv_aload_n hx hb dXM_remove_57 rfl (lv_at hl 0 rfl) ?_
        refine va_get (D := g.1) (ci := 2) (v := .int (nI 2)) (C := RXM) (T := TXM) (N := 4) hx hb hts (fun w h => List.mem_cons_of_mem _ (in_XM w h)) hown hK hP 0 rfl rfl 3 (by decide) (hts _ (List.mem_cons_of_mem _ mw_389)) (fun _ h9 => h9) rfl dXM_remove_58 ?_
        refine lv_if_le (tgt := 66) hx hb dXM_remove_61 (by decide) (fun z => absurd z (show ¬ (nI 2) ≤ 0 by decide)) (fun _ => ?_)
        refine lv_iconst (v := 0) hx hb dXM_remove_64 (by decide +kernel) ?_
        exact W.iret (v := 0) hx hb hr (fun t9 ht hW => ⟨⟨0, (cn, 2, fv, fb), rfl, Or.inr (Or.inl ⟨⟨hver, hkey⟩, by omega, rfl⟩), by rw [ht]; exact hP, hD⟩, hS.F ht⟩) hS.2.2 dXM_remove_65
    · refine lv_if_ne (tgt := 20) hx hb dXM_remove_13 (by decide) (fun z => absurd rfl z) (fun _ => ?_)
      refine lv_iconst (v := 1) hx hb dXM_remove_16 (by decide +kernel) ?_
      refine lv_goto (tgt := 54) hx hb dXM_remove_17 (by decide) ?_
      refine va_put (D := g.1) (ci := 2) (v := .int 1) (ty := .int) (C := RXM) (T := TXM) (N := 4) hx hb hts (fun w h => List.mem_cons_of_mem _ (in_XM w h)) tyXM tyXM_ok nmXM hown hK hP hD hS 0 rfl rfl 3 (by decide) (hts _ (List.mem_cons_of_mem _ mw_389)) (fun _ h9 => h9) rfl (by decide +kernel) rfl rfl (Nat.le_of_ble_eq_true rfl) dXM_remove_54 (fun H locs hP hD hS => ?_)
      have hP : va_P g.1 vwCl (mt_MW g am av ab (nI cn) 1 fv fb Z) H := hP
      have hD : va_D (mt_A g) (mt_MW g am av ab (nI cn) 1 fv fb Z) := hD
      refine lv_aload_n hx hb dXM_remove_57 rfl (lv_at hl 0 rfl) ?_
      refine va_get (D := g.1) (ci := 2) (v := .int 1) (C := RXM) (T := TXM) (N := 4) hx hb hts (fun w h => List.mem_cons_of_mem _ (in_XM w h)) hown hK hP 0 rfl rfl 3 (by decide) (hts _ (List.mem_cons_of_mem _ mw_389)) (fun _ h9 => h9) rfl dXM_remove_58 ?_
      refine lv_if_le (tgt := 66) hx hb dXM_remove_61 (by decide) (fun z => absurd z (show ¬ (1 : Int32) ≤ 0 by decide)) (fun _ => ?_)
      refine lv_iconst (v := 0) hx hb dXM_remove_64 (by decide +kernel) ?_
      exact W.iret (v := 0) hx hb hr (fun t9 ht hW => ⟨⟨0, (cn, 1, fv, fb), rfl, Or.inl ⟨fun h9 => hkey h9.2, rfl⟩, by rw [ht]; exact hP, hD⟩, hS.F ht⟩) hS.2.2 dXM_remove_65
  · refine lv_if_eq (tgt := 16) hx hb dXM_remove_6 (by decide) (fun _ => ?_) (fun z => absurd rfl z)
    refine lv_iconst (v := 1) hx hb dXM_remove_16 (by decide +kernel) ?_
    refine lv_goto (tgt := 54) hx hb dXM_remove_17 (by decide) ?_
    refine va_put (D := g.1) (ci := 2) (v := .int 1) (ty := .int) (C := RXM) (T := TXM) (N := 4) hx hb hts (fun w h => List.mem_cons_of_mem _ (in_XM w h)) tyXM tyXM_ok nmXM hown hK hP hD hS 0 rfl rfl 3 (by decide) (hts _ (List.mem_cons_of_mem _ mw_389)) (fun _ h9 => h9) rfl (by decide +kernel) rfl rfl (Nat.le_of_ble_eq_true rfl) dXM_remove_54 (fun H locs hP hD hS => ?_)
    have hP : va_P g.1 vwCl (mt_MW g am av ab (nI cn) 1 fv fb Z) H := hP
    have hD : va_D (mt_A g) (mt_MW g am av ab (nI cn) 1 fv fb Z) := hD
    refine lv_aload_n hx hb dXM_remove_57 rfl (lv_at hl 0 rfl) ?_
    refine va_get (D := g.1) (ci := 2) (v := .int 1) (C := RXM) (T := TXM) (N := 4) hx hb hts (fun w h => List.mem_cons_of_mem _ (in_XM w h)) hown hK hP 0 rfl rfl 3 (by decide) (hts _ (List.mem_cons_of_mem _ mw_389)) (fun _ h9 => h9) rfl dXM_remove_58 ?_
    refine lv_if_le (tgt := 66) hx hb dXM_remove_61 (by decide) (fun z => absurd z (show ¬ (1 : Int32) ≤ 0 by decide)) (fun _ => ?_)
    refine lv_iconst (v := 0) hx hb dXM_remove_64 (by decide +kernel) ?_
    exact W.iret (v := 0) hx hb hr (fun t9 ht hW => ⟨⟨0, (cn, 1, fv, fb), rfl, Or.inl ⟨fun h9 => hver h9.1, rfl⟩, by rw [ht]; exact hP, hD⟩, hS.F ht⟩) hS.2.2 dXM_remove_65
set_option maxHeartbeats 4000000 in
set_option maxRecDepth 100000 in
/-- the reference: get -/
theorem c_M_get (l : Launch) (g : mt_G) (am av ab : Nat) (cn : Nat) (th : Int32) (fv fb : Nat → Int32) (Z : va_W) (hcn : cn ≤ 600) (hfb : ∀ j, fb j = 0 ∨ fb j = 1) (v k : Int32) : Met l yXM_get wsXM_get ({ frames := 1, cells := 0, slots := 0, locals := 60 }) (mt_Pc g (mt_MW g am av ab (nI cn) th fv fb Z) [.ref am, .int v, .int k]) (va_Qi (fun r q => (¬ (mt_ver v cn ∧ mt_key k) ∧ q = (cn, 1, fv, fb)) ∨ ∃ j i, j < cn ∧ i < 256 ∧ v = nI j ∧ k = nI i ∧ ((fb (256 * j + i) = 0 ∧ q = (cn, 2, fv, fb)) ∨ (fb (256 * j + i) = 1 ∧ r = fv (256 * j + i) ∧ q = (cn, 0, fv, fb)))) (fun (q : Nat × Int32 × (Nat → Int32) × (Nat → Int32)) t => mt_B g (mt_MW g am av ab (nI q.1) q.2.1 q.2.2.1 q.2.2.2 Z) t) (mt_A g)) (0) (0) (mt_A g) := by
  refine Met.ofW (cc := cXM_get) (maxL := 3) (ret := (some .int)) (by decide) rfl ?_
  intro p e s m args below meth c s₁ B hml hv
  obtain ⟨rfl, hE, hz, hP, hD⟩ := hv
  have hx := B.exec
  have hb := B.bytes
  have hr := B.returns
  have hts := atoms_spec (ws := wsXM_get) B.pre
  have hown : s.vm.findClass RXM = some m.cls := findClass_of_methodNamed B.named
  have hlocks := B.notSynchronized
  have hK := hE.k
  have hA : ∀ q : Nat, s.heap.size ≤ q → mt_A g q := fun q h => Nat.le_trans hz h
  have hS : va_S (mt_A g) s.heap s.heap [] := va_S.rf
  have hl := lv_entry ([.ref am, .int v, .int k]) (n := 3) (Nat.le_of_ble_eq_true rfl)
  rw [lg_entry_eq]
  generalize (lg_sl ([.ref am, .int v, .int k]) ++ List.replicate (3 - (lg_sl ([.ref am, .int v, .int k])).length) Slot.unset).toArray = ls at hl ⊢
  have hl : lv_has ls 3 [(0, .ref am), (1, .int v), (2, .int k)] := hl
  have hH : s.heap = s.heap := rfl
  refine lv_aload_n hx hb dXM_get_0 rfl (lv_at hl 0 rfl) ?_
  refine lv_aload_n hx hb dXM_get_1 rfl (lv_at hl 0 rfl) ?_
  refine lv_iload_n hx hb dXM_get_2 rfl (lv_at hl 1 rfl) ?_
  refine vp_callSi (W.runV (As := [.int v]) (rest := [.ref am]) ⟨hx, hb, hml, hown, hts⟩ (c_M_isOne l g am av ab cn th fv fb Z hcn v) (cwV 1 hts (mt_giV mw_409 mw_410 mw_471 mw_5 (mt_gi mw_411)) rfl rfl rfl (by decide +kernel) ⟨by decide, by decide⟩) (mt_preV hE hz hS hP hD (va_recv hK hP (q := (RXM, TXM, 4)) (q0 := 0) rfl rfl)) rfl rfl hl.1 rfl (lv_room (Nat.le_of_ble_eq_true rfl)) dXM_get_3 ⟨Nat.zero_le _, Nat.zero_le _⟩) (fun z1 e1 => ?_)
  rcases e1 with ⟨rfl, hver⟩ | ⟨rfl, hver⟩
  · refine lv_if_eq (tgt := 16) hx hb dXM_get_6 (by decide) (fun z => absurd z (show ¬ (1 : Int32) = 0 by decide)) (fun _ => ?_)
    refine lv_iload_n hx hb dXM_get_9 rfl (lv_at hl 2 rfl) ?_
    refine vp_callSi (W.runS (As := [.int k]) (rest := [.ref am]) ⟨hx, hb, hml, hown, hts⟩ (c_M_isKey l g _ k) (va_cwS 1 hts (mt_giS mw_412 mw_413 mw_5 (mt_gi mw_414)) rfl rfl rfl (by decide +kernel) ⟨by decide, by decide⟩) (mt_preS hE hz hS hP hD) rfl rfl hl.1 rfl (lv_room (Nat.le_of_ble_eq_true rfl)) dXM_get_10 ⟨Nat.zero_le _, Nat.zero_le _⟩) (fun z2 e2 => ?_)
    rcases e2 with ⟨rfl, hkey⟩ | ⟨rfl, hkey⟩
    · refine lv_if_ne (tgt := 20) hx hb dXM_get_13 (by decide) (fun _ => ?_) (fun z => absurd z (show ¬ (1 : Int32) = 0 by decide))
      obtain ⟨j, hj, rfl⟩ := mt_ver_nat hcn hver
      obtain ⟨i, hi, rfl⟩ := mt_key_nat hkey
      refine lv_aload_n hx hb dXM_get_20 rfl (lv_at hl 0 rfl) ?_
      refine va_get (D := g.1) (ci := 2) (v := .ref ab) (C := RXM) (T := TXM) (N := 4) hx hb hts (fun w h => List.mem_cons_of_mem _ (in_XM w h)) hown hK hP 0 rfl rfl 1 (by decide) (hts _ (List.mem_cons_of_mem _ mw_387)) (fun _ h9 => h9) rfl dXM_get_21 ?_
      refine lv_sipush (v := (nI 256)) hx hb dXM_get_24 (by decide +kernel) ?_
      refine lv_iload_n hx hb dXM_get_27 rfl (lv_at hl 1 rfl) ?_
      refine lv_imul hx hb dXM_get_28 ?_
      refine qa_i (y := (nI (256 * j))) (pk_mul 256 j) ?_
      refine lv_iload_n hx hb dXM_get_29 rfl (lv_at hl 2 rfl) ?_
      refine lv_iadd hx hb dXM_get_30 ?_
      refine qa_i (y := (nI (256 * j + i))) (nI_add (256 * j) i) ?_
      refine va_zald (D := g.1) (cl := vwCl) hx hb hK hP 2 3 rfl rfl (vp_in_nI (n := 256 * j + i) (by omega) (by decide)) dXM_get_31 ?_
      refine qa_i (y := (fb (256 * j + i))) (by rw [nI_clamp (by omega)]) ?_
      rcases hfb (256 * j + i) with hf0 | hf1
      · refine qa_i (y := 0) hf0 ?_
        refine lv_if_ne (tgt := 39) hx hb dXM_get_32 (by decide) (fun z => absurd rfl z) (fun _ => ?_)
        refine lv_iconst (v := (nI 2)) hx hb dXM_get_35 (by decide +kernel) ?_
        refine lv_goto (tgt := 40) hx hb dXM_get_36 (by decide) ?_
        refine va_put (D := g.1) (ci := 2) (v := .int (nI 2)) (ty := .int) (C := RXM) (T := TXM) (N := 4) hx hb hts (fun w h => List.mem_cons_of_mem _ (in_XM w h)) tyXM tyXM_ok nmXM hown hK hP hD hS 0 rfl rfl 3 (by decide) (hts _ (List.mem_cons_of_mem _ mw_389)) (fun _ h9 => h9) rfl (by decide +kernel) rfl rfl (Nat.le_of_ble_eq_true rfl) dXM_get_40 (fun H locs hP hD hS => ?_)
        have hP : va_P g.1 vwCl (mt_MW g am av ab (nI cn) (nI 2) fv fb Z) H := hP
        have hD : va_D (mt_A g) (mt_MW g am av ab (nI cn) (nI 2) fv fb Z) := hD
        refine lv_aload_n hx hb dXM_get_43 rfl (lv_at hl 0 rfl) ?_
        refine va_get (D := g.1) (ci := 2) (v := .int (nI 2)) (C := RXM) (T := TXM) (N := 4) hx hb hts (fun w h => List.mem_cons_of_mem _ (in_XM w h)) hown hK hP 0 rfl rfl 3 (by decide) (hts _ (List.mem_cons_of_mem _ mw_389)) (fun _ h9 => h9) rfl dXM_get_44 ?_
        refine lv_if_le (tgt := 54) hx hb dXM_get_47 (by decide) (fun z => absurd z (show ¬ (nI 2) ≤ 0 by decide)) (fun _ => ?_)
        refine lv_iconst (v := 0) hx hb dXM_get_50 (by decide +kernel) ?_
        refine lv_goto (tgt := 66) hx hb dXM_get_51 (by decide) ?_
        exact W.iret (v := 0) hx hb hr (fun t9 ht hW => ⟨⟨0, (cn, 2, fv, fb), rfl, Or.inr ⟨j, i, hj, hi, rfl, rfl, Or.inl ⟨hf0, rfl⟩⟩, by rw [ht]; exact hP, hD⟩, hS.F ht⟩) hS.2.2 dXM_get_66
      · refine qa_i (y := 1) hf1 ?_
        refine lv_if_ne (tgt := 39) hx hb dXM_get_32 (by decide) (fun _ => ?_) (fun z => absurd z (show ¬ (1 : Int32) = 0 by decide))
        refine lv_iconst (v := 0) hx hb dXM_get_39 (by decide +kernel) ?_
        refine va_put (D := g.1) (ci := 2) (v := .int 0) (ty := .int) (C := RXM) (T := TXM) (N := 4) hx hb hts (fun w h => List.mem_cons_of_mem _ (in_XM w h)) tyXM tyXM_ok nmXM hown hK hP hD hS 0 rfl rfl 3 (by decide) (hts _ (List.mem_cons_of_mem _ mw_389)) (fun _ h9 => h9) rfl (by decide +kernel) rfl rfl (Nat.le_of_ble_eq_true rfl) dXM_get_40 (fun H locs hP hD hS => ?_)
        have hP : va_P g.1 vwCl (mt_MW g am av ab (nI cn) 0 fv fb Z) H := hP
        have hD : va_D (mt_A g) (mt_MW g am av ab (nI cn) 0 fv fb Z) := hD
        refine lv_aload_n hx hb dXM_get_43 rfl (lv_at hl 0 rfl) ?_
        refine va_get (D := g.1) (ci := 2) (v := .int 0) (C := RXM) (T := TXM) (N := 4) hx hb hts (fun w h => List.mem_cons_of_mem _ (in_XM w h)) hown hK hP 0 rfl rfl 3 (by decide) (hts _ (List.mem_cons_of_mem _ mw_389)) (fun _ h9 => h9) rfl dXM_get_44 ?_
        refine lv_if_le (tgt := 54) hx hb dXM_get_47 (by decide) (fun _ => ?_) (fun z => absurd (show (0 : Int32) ≤ 0 by decide) z)
        refine lv_aload_n hx hb dXM_get_54 rfl (lv_at hl 0 rfl) ?_
        refine va_get (D := g.1) (ci := 2) (v := .ref av) (C := RXM) (T := TXM) (N := 4) hx hb hts (fun w h => List.mem_cons_of_mem _ (in_XM w h)) hown hK hP 0 rfl rfl 0 (by decide) (hts _ (List.mem_cons_of_mem _ mw_386)) (fun _ h9 => h9) rfl dXM_get_55 ?_
        refine lv_sipush (v := (nI 256)) hx hb dXM_get_58 (by decide +kernel) ?_
        refine lv_iload_n hx hb dXM_get_61 rfl (lv_at hl 1 rfl) ?_
        refine lv_imul hx hb dXM_get_62 ?_
        refine qa_i (y := (nI (256 * j))) (pk_mul 256 j) ?_
        refine lv_iload_n hx hb dXM_get_63 rfl (lv_at hl 2 rfl) ?_
        refine lv_iadd hx hb dXM_get_64 ?_
        refine qa_i (y := (nI (256 * j + i))) (nI_add (256 * j) i) ?_
        refine va_iald (D := g.1) (cl := vwCl) hx hb hK hP 1 2 rfl rfl (vp_in_nI (n := 256 * j + i) (by omega) (by decide)) dXM_get_65 ?_
        refine qa_i (y := (fv (256 * j + i))) (by rw [nI_clamp (by omega)]) ?_
        exact W.iret (v := (fv (256 * j + i))) hx hb hr (fun t9 ht hW => ⟨⟨(fv (256 * j + i)), (cn, 0, fv, fb), rfl, Or.inr ⟨j, i, hj, hi, rfl, rfl, Or.inr ⟨hf1, rfl, rfl⟩⟩, by rw [ht]; exact hP, hD⟩, hS.F ht⟩) hS.2.2 dXM_get_66
    · refine lv_if_ne (tgt := 20) hx hb dXM_get_13 (by decide) (fun z => absurd rfl z) (fun _ => ?_)
      refine lv_iconst (v := 1) hx hb dXM_get_16 (by decide +kernel) ?_
      refine lv_goto (tgt := 40) hx hb dXM_get_17 (by decide) ?_
      refine va_put (D := g.1) (ci := 2) (v := .int 1) (ty := .int) (C := RXM) (T := TXM) (N := 4) hx hb hts (fun w h => List.mem_cons_of_mem _ (in_XM w h)) tyXM tyXM_ok nmXM hown hK hP hD hS 0 rfl rfl 3 (by decide) (hts _ (List.mem_cons_of_mem _ mw_389)) (fun _ h9 => h9) rfl (by decide +kernel) rfl rfl (Nat.le_of_ble_eq_true rfl) dXM_get_40 (fun H locs hP hD hS => ?_)
      have hP : va_P g.1 vwCl (mt_MW g am av ab (nI cn) 1 fv fb Z) H := hP
      have hD : va_D (mt_A g) (mt_MW g am av ab (nI cn) 1 fv fb Z) := hD
      refine lv_aload_n hx hb dXM_get_43 rfl (lv_at hl 0 rfl) ?_
      refine va_get (D := g.1) (ci := 2) (v := .int 1) (C := RXM) (T := TXM) (N := 4) hx hb hts (fun w h => List.mem_cons_of_mem _ (in_XM w h)) hown hK hP 0 rfl rfl 3 (by decide) (hts _ (List.mem_cons_of_mem _ mw_389)) (fun _ h9 => h9) rfl dXM_get_44 ?_
      refine lv_if_le (tgt := 54) hx hb dXM_get_47 (by decide) (fun z => absurd z (show ¬ (1 : Int32) ≤ 0 by decide)) (fun _ => ?_)
      refine lv_iconst (v := 0) hx hb dXM_get_50 (by decide +kernel) ?_
      refine lv_goto (tgt := 66) hx hb dXM_get_51 (by decide) ?_
      exact W.iret (v := 0) hx hb hr (fun t9 ht hW => ⟨⟨0, (cn, 1, fv, fb), rfl, Or.inl ⟨fun h9 => hkey h9.2, rfl⟩, by rw [ht]; exact hP, hD⟩, hS.F ht⟩) hS.2.2 dXM_get_66
  · refine lv_if_eq (tgt := 16) hx hb dXM_get_6 (by decide) (fun _ => ?_) (fun z => absurd rfl z)
    refine lv_iconst (v := 1) hx hb dXM_get_16 (by decide +kernel) ?_
    refine lv_goto (tgt := 40) hx hb dXM_get_17 (by decide) ?_
    refine va_put (D := g.1) (ci := 2) (v := .int 1) (ty := .int) (C := RXM) (T := TXM) (N := 4) hx hb hts (fun w h => List.mem_cons_of_mem _ (in_XM w h)) tyXM tyXM_ok nmXM hown hK hP hD hS 0 rfl rfl 3 (by decide) (hts _ (List.mem_cons_of_mem _ mw_389)) (fun _ h9 => h9) rfl (by decide +kernel) rfl rfl (Nat.le_of_ble_eq_true rfl) dXM_get_40 (fun H locs hP hD hS => ?_)
    have hP : va_P g.1 vwCl (mt_MW g am av ab (nI cn) 1 fv fb Z) H := hP
    have hD : va_D (mt_A g) (mt_MW g am av ab (nI cn) 1 fv fb Z) := hD
    refine lv_aload_n hx hb dXM_get_43 rfl (lv_at hl 0 rfl) ?_
    refine va_get (D := g.1) (ci := 2) (v := .int 1) (C := RXM) (T := TXM) (N := 4) hx hb hts (fun w h => List.mem_cons_of_mem _ (in_XM w h)) hown hK hP 0 rfl rfl 3 (by decide) (hts _ (List.mem_cons_of_mem _ mw_389)) (fun _ h9 => h9) rfl dXM_get_44 ?_
    refine lv_if_le (tgt := 54) hx hb dXM_get_47 (by decide) (fun z => absurd z (show ¬ (1 : Int32) ≤ 0 by decide)) (fun _ => ?_)
    refine lv_iconst (v := 0) hx hb dXM_get_50 (by decide +kernel) ?_
    refine lv_goto (tgt := 66) hx hb dXM_get_51 (by decide) ?_
    exact W.iret (v := 0) hx hb hr (fun t9 ht hW => ⟨⟨0, (cn, 1, fv, fb), rfl, Or.inl ⟨fun h9 => hver h9.1, rfl⟩, by rw [ht]; exact hP, hD⟩, hS.F ht⟩) hS.2.2 dXM_get_66
set_option maxHeartbeats 4000000 in
set_option maxRecDepth 100000 in
/-- the reference: join -/
theorem c_M_join (l : Launch) (g : mt_G) (am av ab : Nat) (cn : Nat) (th : Int32) (fv fb : Nat → Int32) (Z : va_W) (hcn : cn ≤ 600) (hfb : ∀ j, fb j = 0 ∨ fb j = 1) (v w k : Int32) : Met l yXM_join wsXM_join ({ frames := 1, cells := 0, slots := 0, locals := 60 }) (mt_Pc g (mt_MW g am av ab (nI cn) th fv fb Z) [.ref am, .int v, .int w, .int k]) (va_Qi (fun r q => (¬ (mt_ver v cn ∧ mt_ver w cn ∧ mt_kb k) ∧ q = (cn, 1, fv, fb)) ∨ ((mt_ver v cn ∧ mt_ver w cn ∧ mt_kb k) ∧ cn = 600 ∧ q = (cn, 2, fv, fb)) ∨ ∃ j i y, j < cn ∧ i < cn ∧ y ≤ 256 ∧ v = nI j ∧ w = nI i ∧ k = nI y ∧ cn < 600 ∧ r = nI cn ∧ ∃ f h, q = (cn + 1, 0, f, h) ∧ mt_new fv fb f h cn (fun o => (fv (256 * (if o < y then j else i) + o), fb (256 * (if o < y then j else i) + o)))) (fun (q : Nat × Int32 × (Nat → Int32) × (Nat → Int32)) t => mt_B g (mt_MW g am av ab (nI q.1) q.2.1 q.2.2.1 q.2.2.2 Z) t) (mt_A g)) (0) (0) (mt_A g) := by
  refine Met.ofW (cc := cXM_join) (maxL := 4) (ret := (some .int)) (by decide) rfl ?_
  intro p e s m args below meth c s₁ B hml hv
  obtain ⟨rfl, hE, hz, hP, hD⟩ := hv
  have hx := B.exec
  have hb := B.bytes
  have hr := B.returns
  have hts := atoms_spec (ws := wsXM_join) B.pre
  have hown : s.vm.findClass RXM = some m.cls := findClass_of_methodNamed B.named
  have hlocks := B.notSynchronized
  have hK := hE.k
  have hA : ∀ q : Nat, s.heap.size ≤ q → mt_A g q := fun q h => Nat.le_trans hz h
  have hS : va_S (mt_A g) s.heap s.heap [] := va_S.rf
  have hl := lv_entry ([.ref am, .int v, .int w, .int k]) (n := 4) (Nat.le_of_ble_eq_true rfl)
  rw [lg_entry_eq]
  generalize (lg_sl ([.ref am, .int v, .int w, .int k]) ++ List.replicate (4 - (lg_sl ([.ref am, .int v, .int w, .int k])).length) Slot.unset).toArray = ls at hl ⊢
  have hl : lv_has ls 4 [(0, .ref am), (1, .int v), (2, .int w), (3, .int k)] := hl
  have hH : s.heap = s.heap := rfl
  refine lv_aload_n hx hb dXM_join_0 rfl (lv_at hl 0 rfl) ?_
  refine lv_aload_n hx hb dXM_join_1 rfl (lv_at hl 0 rfl) ?_
  refine lv_iload_n hx hb dXM_join_2 rfl (lv_at hl 1 rfl) ?_
  refine vp_callSi (W.runV (As := [.int v]) (rest := [.ref am]) ⟨hx, hb, hml, hown, hts⟩ (c_M_isOne l g am av ab cn th fv fb Z hcn v) (cwV 1 hts (mt_giV mw_409 mw_410 mw_471 mw_5 (mt_gi mw_411)) rfl rfl rfl (by decide +kernel) ⟨by decide, by decide⟩) (mt_preV hE hz hS hP hD (va_recv hK hP (q := (RXM, TXM, 4)) (q0 := 0) rfl rfl)) rfl rfl hl.1 rfl (lv_room (Nat.le_of_ble_eq_true rfl)) dXM_join_3 ⟨Nat.zero_le _, Nat.zero_le _⟩) (fun z1 e1 => ?_)
  rcases e1 with ⟨rfl, hver⟩ | ⟨rfl, hver⟩
  · refine lv_if_eq (tgt := 28) hx hb dXM_join_6 (by decide) (fun z => absurd z (show ¬ (1 : Int32) = 0 by decide)) (fun _ => ?_)
    refine lv_aload_n hx hb dXM_join_9 rfl (lv_at hl 0 rfl) ?_
    refine lv_iload_n hx hb dXM_join_10 rfl (lv_at hl 2 rfl) ?_
    refine vp_callSi (W.runV (As := [.int w]) (rest := [.ref am]) ⟨hx, hb, hml, hown, hts⟩ (c_M_isOne l g am av ab cn th fv fb Z hcn w) (cwV 1 hts (mt_giV mw_409 mw_410 mw_471 mw_5 (mt_gi mw_411)) rfl rfl rfl (by decide +kernel) ⟨by decide, by decide⟩) (mt_preV hE hz hS hP hD (va_recv hK hP (q := (RXM, TXM, 4)) (q0 := 0) rfl rfl)) rfl rfl hl.1 rfl (lv_room (Nat.le_of_ble_eq_true rfl)) dXM_join_11 ⟨Nat.zero_le _, Nat.zero_le _⟩) (fun z2 e2 => ?_)
    rcases e2 with ⟨rfl, hver2⟩ | ⟨rfl, hver2⟩
    · refine lv_if_eq (tgt := 28) hx hb dXM_join_14 (by decide) (fun z => absurd z (show ¬ (1 : Int32) = 0 by decide)) (fun _ => ?_)
      refine lv_iload_n hx hb dXM_join_17 rfl (lv_at hl 3 rfl) ?_
      refine lv_if_lt (tgt := 28) hx hb dXM_join_18 (by decide) (fun c1 => ?_) (fun c1 => ?_)
      · refine lv_iconst (v := 1) hx hb dXM_join_28 (by decide +kernel) ?_
        refine lv_goto (tgt := 47) hx hb dXM_join_29 (by decide) ?_
        refine va_put (D := g.1) (ci := 2) (v := .int 1) (ty := .int) (C := RXM) (T := TXM) (N := 4) hx hb hts (fun w h => List.mem_cons_of_mem _ (in_XM w h)) tyXM tyXM_ok nmXM hown hK hP hD hS 0 rfl rfl 3 (by decide) (hts _ (List.mem_cons_of_mem _ mw_389)) (fun _ h9 => h9) rfl (by decide +kernel) rfl rfl (Nat.le_of_ble_eq_true rfl) dXM_join_47 (fun H locs hP hD hS => ?_)
        have hP : va_P g.1 vwCl (mt_MW g am av ab (nI cn) 1 fv fb Z) H := hP
        have hD : va_D (mt_A g) (mt_MW g am av ab (nI cn) 1 fv fb Z) := hD
        refine lv_aload_n hx hb dXM_join_50 rfl (lv_at hl 0 rfl) ?_
        refine va_get (D := g.1) (ci := 2) (v := .int 1) (C := RXM) (T := TXM) (N := 4) hx hb hts (fun w h => List.mem_cons_of_mem _ (in_XM w h)) hown hK hP 0 rfl rfl 3 (by decide) (hts _ (List.mem_cons_of_mem _ mw_389)) (fun _ h9 => h9) rfl dXM_join_51 ?_
        refine lv_if_le (tgt := 61) hx hb dXM_join_54 (by decide) (fun z => absurd z (show ¬ (1 : Int32) ≤ 0 by decide)) (fun _ => ?_)
        refine lv_iconst (v := 0) hx hb dXM_join_57 (by decide +kernel) ?_
        refine lv_goto (tgt := 68) hx hb dXM_join_58 (by decide) ?_
        exact W.iret (v := 0) hx hb hr (fun t9 ht hW => ⟨⟨0, (cn, 1, fv, fb), rfl, Or.inl ⟨fun h9 => absurd c1 (Int32.not_lt.mpr h9.2.2.1), rfl⟩, by rw [ht]; exact hP, hD⟩, hS.F ht⟩) hS.2.2 dXM_join_68
      · refine lv_iload_n hx hb dXM_join_21 rfl (lv_at hl 3 rfl) ?_
        refine lv_sipush (v := (nI 256)) hx hb dXM_join_22 (by decide +kernel) ?_
        refine lv_icmp_le (tgt := 32) hx hb dXM_join_25 (by decide) (fun c2 => ?_) (fun c2 => ?_)
        · have hkb : mt_kb k := ⟨Int32.not_lt.mp c1, c2⟩
          obtain ⟨j, hj, rfl⟩ := mt_ver_nat hcn hver
          obtain ⟨i, hi, rfl⟩ := mt_ver_nat hcn hver2
          obtain ⟨y, hy, rfl⟩ := mt_kb_nat hkb
          refine lv_aload_n hx hb dXM_join_32 rfl (lv_at hl 0 rfl) ?_
          refine va_get (D := g.1) (ci := 2) (v := .int (nI cn)) (C := RXM) (T := TXM) (N := 4) hx hb hts (fun w h => List.mem_cons_of_mem _ (in_XM w h)) hown hK hP 0 rfl rfl 2 (by decide) (hts _ (List.mem_cons_of_mem _ mw_388)) (fun _ h9 => h9) rfl dXM_join_33 ?_
          refine lv_sipush (v := (nI 600)) hx hb dXM_join_36 (by decide +kernel) ?_
          by_cases hc6 : cn < 600
          · refine lv_icmp_ne (tgt := 46) hx hb dXM_join_39 (by decide) (fun _ => ?_) (fun z => absurd z (fun e9 => absurd ((nI_eq (by omega) (by omega)).mp e9) (by omega)))
            refine lv_iconst (v := 0) hx hb dXM_join_46 (by decide +kernel) ?_
            refine va_put (D := g.1) (ci := 2) (v := .int 0) (ty := .int) (C := RXM) (T := TXM) (N := 4) hx hb hts (fun w h => List.mem_cons_of_mem _ (in_XM w h)) tyXM tyXM_ok nmXM hown hK hP hD hS 0 rfl rfl 3 (by decide) (hts _ (List.mem_cons_of_mem _ mw_389)) (fun _ h9 => h9) rfl (by decide +kernel) rfl rfl (Nat.le_of_ble_eq_true rfl) dXM_join_47 (fun H locs hP hD hS => ?_)
            have hP : va_P g.1 vwCl (mt_MW g am av ab (nI cn) 0 fv fb Z) H := hP
            have hD : va_D (mt_A g) (mt_MW g am av ab (nI cn) 0 fv fb Z) := hD
            refine lv_aload_n hx hb dXM_join_50 rfl (lv_at hl 0 rfl) ?_
            refine va_get (D := g.1) (ci := 2) (v := .int 0) (C := RXM) (T := TXM) (N := 4) hx hb hts (fun w h => List.mem_cons_of_mem _ (in_XM w h)) hown hK hP 0 rfl rfl 3 (by decide) (hts _ (List.mem_cons_of_mem _ mw_389)) (fun _ h9 => h9) rfl dXM_join_51 ?_
            refine lv_if_le (tgt := 61) hx hb dXM_join_54 (by decide) (fun _ => ?_) (fun z => absurd (show (0 : Int32) ≤ 0 by decide) z)
            refine lv_aload_n hx hb dXM_join_61 rfl (lv_at hl 0 rfl) ?_
            refine lv_iload_n hx hb dXM_join_62 rfl (lv_at hl 1 rfl) ?_
            refine lv_iload_n hx hb dXM_join_63 rfl (lv_at hl 2 rfl) ?_
            refine lv_iload_n hx hb dXM_join_64 rfl (lv_at hl 3 rfl) ?_
            refine va_calli (va_runV (As := [.int (nI j), .int (nI i), .int (nI y)]) (rest := []) ⟨hx, hb, hml, hown, hts⟩ (c_M_made l g am av ab cn 0 fv fb Z hcn hfb hc6 j i y hj hi hy) (cwV 3 hts (mt_giV mw_415 mw_416 mw_472 mw_5 (mt_gi mw_417)) rfl rfl rfl (by decide +kernel) ⟨by decide, by decide⟩) (mt_preV hE hz hS hP hD (va_recv hK hP (q := (RXM, TXM, 4)) (q0 := 0) rfl rfl)) rfl rfl hl.1 rfl (lv_room (Nat.le_of_ble_eq_true rfl)) dXM_join_65 ⟨Nat.zero_le _, Nat.zero_le _⟩) hS (fun _ _ h => h) (fun _ h => h) (fun r1 u1 t1 H locs ht1 hvm1 hpo1 hB1 hz1 hk1 hS => ?_)
            obtain ⟨f, h⟩ := u1
            obtain ⟨rfl, hnew⟩ := hpo1
            obtain ⟨hP, hD⟩ := hB1
            rw [ht1] at hP
            dsimp only at hnew hP hD
            exact W.iret (v := (nI cn)) hx hb hr (fun t9 ht hW => ⟨⟨(nI cn), (cn + 1, 0, f, h), rfl, Or.inr (Or.inr ⟨j, i, y, hj, hi, hy, rfl, rfl, rfl, hc6, rfl, f, h, rfl, hnew⟩), by rw [ht]; exact hP, hD⟩, hS.F ht⟩) hS.2.2 dXM_join_68
          · refine lv_icmp_ne (tgt := 46) hx hb dXM_join_39 (by decide) (fun z => absurd (by rw [show cn = 600 by omega]) z) (fun _ => ?_)
            refine lv_iconst (v := (nI 2)) hx hb dXM_join_42 (by decide +kernel) ?_
            refine lv_goto (tgt := 47) hx hb dXM_join_43 (by decide) ?_
            refine va_put (D := g.1) (ci := 2) (v := .int (nI 2)) (ty := .int) (C := RXM) (T := TXM) (N := 4) hx hb hts (fun w h => List.mem_cons_of_mem _ (in_XM w h)) tyXM tyXM_ok nmXM hown hK hP hD hS 0 rfl rfl 3 (by decide) (hts _ (List.mem_cons_of_mem _ mw_389)) (fun _ h9 => h9) rfl (by decide +kernel) rfl rfl (Nat.le_of_ble_eq_true rfl) dXM_join_47 (fun H locs hP hD hS => ?_)
            have hP : va_P g.1 vwCl (mt_MW g am av ab (nI cn) (nI 2) fv fb Z) H := hP
            have hD : va_D (mt_A g) (mt_MW g am av ab (nI cn) (nI 2) fv fb Z) := hD
            refine lv_aload_n hx hb dXM_join_50 rfl (lv_at hl 0 rfl) ?_
            refine va_get (D := g.1) (ci := 2) (v := .int (nI 2)) (C := RXM) (T := TXM) (N := 4) hx hb hts (fun w h => List.mem_cons_of_mem _ (in_XM w h)) hown hK hP 0 rfl rfl 3 (by decide) (hts _ (List.mem_cons_of_mem _ mw_389)) (fun _ h9 => h9) rfl dXM_join_51 ?_
            refine lv_if_le (tgt := 61) hx hb dXM_join_54 (by decide) (fun z => absurd z (show ¬ (nI 2) ≤ 0 by decide)) (fun _ => ?_)
            refine lv_iconst (v := 0) hx hb dXM_join_57 (by decide +kernel) ?_
            refine lv_goto (tgt := 68) hx hb dXM_join_58 (by decide) ?_
            exact W.iret (v := 0) hx hb hr (fun t9 ht hW => ⟨⟨0, (cn, 2, fv, fb), rfl, Or.inr (Or.inl ⟨⟨hver, hver2, hkb⟩, by omega, rfl⟩), by rw [ht]; exact hP, hD⟩, hS.F ht⟩) hS.2.2 dXM_join_68
        · refine lv_iconst (v := 1) hx hb dXM_join_28 (by decide +kernel) ?_
          refine lv_goto (tgt := 47) hx hb dXM_join_29 (by decide) ?_
          refine va_put (D := g.1) (ci := 2) (v := .int 1) (ty := .int) (C := RXM) (T := TXM) (N := 4) hx hb hts (fun w h => List.mem_cons_of_mem _ (in_XM w h)) tyXM tyXM_ok nmXM hown hK hP hD hS 0 rfl rfl 3 (by decide) (hts _ (List.mem_cons_of_mem _ mw_389)) (fun _ h9 => h9) rfl (by decide +kernel) rfl rfl (Nat.le_of_ble_eq_true rfl) dXM_join_47 (fun H locs hP hD hS => ?_)
          have hP : va_P g.1 vwCl (mt_MW g am av ab (nI cn) 1 fv fb Z) H := hP
          have hD : va_D (mt_A g) (mt_MW g am av ab (nI cn) 1 fv fb Z) := hD
          refine lv_aload_n hx hb dXM_join_50 rfl (lv_at hl 0 rfl) ?_
          refine va_get (D := g.1) (ci := 2) (v := .int 1) (C := RXM) (T := TXM) (N := 4) hx hb hts (fun w h => List.mem_cons_of_mem _ (in_XM w h)) hown hK hP 0 rfl rfl 3 (by decide) (hts _ (List.mem_cons_of_mem _ mw_389)) (fun _ h9 => h9) rfl dXM_join_51 ?_
          refine lv_if_le (tgt := 61) hx hb dXM_join_54 (by decide) (fun z => absurd z (show ¬ (1 : Int32) ≤ 0 by decide)) (fun _ => ?_)
          refine lv_iconst (v := 0) hx hb dXM_join_57 (by decide +kernel) ?_
          refine lv_goto (tgt := 68) hx hb dXM_join_58 (by decide) ?_
          exact W.iret (v := 0) hx hb hr (fun t9 ht hW => ⟨⟨0, (cn, 1, fv, fb), rfl, Or.inl ⟨fun h9 => c2 h9.2.2.2, rfl⟩, by rw [ht]; exact hP, hD⟩, hS.F ht⟩) hS.2.2 dXM_join_68
    · refine lv_if_eq (tgt := 28) hx hb dXM_join_14 (by decide) (fun _ => ?_) (fun z => absurd rfl z)
      refine lv_iconst (v := 1) hx hb dXM_join_28 (by decide +kernel) ?_
      refine lv_goto (tgt := 47) hx hb dXM_join_29 (by decide) ?_
      refine va_put (D := g.1) (ci := 2) (v := .int 1) (ty := .int) (C := RXM) (T := TXM) (N := 4) hx hb hts (fun w h => List.mem_cons_of_mem _ (in_XM w h)) tyXM tyXM_ok nmXM hown hK hP hD hS 0 rfl rfl 3 (by decide) (hts _ (List.mem_cons_of_mem _ mw_389)) (fun _ h9 => h9) rfl (by decide +kernel) rfl rfl (Nat.le_of_ble_eq_true rfl) dXM_join_47 (fun H locs hP hD hS => ?_)
      have hP : va_P g.1 vwCl (mt_MW g am av ab (nI cn) 1 fv fb Z) H := hP
      have hD : va_D (mt_A g) (mt_MW g am av ab (nI cn) 1 fv fb Z) := hD
      refine lv_aload_n hx hb dXM_join_50 rfl (lv_at hl 0 rfl) ?_
      refine va_get (D := g.1) (ci := 2) (v := .int 1) (C := RXM) (T := TXM) (N := 4) hx hb hts (fun w h => List.mem_cons_of_mem _ (in_XM w h)) hown hK hP 0 rfl rfl 3 (by decide) (hts _ (List.mem_cons_of_mem _ mw_389)) (fun _ h9 => h9) rfl dXM_join_51 ?_
      refine lv_if_le (tgt := 61) hx hb dXM_join_54 (by decide) (fun z => absurd z (show ¬ (1 : Int32) ≤ 0 by decide)) (fun _ => ?_)
      refine lv_iconst (v := 0) hx hb dXM_join_57 (by decide +kernel) ?_
      refine lv_goto (tgt := 68) hx hb dXM_join_58 (by decide) ?_
      exact W.iret (v := 0) hx hb hr (fun t9 ht hW => ⟨⟨0, (cn, 1, fv, fb), rfl, Or.inl ⟨fun h9 => hver2 h9.2.1, rfl⟩, by rw [ht]; exact hP, hD⟩, hS.F ht⟩) hS.2.2 dXM_join_68
  · refine lv_if_eq (tgt := 28) hx hb dXM_join_6 (by decide) (fun _ => ?_) (fun z => absurd rfl z)
    refine lv_iconst (v := 1) hx hb dXM_join_28 (by decide +kernel) ?_
    refine lv_goto (tgt := 47) hx hb dXM_join_29 (by decide) ?_
    refine va_put (D := g.1) (ci := 2) (v := .int 1) (ty := .int) (C := RXM) (T := TXM) (N := 4) hx hb hts (fun w h => List.mem_cons_of_mem _ (in_XM w h)) tyXM tyXM_ok nmXM hown hK hP hD hS 0 rfl rfl 3 (by decide) (hts _ (List.mem_cons_of_mem _ mw_389)) (fun _ h9 => h9) rfl (by decide +kernel) rfl rfl (Nat.le_of_ble_eq_true rfl) dXM_join_47 (fun H locs hP hD hS => ?_)
    have hP : va_P g.1 vwCl (mt_MW g am av ab (nI cn) 1 fv fb Z) H := hP
    have hD : va_D (mt_A g) (mt_MW g am av ab (nI cn) 1 fv fb Z) := hD
    refine lv_aload_n hx hb dXM_join_50 rfl (lv_at hl 0 rfl) ?_
    refine va_get (D := g.1) (ci := 2) (v := .int 1) (C := RXM) (T := TXM) (N := 4) hx hb hts (fun w h => List.mem_cons_of_mem _ (in_XM w h)) hown hK hP 0 rfl rfl 3 (by decide) (hts _ (List.mem_cons_of_mem _ mw_389)) (fun _ h9 => h9) rfl dXM_join_51 ?_
    refine lv_if_le (tgt := 61) hx hb dXM_join_54 (by decide) (fun z => absurd z (show ¬ (1 : Int32) ≤ 0 by decide)) (fun _ => ?_)
    refine lv_iconst (v := 0) hx hb dXM_join_57 (by decide +kernel) ?_
    refine lv_goto (tgt := 68) hx hb dXM_join_58 (by decide) ?_
    exact W.iret (v := 0) hx hb hr (fun t9 ht hW => ⟨⟨0, (cn, 1, fv, fb), rfl, Or.inl ⟨fun h9 => hver h9.1, rfl⟩, by rw [ht]; exact hP, hD⟩, hS.F ht⟩) hS.2.2 dXM_join_68
end
section
set_option maxHeartbeats 4000000 in
set_option maxRecDepth 100000 in
/-- the reference: select -/
theorem c_M_select (l : Launch) (g : mt_G) (am av ab : Nat) (cn : Nat) (th : Int32) (fv fb : Nat → Int32) (Z : va_W) (hcn : cn ≤ 600) (hfb : ∀ j, fb j = 0 ∨ fb j = 1) (v i : Int32) : Met l yXM_select wsXM_select ({ frames := 1, cells := 0, slots := 0, locals := 60 }) (mt_Pc g (mt_MW g am av ab (nI cn) th fv fb Z) [.ref am, .int v, .int i]) (va_Qi (fun r q => (¬ (∃ j, j < cn ∧ v = nI j ∧ 0 ≤ i ∧ i < nI (mt_c (mt_ft fv fb j) 0 256)) ∧ q = (cn, 1, fv, fb)) ∨ (q = (cn, 0, fv, fb) ∧ ∃ j n k, j < cn ∧ v = nI j ∧ i = nI n ∧ n < 256 ∧ k < 256 ∧ r = nI k ∧ mt_ft fv fb j k ≠ none ∧ mt_c (mt_ft fv fb j) 0 k = n)) (fun (q : Nat × Int32 × (Nat → Int32) × (Nat → Int32)) t => mt_B g (mt_MW g am av ab (nI q.1) q.2.1 q.2.2.1 q.2.2.2 Z) t) (mt_A g)) (0) (0) (mt_A g) := by
  refine Met.ofW (cc := cXM_select) (maxL := 5) (ret := (some .int)) (by decide) rfl ?_
  intro p e s m args below meth c s₁ B hml hv
  obtain ⟨rfl, hE, hz, hP, hD⟩ := hv
  have hx := B.exec
  have hb := B.bytes
  have hr := B.returns
  have hts := atoms_spec (ws := wsXM_select) B.pre
  have hown : s.vm.findClass RXM = some m.cls := findClass_of_methodNamed B.named
  have hlocks := B.notSynchronized
  have hK := hE.k
  have hA : ∀ q : Nat, s.heap.size ≤ q → mt_A g q := fun q h => Nat.le_trans hz h
  have hS : va_S (mt_A g) s.heap s.heap [] := va_S.rf
  have hl := lv_entry ([.ref am, .int v, .int i]) (n := 5) (Nat.le_of_ble_eq_true rfl)
  rw [lg_entry_eq]
  generalize (lg_sl ([.ref am, .int v, .int i]) ++ List.replicate (5 - (lg_sl ([.ref am, .int v, .int i])).length) Slot.unset).toArray = ls at hl ⊢
  have hl : lv_has ls 5 [(0, .ref am), (1, .int v), (2, .int i)] := hl
  have hH : s.heap = s.heap := rfl
  refine lv_aload_n hx hb dXM_select_0 rfl (lv_at hl 0 rfl) ?_
  refine lv_iconst (v := 1) hx hb dXM_select_1 (by decide +kernel) ?_
  refine va_put (D := g.1) (ci := 2) (v := .int 1) (ty := .int) (C := RXM) (T := TXM) (N := 4) hx hb hts (fun w h => List.mem_cons_of_mem _ (in_XM w h)) tyXM tyXM_ok nmXM hown hK hP hD hS 0 rfl rfl 3 (by decide) (hts _ (List.mem_cons_of_mem _ mw_389)) (fun _ h9 => h9) rfl (by decide +kernel) rfl rfl (Nat.le_of_ble_eq_true rfl) dXM_select_2 (fun H locs hP hD hS => ?_)
  have hP : va_P g.1 vwCl (mt_MW g am av ab (nI cn) 1 fv fb Z) H := hP
  have hD : va_D (mt_A g) (mt_MW g am av ab (nI cn) 1 fv fb Z) := hD
  refine lv_aload_n hx hb dXM_select_5 rfl (lv_at hl 0 rfl) ?_
  refine lv_iload_n hx hb dXM_select_6 rfl (lv_at hl 1 rfl) ?_
  refine vp_callSi (W.runV (As := [.int v]) (rest := []) ⟨hx, hb, hml, hown, hts⟩ (c_M_isOne l g am av ab cn 1 fv fb Z hcn v) (cwV 1 hts (mt_giV mw_409 mw_410 mw_471 mw_5 (mt_gi mw_411)) rfl rfl rfl (by decide +kernel) ⟨by decide, by decide⟩) (mt_preV hE hz hS hP hD (va_recv hK hP (q := (RXM, TXM, 4)) (q0 := 0) rfl rfl)) rfl rfl hl.1 rfl (lv_room (Nat.le_of_ble_eq_true rfl)) dXM_select_7 ⟨Nat.zero_le _, Nat.zero_le _⟩) (fun z1 e1 => ?_)
  rcases e1 with ⟨rfl, hver⟩ | ⟨rfl, hver⟩
  · refine lv_if_eq (tgt := 17) hx hb dXM_select_10 (by decide) (fun z => absurd z (show ¬ (1 : Int32) = 0 by decide)) (fun _ => ?_)
    refine lv_iload_n hx hb dXM_select_13 rfl (lv_at hl 2 rfl) ?_
    refine lv_if_ge (tgt := 19) hx hb dXM_select_14 (by decide) (fun c1 => ?_) (fun c1 => ?_)
    · obtain ⟨j, hj, rfl⟩ := mt_ver_nat hcn hver
      obtain ⟨n, hn31, rfl⟩ := nI_of (x := i) (Int32.not_lt.mpr c1)
      have hone : ∀ j2, j2 < cn → nI j = nI j2 → j = j2 := fun j2 h9 e9 => (nI_eq (by omega) (by omega)).mp e9
      refine lv_iload_n hx hb dXM_select_19 rfl (lv_at hl 2 rfl) ?_
      refine lv_istore_n (i := 3) (lv' := [(3, .int (nI n)), (0, .ref am), (1, .int (nI j)), (2, .int (nI n))]) hx hb dXM_select_20 rfl hl (by decide) rfl (fun ls hl => ?_)
      refine lv_iconst (v := 0) hx hb dXM_select_21 (by decide +kernel) ?_
      refine lv_istore (i := 4) (lv' := [(4, .int 0), (3, .int (nI n)), (0, .ref am), (1, .int (nI j)), (2, .int (nI n))]) hx hb dXM_select_22 hl (by decide) rfl (fun ls hl => ?_)
      refine qa_for (V := Nat) (fun v => 256 - v) (fun v => [(4, .int (nI v)), (3, .int (nI (n - mt_c (mt_ft fv fb j) 0 v))), (0, .ref am), (1, .int (nI j)), (2, .int (nI n))]) (fun v => v ≤ 256 ∧ mt_c (mt_ft fv fb j) 0 v ≤ n) ?_ 0 ls ⟨Nat.zero_le _, Nat.zero_le _⟩ hl
      intro k ls hi hl ih
      obtain ⟨hk6, hkn⟩ := hi
      have hcs : mt_c (mt_ft fv fb j) 0 (k + 1) = mt_c (mt_ft fv fb j) 0 k + mt_1 (mt_ft fv fb j) k := by show _ + mt_1 _ (0 + k) = _; rw [Nat.zero_add]
      refine lv_iload hx hb dXM_select_24 (lv_at hl 0 rfl) ?_
      refine lv_sipush (v := (nI 256)) hx hb dXM_select_26 (by decide +kernel) ?_
      by_cases hlt : k < 256
      · refine lv_icmp_ge (tgt := 72) hx hb dXM_select_29 (by decide) (fun z => absurd z (nI_ge hlt (by omega))) (fun _ => ?_)
        refine lv_aload_n hx hb dXM_select_32 rfl (lv_at hl 2 rfl) ?_
        refine va_get (D := g.1) (ci := 2) (v := .ref ab) (C := RXM) (T := TXM) (N := 4) hx hb hts (fun w h => List.mem_cons_of_mem _ (in_XM w h)) hown hK hP 0 rfl rfl 1 (by decide) (hts _ (List.mem_cons_of_mem _ mw_387)) (fun _ h9 => h9) rfl dXM_select_33 ?_
        refine lv_sipush (v := (nI 256)) hx hb dXM_select_36 (by decide +kernel) ?_
        refine lv_iload_n hx hb dXM_select_39 rfl (lv_at hl 3 rfl) ?_
        refine lv_imul hx hb dXM_select_40 ?_
        refine qa_i (y := (nI (256 * j))) (pk_mul 256 j) ?_
        refine lv_iload hx hb dXM_select_41 (lv_at hl 0 rfl) ?_
        refine lv_iadd hx hb dXM_select_43 ?_
        refine qa_i (y := (nI (256 * j + k))) (nI_add (256 * j) k) ?_
        refine va_zald (D := g.1) (cl := vwCl) hx hb hK hP 2 3 rfl rfl (vp_in_nI (n := 256 * j + k) (by omega) (by decide)) dXM_select_44 ?_
        refine qa_i (y := (fb (256 * j + k))) (by rw [nI_clamp (by omega)]) ?_
        rcases hfb (256 * j + k) with hf0 | hf1
        · refine qa_i (y := 0) hf0 ?_
          refine lv_if_ne (tgt := 51) hx hb dXM_select_45 (by decide) (fun z => absurd rfl z) (fun _ => ?_)
          refine lv_goto (tgt := 66) hx hb dXM_select_48 (by decide) ?_
          refine lv_iinc (k := 0) (v := (nI (k + 1))) (lv' := [(4, .int (nI (k + 1))), (3, .int (nI (n - mt_c (mt_ft fv fb j) 0 k))), (0, .ref am), (1, .int (nI j)), (2, .int (nI n))]) hx hb dXM_select_66 hl rfl (nI_1 k) (by decide) rfl (fun ls hl => ?_)
          refine lv_goto (tgt := 24) hx hb dXM_select_69 (by decide) ?_
          have hc0 : mt_1 (mt_ft fv fb j) k = 0 := mt_1_0 (if_pos hf0)
          rw [show mt_c (mt_ft fv fb j) 0 k = mt_c (mt_ft fv fb j) 0 (k + 1) by omega] at hl
          have hl := lv_sub (l' := [(4, .int (nI (k + 1))), (3, .int (nI (n - mt_c (mt_ft fv fb j) 0 (k + 1)))), (0, .ref am), (1, .int (nI j)), (2, .int (nI n))]) hl [0, 1, 2, 3, 4] rfl
          exact ih (k + 1) ls (by omega) ⟨by omega, by omega⟩ hl
        · refine qa_i (y := 1) hf1 ?_
          refine lv_if_ne (tgt := 51) hx hb dXM_select_45 (by decide) (fun _ => ?_) (fun z => absurd z (show ¬ (1 : Int32) = 0 by decide))
          refine lv_iload_n hx hb dXM_select_51 rfl (lv_at hl 1 rfl) ?_
          have hne : mt_ft fv fb j k ≠ none := by unfold mt_ft; rw [if_neg (by rw [hf1]; decide)]; intro z9; cases z9
          have hc1 : mt_1 (mt_ft fv fb j) k = 1 := mt_1_1 hne
          by_cases hz0 : n - mt_c (mt_ft fv fb j) 0 k = 0
          · refine lv_if_ne (tgt := 63) hx hb dXM_select_52 (by decide) (fun z => absurd (by rw [hz0]; rfl) z) (fun _ => ?_)
            refine lv_aload_n hx hb dXM_select_55 rfl (lv_at hl 2 rfl) ?_
            refine lv_iconst (v := 0) hx hb dXM_select_56 (by decide +kernel) ?_
            refine va_put (D := g.1) (ci := 2) (v := .int 0) (ty := .int) (C := RXM) (T := TXM) (N := 4) hx hb hts (fun w h => List.mem_cons_of_mem _ (in_XM w h)) tyXM tyXM_ok nmXM hown hK hP hD hS 0 rfl rfl 3 (by decide) (hts _ (List.mem_cons_of_mem _ mw_389)) (fun _ h9 => h9) rfl (by decide +kernel) rfl rfl (Nat.le_of_ble_eq_true rfl) dXM_select_57 (fun H locs hP hD hS => ?_)
            have hP : va_P g.1 vwCl (mt_MW g am av ab (nI cn) 0 fv fb Z) H := hP
            have hD : va_D (mt_A g) (mt_MW g am av ab (nI cn) 0 fv fb Z) := hD
            refine lv_iload hx hb dXM_select_60 (lv_at hl 0 rfl) ?_
            exact W.iret (v := (nI k)) hx hb hr (fun t9 ht hW => ⟨⟨(nI k), (cn, 0, fv, fb), rfl, Or.inr ⟨rfl, j, n, k, hj, rfl, rfl, by have := mt_c_le (mt_ft fv fb j) 0 k; omega, hlt, rfl, hne, by omega⟩, by rw [ht]; exact hP, hD⟩, hS.F ht⟩) hS.2.2 dXM_select_62
          · refine lv_if_ne (tgt := 63) hx hb dXM_select_52 (by decide) (fun _ => ?_) (fun z => absurd z (fun e9 => absurd ((nI_eq (b := 0) (by omega) (by omega)).mp e9) hz0))
            refine lv_iinc (k := 1) (v := (nI (n - mt_c (mt_ft fv fb j) 0 (k + 1)))) (lv' := [(3, .int (nI (n - mt_c (mt_ft fv fb j) 0 (k + 1)))), (4, .int (nI k)), (0, .ref am), (1, .int (nI j)), (2, .int (nI n))]) hx hb dXM_select_63 hl rfl (by rw [hcs, hc1]; exact sb_m1s (by omega)) (by decide) rfl (fun ls hl => ?_)
            refine lv_iinc (k := 1) (v := (nI (k + 1))) (lv' := [(4, .int (nI (k + 1))), (3, .int (nI (n - mt_c (mt_ft fv fb j) 0 (k + 1)))), (0, .ref am), (1, .int (nI j)), (2, .int (nI n))]) hx hb dXM_select_66 hl rfl (nI_1 k) (by decide) rfl (fun ls hl => ?_)
            refine lv_goto (tgt := 24) hx hb dXM_select_69 (by decide) ?_
            have hl := lv_sub (l' := [(4, .int (nI (k + 1))), (3, .int (nI (n - mt_c (mt_ft fv fb j) 0 (k + 1)))), (0, .ref am), (1, .int (nI j)), (2, .int (nI n))]) hl [0, 1, 2, 3, 4] rfl
            exact ih (k + 1) ls (by omega) ⟨by omega, by omega⟩ hl
      · refine lv_icmp_ge (tgt := 72) hx hb dXM_select_29 (by decide) (fun _ => ?_) (fun z => absurd (nI_le (a := 256) (b := k) (by omega) (by omega)) z)
        refine lv_iconst (v := 0) hx hb dXM_select_72 (by decide +kernel) ?_
        have ek : k = 256 := by omega
        subst ek
        exact W.iret (v := 0) hx hb hr (fun t9 ht hW => ⟨⟨0, (cn, 1, fv, fb), rfl, Or.inl ⟨fun ⟨j2, h8, e8, _, h9⟩ => absurd ((nI_ltI hn31 (by have := mt_c_le (mt_ft fv fb j2) 0 256; omega)).mp h9) (by rw [← hone j2 h8 e8]; omega), rfl⟩, by rw [ht]; exact hP, hD⟩, hS.F ht⟩) hS.2.2 dXM_select_73
    · refine lv_iconst (v := 0) hx hb dXM_select_17 (by decide +kernel) ?_
      exact W.iret (v := 0) hx hb hr (fun t9 ht hW => ⟨⟨0, (cn, 1, fv, fb), rfl, Or.inl ⟨fun ⟨_, _, _, h9, _⟩ => c1 h9, rfl⟩, by rw [ht]; exact hP, hD⟩, hS.F ht⟩) hS.2.2 dXM_select_18
  · refine lv_if_eq (tgt := 17) hx hb dXM_select_10 (by decide) (fun _ => ?_) (fun z => absurd rfl z)
    refine lv_iconst (v := 0) hx hb dXM_select_17 (by decide +kernel) ?_
    exact W.iret (v := 0) hx hb hr (fun t9 ht hW => ⟨⟨0, (cn, 1, fv, fb), rfl, Or.inl ⟨fun ⟨j, h8, e8, _⟩ => hver (mt_ver_of hcn h8 e8), rfl⟩, by rw [ht]; exact hP, hD⟩, hS.F ht⟩) hS.2.2 dXM_select_18
set_option maxHeartbeats 4000000 in
set_option maxRecDepth 100000 in
/-- the reference: many -/
theorem c_M_many (l : Launch) (g : mt_G) (am av ab : Nat) (cn : Nat) (th : Int32) (fv fb : Nat → Int32) (Z : va_W) (hcn : cn ≤ 600) (hfb : ∀ j, fb j = 0 ∨ fb j = 1) (v a b : Int32) : Met l yXM_many wsXM_many ({ frames := 1, cells := 0, slots := 0, locals := 60 }) (mt_Pc g (mt_MW g am av ab (nI cn) th fv fb Z) [.ref am, .int v, .int a, .int b]) (va_Qi (fun r q => (¬ mt_ver v cn ∧ q = (cn, 1, fv, fb)) ∨ (q = (cn, 0, fv, fb) ∧ ∃ j, j < cn ∧ v = nI j ∧ r = nI (mt_m (mt_ft fv fb j) (mt_cl a) (mt_cl b) 256))) (fun (q : Nat × Int32 × (Nat → Int32) × (Nat → Int32)) t => mt_B g (mt_MW g am av ab (nI q.1) q.2.1 q.2.2.1 q.2.2.2 Z) t) (mt_A g)) (0) (0) (mt_A g) := by
  refine Met.ofW (cc := cXM_many) (maxL := 6) (ret := (some .int)) (by decide) rfl ?_
  intro p e s m args below meth c s₁ B hml hv
  obtain ⟨rfl, hE, hz, hP, hD⟩ := hv
  have hx := B.exec
  have hb := B.bytes
  have hr := B.returns
  have hts := atoms_spec (ws := wsXM_many) B.pre
  have hown : s.vm.findClass RXM = some m.cls := findClass_of_methodNamed B.named
  have hlocks := B.notSynchronized
  have hK := hE.k
  have hA : ∀ q : Nat, s.heap.size ≤ q → mt_A g q := fun q h => Nat.le_trans hz h
  have hS : va_S (mt_A g) s.heap s.heap [] := va_S.rf
  have hl := lv_entry ([.ref am, .int v, .int a, .int b]) (n := 6) (Nat.le_of_ble_eq_true rfl)
  rw [lg_entry_eq]
  generalize (lg_sl ([.ref am, .int v, .int a, .int b]) ++ List.replicate (6 - (lg_sl ([.ref am, .int v, .int a, .int b])).length) Slot.unset).toArray = ls at hl ⊢
  have hl : lv_has ls 6 [(0, .ref am), (1, .int v), (2, .int a), (3, .int b)] := hl
  have hH : s.heap = s.heap := rfl
  refine lv_aload_n hx hb dXM_many_0 rfl (lv_at hl 0 rfl) ?_
  refine lv_aload_n hx hb dXM_many_1 rfl (lv_at hl 0 rfl) ?_
  refine lv_iload_n hx hb dXM_many_2 rfl (lv_at hl 1 rfl) ?_
  refine vp_callSi (W.runV (As := [.int v]) (rest := [.ref am]) ⟨hx, hb, hml, hown, hts⟩ (c_M_isOne l g am av ab cn th fv fb Z hcn v) (cwV 1 hts (mt_giV mw_409 mw_410 mw_471 mw_5 (mt_gi mw_411)) rfl rfl rfl (by decide +kernel) ⟨by decide, by decide⟩) (mt_preV hE hz hS hP hD (va_recv hK hP (q := (RXM, TXM, 4)) (q0 := 0) rfl rfl)) rfl rfl hl.1 rfl (lv_room (Nat.le_of_ble_eq_true rfl)) dXM_many_3 ⟨Nat.zero_le _, Nat.zero_le _⟩) (fun z1 e1 => ?_)
  rcases e1 with ⟨rfl, hver⟩ | ⟨rfl, hver⟩
  · refine lv_if_eq (tgt := 13) hx hb dXM_many_6 (by decide) (fun z => absurd z (show ¬ (1 : Int32) = 0 by decide)) (fun _ => ?_)
    refine lv_iconst (v := 0) hx hb dXM_many_9 (by decide +kernel) ?_
    refine lv_goto (tgt := 14) hx hb dXM_many_10 (by decide) ?_
    refine va_put (D := g.1) (ci := 2) (v := .int 0) (ty := .int) (C := RXM) (T := TXM) (N := 4) hx hb hts (fun w h => List.mem_cons_of_mem _ (in_XM w h)) tyXM tyXM_ok nmXM hown hK hP hD hS 0 rfl rfl 3 (by decide) (hts _ (List.mem_cons_of_mem _ mw_389)) (fun _ h9 => h9) rfl (by decide +kernel) rfl rfl (Nat.le_of_ble_eq_true rfl) dXM_many_14 (fun H locs hP hD hS => ?_)
    have hP : va_P g.1 vwCl (mt_MW g am av ab (nI cn) 0 fv fb Z) H := hP
    have hD : va_D (mt_A g) (mt_MW g am av ab (nI cn) 0 fv fb Z) := hD
    obtain ⟨j, hj, rfl⟩ := mt_ver_nat hcn hver
    refine lv_iconst (v := 0) hx hb dXM_many_17 (by decide +kernel) ?_
    refine lv_istore (i := 4) (lv' := [(4, .int 0), (0, .ref am), (1, .int (nI j)), (2, .int a), (3, .int b)]) hx hb dXM_many_18 hl (by decide) rfl (fun ls hl => ?_)
    refine lv_iconst (v := 0) hx hb dXM_many_20 (by decide +kernel) ?_
    refine lv_istore (i := 5) (lv' := [(5, .int 0), (4, .int 0), (0, .ref am), (1, .int (nI j)), (2, .int a), (3, .int b)]) hx hb dXM_many_21 hl (by decide) rfl (fun ls hl => ?_)
    refine qa_for (V := Nat) (fun v => 256 - v) (fun v => [(5, .int (nI v)), (4, .int (nI (mt_m (mt_ft fv fb j) (mt_cl a) (mt_cl b) v))), (0, .ref am), (1, .int (nI j)), (2, .int a), (3, .int b)]) (fun v => v ≤ 256) ?_ 0 ls (Nat.zero_le _) hl
    intro k ls hk6 hl ih
    refine lv_iload hx hb dXM_many_23 (lv_at hl 0 rfl) ?_
    refine lv_sipush (v := (nI 256)) hx hb dXM_many_25 (by decide +kernel) ?_
    by_cases hlt : k < 256
    · refine lv_icmp_ge (tgt := 75) hx hb dXM_many_28 (by decide) (fun z => absurd z (nI_ge hlt (by omega))) (fun _ => ?_)
      refine lv_aload_n hx hb dXM_many_31 rfl (lv_at hl 2 rfl) ?_
      refine va_get (D := g.1) (ci := 2) (v := .int 0) (C := RXM) (T := TXM) (N := 4) hx hb hts (fun w h => List.mem_cons_of_mem _ (in_XM w h)) hown hK hP 0 rfl rfl 3 (by decide) (hts _ (List.mem_cons_of_mem _ mw_389)) (fun _ h9 => h9) rfl dXM_many_32 ?_
      refine lv_if_ne (tgt := 75) hx hb dXM_many_35 (by decide) (fun z => absurd (show (0 : Int32) = 0 from rfl) z) (fun _ => ?_)
      refine lv_iload hx hb dXM_many_38 (lv_at hl 0 rfl) ?_
      refine lv_iload_n hx hb dXM_many_40 rfl (lv_at hl 4 rfl) ?_
      refine lv_icmp_lt (tgt := 69) hx hb dXM_many_41 (by decide) (fun c1 => ?_) (fun c1 => ?_)
      · refine lv_iinc (k := 0) (v := (nI (k + 1))) (lv' := [(5, .int (nI (k + 1))), (4, .int (nI (mt_m (mt_ft fv fb j) (mt_cl a) (mt_cl b) k))), (0, .ref am), (1, .int (nI j)), (2, .int a), (3, .int b)]) hx hb dXM_many_69 hl rfl (nI_1 k) (by decide) rfl (fun ls hl => ?_)
        refine lv_goto (tgt := 23) hx hb dXM_many_72 (by decide) ?_
        have hsk : nI (mt_m (mt_ft fv fb j) (mt_cl a) (mt_cl b) (k + 1)) = nI (mt_m (mt_ft fv fb j) (mt_cl a) (mt_cl b) k) := by show nI (mt_m _ _ _ k + _) = _; rw [if_neg (fun h9 => absurd c1 (Int32.not_lt.mpr ((mt_cl_ge hlt).mpr h9.1)))]; rfl
        rw [← hsk] at hl
        have hl := lv_sub (l' := [(5, .int (nI (k + 1))), (4, .int (nI (mt_m (mt_ft fv fb j) (mt_cl a) (mt_cl b) (k + 1)))), (0, .ref am), (1, .int (nI j)), (2, .int a), (3, .int b)]) hl [0, 1, 2, 3, 4, 5] rfl
        exact ih (k + 1) ls (by omega) hlt hl
      · refine lv_iload hx hb dXM_many_44 (lv_at hl 0 rfl) ?_
        refine lv_iload_n hx hb dXM_many_46 rfl (lv_at hl 5 rfl) ?_
        refine lv_icmp_ge (tgt := 69) hx hb dXM_many_47 (by decide) (fun c2 => ?_) (fun c2 => ?_)
        · refine lv_iinc (k := 0) (v := (nI (k + 1))) (lv' := [(5, .int (nI (k + 1))), (4, .int (nI (mt_m (mt_ft fv fb j) (mt_cl a) (mt_cl b) k))), (0, .ref am), (1, .int (nI j)), (2, .int a), (3, .int b)]) hx hb dXM_many_69 hl rfl (nI_1 k) (by decide) rfl (fun ls hl => ?_)
          refine lv_goto (tgt := 23) hx hb dXM_many_72 (by decide) ?_
          have hsk : nI (mt_m (mt_ft fv fb j) (mt_cl a) (mt_cl b) (k + 1)) = nI (mt_m (mt_ft fv fb j) (mt_cl a) (mt_cl b) k) := by show nI (mt_m _ _ _ k + _) = _; rw [if_neg (fun h9 => absurd ((mt_cl_lt hlt).mpr h9.2.1) (Int32.not_lt.mpr c2))]; rfl
          rw [← hsk] at hl
          have hl := lv_sub (l' := [(5, .int (nI (k + 1))), (4, .int (nI (mt_m (mt_ft fv fb j) (mt_cl a) (mt_cl b) (k + 1)))), (0, .ref am), (1, .int (nI j)), (2, .int a), (3, .int b)]) hl [0, 1, 2, 3, 4, 5] rfl
          exact ih (k + 1) ls (by omega) hlt hl
        · refine lv_aload_n hx hb dXM_many_50 rfl (lv_at hl 2 rfl) ?_
          refine va_get (D := g.1) (ci := 2) (v := .ref ab) (C := RXM) (T := TXM) (N := 4) hx hb hts (fun w h => List.mem_cons_of_mem _ (in_XM w h)) hown hK hP 0 rfl rfl 1 (by decide) (hts _ (List.mem_cons_of_mem _ mw_387)) (fun _ h9 => h9) rfl dXM_many_51 ?_
          refine lv_sipush (v := (nI 256)) hx hb dXM_many_54 (by decide +kernel) ?_
          refine lv_iload_n hx hb dXM_many_57 rfl (lv_at hl 3 rfl) ?_
          refine lv_imul hx hb dXM_many_58 ?_
          refine qa_i (y := (nI (256 * j))) (pk_mul 256 j) ?_
          refine lv_iload hx hb dXM_many_59 (lv_at hl 0 rfl) ?_
          refine lv_iadd hx hb dXM_many_61 ?_
          refine qa_i (y := (nI (256 * j + k))) (nI_add (256 * j) k) ?_
          refine va_zald (D := g.1) (cl := vwCl) hx hb hK hP 2 3 rfl rfl (vp_in_nI (n := 256 * j + k) (by omega) (by decide)) dXM_many_62 ?_
          refine qa_i (y := (fb (256 * j + k))) (by rw [nI_clamp (by omega)]) ?_
          rcases hfb (256 * j + k) with hf0 | hf1
          · refine qa_i (y := 0) hf0 ?_
            refine lv_if_eq (tgt := 69) hx hb dXM_many_63 (by decide) (fun _ => ?_) (fun z => absurd rfl z)
            have hno : mt_ft fv fb j k = none := if_pos hf0
            refine lv_iinc (k := 0) (v := (nI (k + 1))) (lv' := [(5, .int (nI (k + 1))), (4, .int (nI (mt_m (mt_ft fv fb j) (mt_cl a) (mt_cl b) k))), (0, .ref am), (1, .int (nI j)), (2, .int a), (3, .int b)]) hx hb dXM_many_69 hl rfl (nI_1 k) (by decide) rfl (fun ls hl => ?_)
            refine lv_goto (tgt := 23) hx hb dXM_many_72 (by decide) ?_
            have hsk : nI (mt_m (mt_ft fv fb j) (mt_cl a) (mt_cl b) (k + 1)) = nI (mt_m (mt_ft fv fb j) (mt_cl a) (mt_cl b) k) := by show nI (mt_m _ _ _ k + _) = _; rw [if_neg (fun h9 => h9.2.2 hno)]; rfl
            rw [← hsk] at hl
            have hl := lv_sub (l' := [(5, .int (nI (k + 1))), (4, .int (nI (mt_m (mt_ft fv fb j) (mt_cl a) (mt_cl b) (k + 1)))), (0, .ref am), (1, .int (nI j)), (2, .int a), (3, .int b)]) hl [0, 1, 2, 3, 4, 5] rfl
            exact ih (k + 1) ls (by omega) hlt hl
          · refine qa_i (y := 1) hf1 ?_
            refine lv_if_eq (tgt := 69) hx hb dXM_many_63 (by decide) (fun z => absurd z (show ¬ (1 : Int32) = 0 by decide)) (fun _ => ?_)
            have hso : mt_ft fv fb j k = some (fv (256 * j + k)) := if_neg (by rw [hf1]; decide)
            have hst : nI (mt_m (mt_ft fv fb j) (mt_cl a) (mt_cl b) (k + 1)) = nI (mt_m (mt_ft fv fb j) (mt_cl a) (mt_cl b) k + 1) := by show nI (mt_m _ _ _ k + _) = _; rw [if_pos ⟨(mt_cl_ge hlt).mp (Int32.not_lt.mp c1), (mt_cl_lt hlt).mp (Int32.not_le.mp c2), by rw [hso]; intro z9; cases z9⟩]
            refine lv_iinc (k := 1) (v := (nI (mt_m (mt_ft fv fb j) (mt_cl a) (mt_cl b) (k + 1)))) (lv' := [(4, .int (nI (mt_m (mt_ft fv fb j) (mt_cl a) (mt_cl b) (k + 1)))), (5, .int (nI k)), (0, .ref am), (1, .int (nI j)), (2, .int a), (3, .int b)]) hx hb dXM_many_66 hl rfl (by rw [hst]; exact nI_1 _) (by decide) rfl (fun ls hl => ?_)
            refine lv_iinc (k := 1) (v := (nI (k + 1))) (lv' := [(5, .int (nI (k + 1))), (4, .int (nI (mt_m (mt_ft fv fb j) (mt_cl a) (mt_cl b) (k + 1)))), (0, .ref am), (1, .int (nI j)), (2, .int a), (3, .int b)]) hx hb dXM_many_69 hl rfl (nI_1 k) (by decide) rfl (fun ls hl => ?_)
            refine lv_goto (tgt := 23) hx hb dXM_many_72 (by decide) ?_
            have hl := lv_sub (l' := [(5, .int (nI (k + 1))), (4, .int (nI (mt_m (mt_ft fv fb j) (mt_cl a) (mt_cl b) (k + 1)))), (0, .ref am), (1, .int (nI j)), (2, .int a), (3, .int b)]) hl [0, 1, 2, 3, 4, 5] rfl
            exact ih (k + 1) ls (by omega) hlt hl
    · refine lv_icmp_ge (tgt := 75) hx hb dXM_many_28 (by decide) (fun _ => ?_) (fun z => absurd (nI_le (a := 256) (b := k) (by omega) (by omega)) z)
      refine lv_iload hx hb dXM_many_75 (lv_at hl 1 rfl) ?_
      have ek : k = 256 := by omega
      subst ek
      exact W.iret (v := (nI (mt_m (mt_ft fv fb j) (mt_cl a) (mt_cl b) 256))) hx hb hr (fun t9 ht hW => ⟨⟨(nI (mt_m (mt_ft fv fb j) (mt_cl a) (mt_cl b) 256)), (cn, 0, fv, fb), rfl, Or.inr ⟨rfl, j, hj, rfl, rfl⟩, by rw [ht]; exact hP, hD⟩, hS.F ht⟩) hS.2.2 dXM_many_77
  · refine lv_if_eq (tgt := 13) hx hb dXM_many_6 (by decide) (fun _ => ?_) (fun z => absurd rfl z)
    refine lv_iconst (v := 1) hx hb dXM_many_13 (by decide +kernel) ?_
    refine va_put (D := g.1) (ci := 2) (v := .int 1) (ty := .int) (C := RXM) (T := TXM) (N := 4) hx hb hts (fun w h => List.mem_cons_of_mem _ (in_XM w h)) tyXM tyXM_ok nmXM hown hK hP hD hS 0 rfl rfl 3 (by decide) (hts _ (List.mem_cons_of_mem _ mw_389)) (fun _ h9 => h9) rfl (by decide +kernel) rfl rfl (Nat.le_of_ble_eq_true rfl) dXM_many_14 (fun H locs hP hD hS => ?_)
    have hP : va_P g.1 vwCl (mt_MW g am av ab (nI cn) 1 fv fb Z) H := hP
    have hD : va_D (mt_A g) (mt_MW g am av ab (nI cn) 1 fv fb Z) := hD
    refine lv_iconst (v := 0) hx hb dXM_many_17 (by decide +kernel) ?_
    refine lv_istore (i := 4) (lv' := [(4, .int 0), (0, .ref am), (1, .int v), (2, .int a), (3, .int b)]) hx hb dXM_many_18 hl (by decide) rfl (fun ls hl => ?_)
    refine lv_iconst (v := 0) hx hb dXM_many_20 (by decide +kernel) ?_
    refine lv_istore (i := 5) (lv' := [(5, .int 0), (4, .int 0), (0, .ref am), (1, .int v), (2, .int a), (3, .int b)]) hx hb dXM_many_21 hl (by decide) rfl (fun ls hl => ?_)
    refine lv_iload hx hb dXM_many_23 (lv_at hl 0 rfl) ?_
    refine lv_sipush (v := (nI 256)) hx hb dXM_many_25 (by decide +kernel) ?_
    refine lv_icmp_ge (tgt := 75) hx hb dXM_many_28 (by decide) (fun z => absurd z (show ¬ (nI 256) ≤ 0 by decide)) (fun _ => ?_)
    refine lv_aload_n hx hb dXM_many_31 rfl (lv_at hl 2 rfl) ?_
    refine va_get (D := g.1) (ci := 2) (v := .int 1) (C := RXM) (T := TXM) (N := 4) hx hb hts (fun w h => List.mem_cons_of_mem _ (in_XM w h)) hown hK hP 0 rfl rfl 3 (by decide) (hts _ (List.mem_cons_of_mem _ mw_389)) (fun _ h9 => h9) rfl dXM_many_32 ?_
    refine lv_if_ne (tgt := 75) hx hb dXM_many_35 (by decide) (fun _ => ?_) (fun z => absurd z (show ¬ (1 : Int32) = 0 by decide))
    refine lv_iload hx hb dXM_many_75 (lv_at hl 1 rfl) ?_
    exact W.iret (v := 0) hx hb hr (fun t9 ht hW => ⟨⟨0, (cn, 1, fv, fb), rfl, Or.inl ⟨hver, rfl⟩, by rw [ht]; exact hP, hD⟩, hS.F ht⟩) hS.2.2 dXM_many_77
set_option maxHeartbeats 4000000 in
set_option maxRecDepth 100000 in
/-- the reference: sum -/
theorem c_M_sum (l : Launch) (g : mt_G) (am av ab : Nat) (cn : Nat) (th : Int32) (fv fb : Nat → Int32) (Z : va_W) (hcn : cn ≤ 600) (hfb : ∀ j, fb j = 0 ∨ fb j = 1) (v a b : Int32) : Met l yXM_sum wsXM_sum ({ frames := 1, cells := 0, slots := 0, locals := 60 }) (mt_Pc g (mt_MW g am av ab (nI cn) th fv fb Z) [.ref am, .int v, .int a, .int b]) (va_Ql (fun r q => (¬ mt_ver v cn ∧ q = (cn, 1, fv, fb)) ∨ (q = (cn, 0, fv, fb) ∧ ∃ j, j < cn ∧ v = nI j ∧ r = mt_ms (mt_ft fv fb j) (mt_cl a) (mt_cl b) 256)) (fun (q : Nat × Int32 × (Nat → Int32) × (Nat → Int32)) t => mt_B g (mt_MW g am av ab (nI q.1) q.2.1 q.2.2.1 q.2.2.2 Z) t) (mt_A g)) (0) (0) (mt_A g) := by
  refine Met.ofW (cc := cXM_sum) (maxL := 7) (ret := (some .long)) (by decide) rfl ?_
  intro p e s m args below meth c s₁ B hml hv
  obtain ⟨rfl, hE, hz, hP, hD⟩ := hv
  have hx := B.exec
  have hb := B.bytes
  have hr := B.returns
  have hts := atoms_spec (ws := wsXM_sum) B.pre
  have hown : s.vm.findClass RXM = some m.cls := findClass_of_methodNamed B.named
  have hlocks := B.notSynchronized
  have hK := hE.k
  have hA : ∀ q : Nat, s.heap.size ≤ q → mt_A g q := fun q h => Nat.le_trans hz h
  have hS : va_S (mt_A g) s.heap s.heap [] := va_S.rf
  have hl := lv_entry ([.ref am, .int v, .int a, .int b]) (n := 7) (Nat.le_of_ble_eq_true rfl)
  rw [lg_entry_eq]
  generalize (lg_sl ([.ref am, .int v, .int a, .int b]) ++ List.replicate (7 - (lg_sl ([.ref am, .int v, .int a, .int b])).length) Slot.unset).toArray = ls at hl ⊢
  have hl : lv_has ls 7 [(0, .ref am), (1, .int v), (2, .int a), (3, .int b)] := hl
  have hH : s.heap = s.heap := rfl
  refine lv_aload_n hx hb dXM_sum_0 rfl (lv_at hl 0 rfl) ?_
  refine lv_aload_n hx hb dXM_sum_1 rfl (lv_at hl 0 rfl) ?_
  refine lv_iload_n hx hb dXM_sum_2 rfl (lv_at hl 1 rfl) ?_
  refine vp_callSi (W.runV (As := [.int v]) (rest := [.ref am]) ⟨hx, hb, hml, hown, hts⟩ (c_M_isOne l g am av ab cn th fv fb Z hcn v) (cwV 1 hts (mt_giV mw_409 mw_410 mw_471 mw_5 (mt_gi mw_411)) rfl rfl rfl (by decide +kernel) ⟨by decide, by decide⟩) (mt_preV hE hz hS hP hD (va_recv hK hP (q := (RXM, TXM, 4)) (q0 := 0) rfl rfl)) rfl rfl hl.1 rfl (lv_room (Nat.le_of_ble_eq_true rfl)) dXM_sum_3 ⟨Nat.zero_le _, Nat.zero_le _⟩) (fun z1 e1 => ?_)
  rcases e1 with ⟨rfl, hver⟩ | ⟨rfl, hver⟩
  · refine lv_if_eq (tgt := 13) hx hb dXM_sum_6 (by decide) (fun z => absurd z (show ¬ (1 : Int32) = 0 by decide)) (fun _ => ?_)
    refine lv_iconst (v := 0) hx hb dXM_sum_9 (by decide +kernel) ?_
    refine lv_goto (tgt := 14) hx hb dXM_sum_10 (by decide) ?_
    refine va_put (D := g.1) (ci := 2) (v := .int 0) (ty := .int) (C := RXM) (T := TXM) (N := 4) hx hb hts (fun w h => List.mem_cons_of_mem _ (in_XM w h)) tyXM tyXM_ok nmXM hown hK hP hD hS 0 rfl rfl 3 (by decide) (hts _ (List.mem_cons_of_mem _ mw_389)) (fun _ h9 => h9) rfl (by decide +kernel) rfl rfl (Nat.le_of_ble_eq_true rfl) dXM_sum_14 (fun H locs hP hD hS => ?_)
    have hP : va_P g.1 vwCl (mt_MW g am av ab (nI cn) 0 fv fb Z) H := hP
    have hD : va_D (mt_A g) (mt_MW g am av ab (nI cn) 0 fv fb Z) := hD
    obtain ⟨j, hj, rfl⟩ := mt_ver_nat hcn hver
    refine lv_lconst (v := 0) hx hb dXM_sum_17 (by decide +kernel) ?_
    refine lv_lstore (i := 4) (lv' := [(4, .long 0), (0, .ref am), (1, .int (nI j)), (2, .int a), (3, .int b)]) hx hb dXM_sum_18 hl (by decide) rfl (fun ls hl => ?_)
    refine lv_iconst (v := 0) hx hb dXM_sum_20 (by decide +kernel) ?_
    refine lv_istore (i := 6) (lv' := [(6, .int 0), (4, .long 0), (0, .ref am), (1, .int (nI j)), (2, .int a), (3, .int b)]) hx hb dXM_sum_21 hl (by decide) rfl (fun ls hl => ?_)
    refine qa_for (V := Nat) (fun v => 256 - v) (fun v => [(6, .int (nI v)), (4, .long (mt_ms (mt_ft fv fb j) (mt_cl a) (mt_cl b) v)), (0, .ref am), (1, .int (nI j)), (2, .int a), (3, .int b)]) (fun v => v ≤ 256) ?_ 0 ls (Nat.zero_le _) hl
    intro k ls hk6 hl ih
    refine lv_iload hx hb dXM_sum_23 (lv_at hl 0 rfl) ?_
    refine lv_sipush (v := (nI 256)) hx hb dXM_sum_25 (by decide +kernel) ?_
    by_cases hlt : k < 256
    · refine lv_icmp_ge (tgt := 91) hx hb dXM_sum_28 (by decide) (fun z => absurd z (nI_ge hlt (by omega))) (fun _ => ?_)
      refine lv_aload_n hx hb dXM_sum_31 rfl (lv_at hl 2 rfl) ?_
      refine va_get (D := g.1) (ci := 2) (v := .int 0) (C := RXM) (T := TXM) (N := 4) hx hb hts (fun w h => List.mem_cons_of_mem _ (in_XM w h)) hown hK hP 0 rfl rfl 3 (by decide) (hts _ (List.mem_cons_of_mem _ mw_389)) (fun _ h9 => h9) rfl dXM_sum_32 ?_
      refine lv_if_ne (tgt := 91) hx hb dXM_sum_35 (by decide) (fun z => absurd (show (0 : Int32) = 0 from rfl) z) (fun _ => ?_)
      refine lv_iload hx hb dXM_sum_38 (lv_at hl 0 rfl) ?_
      refine lv_iload_n hx hb dXM_sum_40 rfl (lv_at hl 4 rfl) ?_
      refine lv_icmp_lt (tgt := 85) hx hb dXM_sum_41 (by decide) (fun c1 => ?_) (fun c1 => ?_)
      · refine lv_iinc (k := 0) (v := (nI (k + 1))) (lv' := [(6, .int (nI (k + 1))), (4, .long (mt_ms (mt_ft fv fb j) (mt_cl a) (mt_cl b) k)), (0, .ref am), (1, .int (nI j)), (2, .int a), (3, .int b)]) hx hb dXM_sum_85 hl rfl (nI_1 k) (by decide) rfl (fun ls hl => ?_)
        refine lv_goto (tgt := 23) hx hb dXM_sum_88 (by decide) ?_
        have hsk : mt_ms (mt_ft fv fb j) (mt_cl a) (mt_cl b) (k + 1) = mt_ms (mt_ft fv fb j) (mt_cl a) (mt_cl b) k := by show mt_ms _ _ _ k + _ = _; rw [if_neg (fun h9 => absurd c1 (Int32.not_lt.mpr ((mt_cl_ge hlt).mpr h9.1)))]; exact Int64.add_zero _
        rw [← hsk] at hl
        have hl := lv_sub (l' := [(6, .int (nI (k + 1))), (4, .long (mt_ms (mt_ft fv fb j) (mt_cl a) (mt_cl b) (k + 1))), (0, .ref am), (1, .int (nI j)), (2, .int a), (3, .int b)]) hl [0, 1, 2, 3, 4, 5] rfl
        exact ih (k + 1) ls (by omega) hlt hl
      · refine lv_iload hx hb dXM_sum_44 (lv_at hl 0 rfl) ?_
        refine lv_iload_n hx hb dXM_sum_46 rfl (lv_at hl 5 rfl) ?_
        refine lv_icmp_ge (tgt := 85) hx hb dXM_sum_47 (by decide) (fun c2 => ?_) (fun c2 => ?_)
        · refine lv_iinc (k := 0) (v := (nI (k + 1))) (lv' := [(6, .int (nI (k + 1))), (4, .long (mt_ms (mt_ft fv fb j) (mt_cl a) (mt_cl b) k)), (0, .ref am), (1, .int (nI j)), (2, .int a), (3, .int b)]) hx hb dXM_sum_85 hl rfl (nI_1 k) (by decide) rfl (fun ls hl => ?_)
          refine lv_goto (tgt := 23) hx hb dXM_sum_88 (by decide) ?_
          have hsk : mt_ms (mt_ft fv fb j) (mt_cl a) (mt_cl b) (k + 1) = mt_ms (mt_ft fv fb j) (mt_cl a) (mt_cl b) k := by show mt_ms _ _ _ k + _ = _; rw [if_neg (fun h9 => absurd ((mt_cl_lt hlt).mpr h9.2) (Int32.not_lt.mpr c2))]; exact Int64.add_zero _
          rw [← hsk] at hl
          have hl := lv_sub (l' := [(6, .int (nI (k + 1))), (4, .long (mt_ms (mt_ft fv fb j) (mt_cl a) (mt_cl b) (k + 1))), (0, .ref am), (1, .int (nI j)), (2, .int a), (3, .int b)]) hl [0, 1, 2, 3, 4, 5] rfl
          exact ih (k + 1) ls (by omega) hlt hl
        · refine lv_aload_n hx hb dXM_sum_50 rfl (lv_at hl 2 rfl) ?_
          refine va_get (D := g.1) (ci := 2) (v := .ref ab) (C := RXM) (T := TXM) (N := 4) hx hb hts (fun w h => List.mem_cons_of_mem _ (in_XM w h)) hown hK hP 0 rfl rfl 1 (by decide) (hts _ (List.mem_cons_of_mem _ mw_387)) (fun _ h9 => h9) rfl dXM_sum_51 ?_
          refine lv_sipush (v := (nI 256)) hx hb dXM_sum_54 (by decide +kernel) ?_
          refine lv_iload_n hx hb dXM_sum_57 rfl (lv_at hl 3 rfl) ?_
          refine lv_imul hx hb dXM_sum_58 ?_
          refine qa_i (y := (nI (256 * j))) (pk_mul 256 j) ?_
          refine lv_iload hx hb dXM_sum_59 (lv_at hl 0 rfl) ?_
          refine lv_iadd hx hb dXM_sum_61 ?_
          refine qa_i (y := (nI (256 * j + k))) (nI_add (256 * j) k) ?_
          refine va_zald (D := g.1) (cl := vwCl) hx hb hK hP 2 3 rfl rfl (vp_in_nI (n := 256 * j + k) (by omega) (by decide)) dXM_sum_62 ?_
          refine qa_i (y := (fb (256 * j + k))) (by rw [nI_clamp (by omega)]) ?_
          rcases hfb (256 * j + k) with hf0 | hf1
          · refine qa_i (y := 0) hf0 ?_
            refine lv_if_eq (tgt := 85) hx hb dXM_sum_63 (by decide) (fun _ => ?_) (fun z => absurd rfl z)
            have hno : mt_ft fv fb j k = none := if_pos hf0
            refine lv_iinc (k := 0) (v := (nI (k + 1))) (lv' := [(6, .int (nI (k + 1))), (4, .long (mt_ms (mt_ft fv fb j) (mt_cl a) (mt_cl b) k)), (0, .ref am), (1, .int (nI j)), (2, .int a), (3, .int b)]) hx hb dXM_sum_85 hl rfl (nI_1 k) (by decide) rfl (fun ls hl => ?_)
            refine lv_goto (tgt := 23) hx hb dXM_sum_88 (by decide) ?_
            have hsk : mt_ms (mt_ft fv fb j) (mt_cl a) (mt_cl b) (k + 1) = mt_ms (mt_ft fv fb j) (mt_cl a) (mt_cl b) k := by show mt_ms _ _ _ k + _ = _; unfold mt_v; rw [hno]; split <;> exact Int64.add_zero _
            rw [← hsk] at hl
            have hl := lv_sub (l' := [(6, .int (nI (k + 1))), (4, .long (mt_ms (mt_ft fv fb j) (mt_cl a) (mt_cl b) (k + 1))), (0, .ref am), (1, .int (nI j)), (2, .int a), (3, .int b)]) hl [0, 1, 2, 3, 4, 5] rfl
            exact ih (k + 1) ls (by omega) hlt hl
          · refine qa_i (y := 1) hf1 ?_
            refine lv_if_eq (tgt := 85) hx hb dXM_sum_63 (by decide) (fun z => absurd z (show ¬ (1 : Int32) = 0 by decide)) (fun _ => ?_)
            have hso : mt_ft fv fb j k = some (fv (256 * j + k)) := if_neg (by rw [hf1]; decide)
            have hst : mt_ms (mt_ft fv fb j) (mt_cl a) (mt_cl b) (k + 1) = mt_ms (mt_ft fv fb j) (mt_cl a) (mt_cl b) k + (fv (256 * j + k)).toInt64 := by show mt_ms _ _ _ k + _ = _; rw [if_pos ⟨(mt_cl_ge hlt).mp (Int32.not_lt.mp c1), (mt_cl_lt hlt).mp (Int32.not_le.mp c2)⟩]; unfold mt_v; rw [hso]
            refine lv_lload hx hb dXM_sum_66 (lv_at hl 1 rfl) ?_
            refine lv_aload_n hx hb dXM_sum_68 rfl (lv_at hl 2 rfl) ?_
            refine va_get (D := g.1) (ci := 2) (v := .ref av) (C := RXM) (T := TXM) (N := 4) hx hb hts (fun w h => List.mem_cons_of_mem _ (in_XM w h)) hown hK hP 0 rfl rfl 0 (by decide) (hts _ (List.mem_cons_of_mem _ mw_386)) (fun _ h9 => h9) rfl dXM_sum_69 ?_
            refine lv_sipush (v := (nI 256)) hx hb dXM_sum_72 (by decide +kernel) ?_
            refine lv_iload_n hx hb dXM_sum_75 rfl (lv_at hl 3 rfl) ?_
            refine lv_imul hx hb dXM_sum_76 ?_
            refine qa_i (y := (nI (256 * j))) (pk_mul 256 j) ?_
            refine lv_iload hx hb dXM_sum_77 (lv_at hl 0 rfl) ?_
            refine lv_iadd hx hb dXM_sum_79 ?_
            refine qa_i (y := (nI (256 * j + k))) (nI_add (256 * j) k) ?_
            refine va_iald (D := g.1) (cl := vwCl) hx hb hK hP 1 2 rfl rfl (vp_in_nI (n := 256 * j + k) (by omega) (by decide)) dXM_sum_80 ?_
            refine qa_i (y := (fv (256 * j + k))) (by rw [nI_clamp (by omega)]) ?_
            refine lv_i2l (v := (fv (256 * j + k)).toInt64) hx hb dXM_sum_81 rfl ?_
            refine lv_ladd hx hb dXM_sum_82 ?_
            refine qa_l (y := (mt_ms (mt_ft fv fb j) (mt_cl a) (mt_cl b) (k + 1))) hst.symm ?_
            refine lv_lstore (i := 4) (lv' := [(4, .long (mt_ms (mt_ft fv fb j) (mt_cl a) (mt_cl b) (k + 1))), (6, .int (nI k)), (0, .ref am), (1, .int (nI j)), (2, .int a), (3, .int b)]) hx hb dXM_sum_83 hl (by decide) rfl (fun ls hl => ?_)
            refine lv_iinc (k := 1) (v := (nI (k + 1))) (lv' := [(6, .int (nI (k + 1))), (4, .long (mt_ms (mt_ft fv fb j) (mt_cl a) (mt_cl b) (k + 1))), (0, .ref am), (1, .int (nI j)), (2, .int a), (3, .int b)]) hx hb dXM_sum_85 hl rfl (nI_1 k) (by decide) rfl (fun ls hl => ?_)
            refine lv_goto (tgt := 23) hx hb dXM_sum_88 (by decide) ?_
            have hl := lv_sub (l' := [(6, .int (nI (k + 1))), (4, .long (mt_ms (mt_ft fv fb j) (mt_cl a) (mt_cl b) (k + 1))), (0, .ref am), (1, .int (nI j)), (2, .int a), (3, .int b)]) hl [0, 1, 2, 3, 4, 5] rfl
            exact ih (k + 1) ls (by omega) hlt hl
    · refine lv_icmp_ge (tgt := 91) hx hb dXM_sum_28 (by decide) (fun _ => ?_) (fun z => absurd (nI_le (a := 256) (b := k) (by omega) (by omega)) z)
      refine lv_lload hx hb dXM_sum_91 (lv_at hl 1 rfl) ?_
      have ek : k = 256 := by omega
      subst ek
      exact W.lret (v := (mt_ms (mt_ft fv fb j) (mt_cl a) (mt_cl b) 256)) hx hb hr (fun t9 ht hW => ⟨⟨(mt_ms (mt_ft fv fb j) (mt_cl a) (mt_cl b) 256), (cn, 0, fv, fb), rfl, Or.inr ⟨rfl, j, hj, rfl, rfl⟩, by rw [ht]; exact hP, hD⟩, hS.F ht⟩) hS.2.2 dXM_sum_93
  · refine lv_if_eq (tgt := 13) hx hb dXM_sum_6 (by decide) (fun _ => ?_) (fun z => absurd rfl z)
    refine lv_iconst (v := 1) hx hb dXM_sum_13 (by decide +kernel) ?_
    refine va_put (D := g.1) (ci := 2) (v := .int 1) (ty := .int) (C := RXM) (T := TXM) (N := 4) hx hb hts (fun w h => List.mem_cons_of_mem _ (in_XM w h)) tyXM tyXM_ok nmXM hown hK hP hD hS 0 rfl rfl 3 (by decide) (hts _ (List.mem_cons_of_mem _ mw_389)) (fun _ h9 => h9) rfl (by decide +kernel) rfl rfl (Nat.le_of_ble_eq_true rfl) dXM_sum_14 (fun H locs hP hD hS => ?_)
    have hP : va_P g.1 vwCl (mt_MW g am av ab (nI cn) 1 fv fb Z) H := hP
    have hD : va_D (mt_A g) (mt_MW g am av ab (nI cn) 1 fv fb Z) := hD
    refine lv_lconst (v := 0) hx hb dXM_sum_17 (by decide +kernel) ?_
    refine lv_lstore (i := 4) (lv' := [(4, .long 0), (0, .ref am), (1, .int v), (2, .int a), (3, .int b)]) hx hb dXM_sum_18 hl (by decide) rfl (fun ls hl => ?_)
    refine lv_iconst (v := 0) hx hb dXM_sum_20 (by decide +kernel) ?_
    refine lv_istore (i := 6) (lv' := [(6, .int 0), (4, .long 0), (0, .ref am), (1, .int v), (2, .int a), (3, .int b)]) hx hb dXM_sum_21 hl (by decide) rfl (fun ls hl => ?_)
    refine lv_iload hx hb dXM_sum_23 (lv_at hl 0 rfl) ?_
    refine lv_sipush (v := (nI 256)) hx hb dXM_sum_25 (by decide +kernel) ?_
    refine lv_icmp_ge (tgt := 91) hx hb dXM_sum_28 (by decide) (fun z => absurd z (show ¬ (nI 256) ≤ 0 by decide)) (fun _ => ?_)
    refine lv_aload_n hx hb dXM_sum_31 rfl (lv_at hl 2 rfl) ?_
    refine va_get (D := g.1) (ci := 2) (v := .int 1) (C := RXM) (T := TXM) (N := 4) hx hb hts (fun w h => List.mem_cons_of_mem _ (in_XM w h)) hown hK hP 0 rfl rfl 3 (by decide) (hts _ (List.mem_cons_of_mem _ mw_389)) (fun _ h9 => h9) rfl dXM_sum_32 ?_
    refine lv_if_ne (tgt := 91) hx hb dXM_sum_35 (by decide) (fun _ => ?_) (fun z => absurd z (show ¬ (1 : Int32) = 0 by decide))
    refine lv_lload hx hb dXM_sum_91 (lv_at hl 1 rfl) ?_
    exact W.lret (v := 0) hx hb hr (fun t9 ht hW => ⟨⟨0, (cn, 1, fv, fb), rfl, Or.inl ⟨hver, rfl⟩, by rw [ht]; exact hP, hD⟩, hS.F ht⟩) hS.2.2 dXM_sum_93
set_option maxHeartbeats 4000000 in
set_option maxRecDepth 100000 in
/-- the reference: digest -/
theorem c_M_digest (l : Launch) (g : mt_G) (am av ab : Nat) (cn : Nat) (th : Int32) (fv fb : Nat → Int32) (Z : va_W) (hcn : cn ≤ 600) (hfb : ∀ j, fb j = 0 ∨ fb j = 1) (v : Int32) : Met l yXM_digest wsXM_digest ({ frames := 1, cells := 0, slots := 0, locals := 60 }) (mt_Pc g (mt_MW g am av ab (nI cn) th fv fb Z) [.ref am, .int v]) (va_Ql (fun r q => (¬ mt_ver v cn ∧ q = (cn, 1, fv, fb)) ∨ (q = (cn, 0, fv, fb) ∧ ∃ j, j < cn ∧ v = nI j ∧ r = mt_g (mt_ft fv fb j) 0 7 256)) (fun (q : Nat × Int32 × (Nat → Int32) × (Nat → Int32)) t => mt_B g (mt_MW g am av ab (nI q.1) q.2.1 q.2.2.1 q.2.2.2 Z) t) (mt_A g)) (0) (0) (mt_A g) := by
  refine Met.ofW (cc := cXM_digest) (maxL := 5) (ret := (some .long)) (by decide) rfl ?_
  intro p e s m args below meth c s₁ B hml hv
  obtain ⟨rfl, hE, hz, hP, hD⟩ := hv
  have hx := B.exec
  have hb := B.bytes
  have hr := B.returns
  have hts := atoms_spec (ws := wsXM_digest) B.pre
  have hown : s.vm.findClass RXM = some m.cls := findClass_of_methodNamed B.named
  have hlocks := B.notSynchronized
  have hK := hE.k
  have hA : ∀ q : Nat, s.heap.size ≤ q → mt_A g q := fun q h => Nat.le_trans hz h
  have hS : va_S (mt_A g) s.heap s.heap [] := va_S.rf
  have hl := lv_entry ([.ref am, .int v]) (n := 5) (Nat.le_of_ble_eq_true rfl)
  rw [lg_entry_eq]
  generalize (lg_sl ([.ref am, .int v]) ++ List.replicate (5 - (lg_sl ([.ref am, .int v])).length) Slot.unset).toArray = ls at hl ⊢
  have hl : lv_has ls 5 [(0, .ref am), (1, .int v)] := hl
  have hH : s.heap = s.heap := rfl
  refine lv_aload_n hx hb dXM_digest_0 rfl (lv_at hl 0 rfl) ?_
  refine lv_aload_n hx hb dXM_digest_1 rfl (lv_at hl 0 rfl) ?_
  refine lv_iload_n hx hb dXM_digest_2 rfl (lv_at hl 1 rfl) ?_
  refine vp_callSi (W.runV (As := [.int v]) (rest := [.ref am]) ⟨hx, hb, hml, hown, hts⟩ (c_M_isOne l g am av ab cn th fv fb Z hcn v) (cwV 1 hts (mt_giV mw_409 mw_410 mw_471 mw_5 (mt_gi mw_411)) rfl rfl rfl (by decide +kernel) ⟨by decide, by decide⟩) (mt_preV hE hz hS hP hD (va_recv hK hP (q := (RXM, TXM, 4)) (q0 := 0) rfl rfl)) rfl rfl hl.1 rfl (lv_room (Nat.le_of_ble_eq_true rfl)) dXM_digest_3 ⟨Nat.zero_le _, Nat.zero_le _⟩) (fun z1 e1 => ?_)
  rcases e1 with ⟨rfl, hver⟩ | ⟨rfl, hver⟩
  · refine lv_if_eq (tgt := 13) hx hb dXM_digest_6 (by decide) (fun z => absurd z (show ¬ (1 : Int32) = 0 by decide)) (fun _ => ?_)
    refine lv_iconst (v := 0) hx hb dXM_digest_9 (by decide +kernel) ?_
    refine lv_goto (tgt := 14) hx hb dXM_digest_10 (by decide) ?_
    refine va_put (D := g.1) (ci := 2) (v := .int 0) (ty := .int) (C := RXM) (T := TXM) (N := 4) hx hb hts (fun w h => List.mem_cons_of_mem _ (in_XM w h)) tyXM tyXM_ok nmXM hown hK hP hD hS 0 rfl rfl 3 (by decide) (hts _ (List.mem_cons_of_mem _ mw_389)) (fun _ h9 => h9) rfl (by decide +kernel) rfl rfl (Nat.le_of_ble_eq_true rfl) dXM_digest_14 (fun H locs hP hD hS => ?_)
    have hP : va_P g.1 vwCl (mt_MW g am av ab (nI cn) 0 fv fb Z) H := hP
    have hD : va_D (mt_A g) (mt_MW g am av ab (nI cn) 0 fv fb Z) := hD
    obtain ⟨j, hj, rfl⟩ := mt_ver_nat hcn hver
    refine lv_ldc2 (v := 7) hx hb hown (hts _ (List.mem_cons_of_mem _ mw_450)) dXM_digest_17 ?_
    refine lv_lstore_n (i := 2) (lv' := [(2, .long 7), (0, .ref am), (1, .int (nI j))]) hx hb dXM_digest_20 rfl hl (by decide) rfl (fun ls hl => ?_)
    refine lv_iconst (v := 0) hx hb dXM_digest_21 (by decide +kernel) ?_
    refine lv_istore (i := 4) (lv' := [(4, .int 0), (2, .long 7), (0, .ref am), (1, .int (nI j))]) hx hb dXM_digest_22 hl (by decide) rfl (fun ls hl => ?_)
    refine qa_for (V := Nat) (fun v => 256 - v) (fun v => [(4, .int (nI v)), (2, .long (mt_g (mt_ft fv fb j) 0 7 v)), (0, .ref am), (1, .int (nI j))]) (fun v => v ≤ 256) ?_ 0 ls (Nat.zero_le _) hl
    intro k ls hk6 hl ih
    refine lv_iload hx hb dXM_digest_24 (lv_at hl 0 rfl) ?_
    refine lv_sipush (v := (nI 256)) hx hb dXM_digest_26 (by decide +kernel) ?_
    by_cases hlt : k < 256
    · refine lv_icmp_ge (tgt := 90) hx hb dXM_digest_29 (by decide) (fun z => absurd z (nI_ge hlt (by omega))) (fun _ => ?_)
      refine lv_aload_n hx hb dXM_digest_32 rfl (lv_at hl 2 rfl) ?_
      refine va_get (D := g.1) (ci := 2) (v := .int 0) (C := RXM) (T := TXM) (N := 4) hx hb hts (fun w h => List.mem_cons_of_mem _ (in_XM w h)) hown hK hP 0 rfl rfl 3 (by decide) (hts _ (List.mem_cons_of_mem _ mw_389)) (fun _ h9 => h9) rfl dXM_digest_33 ?_
      refine lv_if_ne (tgt := 90) hx hb dXM_digest_36 (by decide) (fun z => absurd (show (0 : Int32) = 0 from rfl) z) (fun _ => ?_)
      refine lv_aload_n hx hb dXM_digest_39 rfl (lv_at hl 2 rfl) ?_
      refine va_get (D := g.1) (ci := 2) (v := .ref ab) (C := RXM) (T := TXM) (N := 4) hx hb hts (fun w h => List.mem_cons_of_mem _ (in_XM w h)) hown hK hP 0 rfl rfl 1 (by decide) (hts _ (List.mem_cons_of_mem _ mw_387)) (fun _ h9 => h9) rfl dXM_digest_40 ?_
      refine lv_sipush (v := (nI 256)) hx hb dXM_digest_43 (by decide +kernel) ?_
      refine lv_iload_n hx hb dXM_digest_46 rfl (lv_at hl 3 rfl) ?_
      refine lv_imul hx hb dXM_digest_47 ?_
      refine qa_i (y := (nI (256 * j))) (pk_mul 256 j) ?_
      refine lv_iload hx hb dXM_digest_48 (lv_at hl 0 rfl) ?_
      refine lv_iadd hx hb dXM_digest_50 ?_
      refine qa_i (y := (nI (256 * j + k))) (nI_add (256 * j) k) ?_
      refine va_zald (D := g.1) (cl := vwCl) hx hb hK hP 2 3 rfl rfl (vp_in_nI (n := 256 * j + k) (by omega) (by decide)) dXM_digest_51 ?_
      refine qa_i (y := (fb (256 * j + k))) (by rw [nI_clamp (by omega)]) ?_
      rcases hfb (256 * j + k) with hf0 | hf1
      · refine qa_i (y := 0) hf0 ?_
        refine lv_if_eq (tgt := 84) hx hb dXM_digest_52 (by decide) (fun _ => ?_) (fun z => absurd rfl z)
        have hno : mt_ft fv fb j k = none := if_pos hf0
        refine lv_iinc (k := 0) (v := (nI (k + 1))) (lv' := [(4, .int (nI (k + 1))), (2, .long (mt_g (mt_ft fv fb j) 0 7 k)), (0, .ref am), (1, .int (nI j))]) hx hb dXM_digest_84 hl rfl (nI_1 k) (by decide) rfl (fun ls hl => ?_)
        refine lv_goto (tgt := 24) hx hb dXM_digest_87 (by decide) ?_
        have hsk : mt_g (mt_ft fv fb j) 0 7 (k + 1) = mt_g (mt_ft fv fb j) 0 7 k := by show mt_gs _ (0 + k) (mt_ft fv fb j (0 + k)) = _; rw [Nat.zero_add, hno]; rfl
        rw [← hsk] at hl
        have hl := lv_sub (l' := [(4, .int (nI (k + 1))), (2, .long (mt_g (mt_ft fv fb j) 0 7 (k + 1))), (0, .ref am), (1, .int (nI j))]) hl [0, 1, 2, 3] rfl
        exact ih (k + 1) ls (by omega) hlt hl
      · refine qa_i (y := 1) hf1 ?_
        refine lv_if_eq (tgt := 84) hx hb dXM_digest_52 (by decide) (fun z => absurd z (show ¬ (1 : Int32) = 0 by decide)) (fun _ => ?_)
        have hso : mt_ft fv fb j k = some (fv (256 * j + k)) := if_neg (by rw [hf1]; decide)
        have hst : mt_g (mt_ft fv fb j) 0 7 (k + 1) = (31 : Int64) * ((31 : Int64) * (mt_g (mt_ft fv fb j) 0 7 k) + (nI k).toInt64) + (fv (256 * j + k)).toInt64 := by show mt_gs _ (0 + k) (mt_ft fv fb j (0 + k)) = _; rw [Nat.zero_add, hso]; show (_ * 31 + _) * 31 + _ = _; rw [Int64.mul_comm _ 31, Int64.mul_comm _ 31]
        refine lv_ldc2 (v := 31) hx hb hown (hts _ (List.mem_cons_of_mem _ mw_451)) dXM_digest_55 ?_
        refine lv_ldc2 (v := 31) hx hb hown (hts _ (List.mem_cons_of_mem _ mw_451)) dXM_digest_58 ?_
        refine lv_lload_n hx hb dXM_digest_61 rfl (lv_at hl 1 rfl) ?_
        refine lv_lmul hx hb dXM_digest_62 ?_
        refine lv_iload hx hb dXM_digest_63 (lv_at hl 0 rfl) ?_
        refine lv_i2l (v := (nI k).toInt64) hx hb dXM_digest_65 rfl ?_
        refine lv_ladd hx hb dXM_digest_66 ?_
        refine lv_lmul hx hb dXM_digest_67 ?_
        refine lv_aload_n hx hb dXM_digest_68 rfl (lv_at hl 2 rfl) ?_
        refine va_get (D := g.1) (ci := 2) (v := .ref av) (C := RXM) (T := TXM) (N := 4) hx hb hts (fun w h => List.mem_cons_of_mem _ (in_XM w h)) hown hK hP 0 rfl rfl 0 (by decide) (hts _ (List.mem_cons_of_mem _ mw_386)) (fun _ h9 => h9) rfl dXM_digest_69 ?_
        refine lv_sipush (v := (nI 256)) hx hb dXM_digest_72 (by decide +kernel) ?_
        refine lv_iload_n hx hb dXM_digest_75 rfl (lv_at hl 3 rfl) ?_
        refine lv_imul hx hb dXM_digest_76 ?_
        refine qa_i (y := (nI (256 * j))) (pk_mul 256 j) ?_
        refine lv_iload hx hb dXM_digest_77 (lv_at hl 0 rfl) ?_
        refine lv_iadd hx hb dXM_digest_79 ?_
        refine qa_i (y := (nI (256 * j + k))) (nI_add (256 * j) k) ?_
        refine va_iald (D := g.1) (cl := vwCl) hx hb hK hP 1 2 rfl rfl (vp_in_nI (n := 256 * j + k) (by omega) (by decide)) dXM_digest_80 ?_
        refine qa_i (y := (fv (256 * j + k))) (by rw [nI_clamp (by omega)]) ?_
        refine lv_i2l (v := (fv (256 * j + k)).toInt64) hx hb dXM_digest_81 rfl ?_
        refine lv_ladd hx hb dXM_digest_82 ?_
        refine qa_l (y := (mt_g (mt_ft fv fb j) 0 7 (k + 1))) hst.symm ?_
        refine lv_lstore_n (i := 2) (lv' := [(2, .long (mt_g (mt_ft fv fb j) 0 7 (k + 1))), (4, .int (nI k)), (0, .ref am), (1, .int (nI j))]) hx hb dXM_digest_83 rfl hl (by decide) rfl (fun ls hl => ?_)
        refine lv_iinc (k := 1) (v := (nI (k + 1))) (lv' := [(4, .int (nI (k + 1))), (2, .long (mt_g (mt_ft fv fb j) 0 7 (k + 1))), (0, .ref am), (1, .int (nI j))]) hx hb dXM_digest_84 hl rfl (nI_1 k) (by decide) rfl (fun ls hl => ?_)
        refine lv_goto (tgt := 24) hx hb dXM_digest_87 (by decide) ?_
        have hl := lv_sub (l' := [(4, .int (nI (k + 1))), (2, .long (mt_g (mt_ft fv fb j) 0 7 (k + 1))), (0, .ref am), (1, .int (nI j))]) hl [0, 1, 2, 3] rfl
        exact ih (k + 1) ls (by omega) hlt hl
    · refine lv_icmp_ge (tgt := 90) hx hb dXM_digest_29 (by decide) (fun _ => ?_) (fun z => absurd (nI_le (a := 256) (b := k) (by omega) (by omega)) z)
      refine lv_aload_n hx hb dXM_digest_90 rfl (lv_at hl 2 rfl) ?_
      have ek : k = 256 := by omega
      subst ek
      refine va_get (D := g.1) (ci := 2) (v := .int 0) (C := RXM) (T := TXM) (N := 4) hx hb hts (fun w h => List.mem_cons_of_mem _ (in_XM w h)) hown hK hP 0 rfl rfl 3 (by decide) (hts _ (List.mem_cons_of_mem _ mw_389)) (fun _ h9 => h9) rfl dXM_digest_91 ?_
      refine lv_if_le (tgt := 101) hx hb dXM_digest_94 (by decide) (fun _ => ?_) (fun z => absurd (show (0 : Int32) ≤ 0 by decide) z)
      refine lv_lload_n hx hb dXM_digest_101 rfl (lv_at hl 1 rfl) ?_
      exact W.lret (v := (mt_g (mt_ft fv fb j) 0 7 256)) hx hb hr (fun t9 ht hW => ⟨⟨(mt_g (mt_ft fv fb j) 0 7 256), (cn, 0, fv, fb), rfl, Or.inr ⟨rfl, j, hj, rfl, rfl⟩, by rw [ht]; exact hP, hD⟩, hS.F ht⟩) hS.2.2 dXM_digest_102
  · refine lv_if_eq (tgt := 13) hx hb dXM_digest_6 (by decide) (fun _ => ?_) (fun z => absurd rfl z)
    refine lv_iconst (v := 1) hx hb dXM_digest_13 (by decide +kernel) ?_
    refine va_put (D := g.1) (ci := 2) (v := .int 1) (ty := .int) (C := RXM) (T := TXM) (N := 4) hx hb hts (fun w h => List.mem_cons_of_mem _ (in_XM w h)) tyXM tyXM_ok nmXM hown hK hP hD hS 0 rfl rfl 3 (by decide) (hts _ (List.mem_cons_of_mem _ mw_389)) (fun _ h9 => h9) rfl (by decide +kernel) rfl rfl (Nat.le_of_ble_eq_true rfl) dXM_digest_14 (fun H locs hP hD hS => ?_)
    have hP : va_P g.1 vwCl (mt_MW g am av ab (nI cn) 1 fv fb Z) H := hP
    have hD : va_D (mt_A g) (mt_MW g am av ab (nI cn) 1 fv fb Z) := hD
    refine lv_ldc2 (v := 7) hx hb hown (hts _ (List.mem_cons_of_mem _ mw_450)) dXM_digest_17 ?_
    refine lv_lstore_n (i := 2) (lv' := [(2, .long 7), (0, .ref am), (1, .int v)]) hx hb dXM_digest_20 rfl hl (by decide) rfl (fun ls hl => ?_)
    refine lv_iconst (v := 0) hx hb dXM_digest_21 (by decide +kernel) ?_
    refine lv_istore (i := 4) (lv' := [(4, .int 0), (2, .long 7), (0, .ref am), (1, .int v)]) hx hb dXM_digest_22 hl (by decide) rfl (fun ls hl => ?_)
    refine lv_iload hx hb dXM_digest_24 (lv_at hl 0 rfl) ?_
    refine lv_sipush (v := (nI 256)) hx hb dXM_digest_26 (by decide +kernel) ?_
    refine lv_icmp_ge (tgt := 90) hx hb dXM_digest_29 (by decide) (fun z => absurd z (show ¬ (nI 256) ≤ 0 by decide)) (fun _ => ?_)
    refine lv_aload_n hx hb dXM_digest_32 rfl (lv_at hl 2 rfl) ?_
    refine va_get (D := g.1) (ci := 2) (v := .int 1) (C := RXM) (T := TXM) (N := 4) hx hb hts (fun w h => List.mem_cons_of_mem _ (in_XM w h)) hown hK hP 0 rfl rfl 3 (by decide) (hts _ (List.mem_cons_of_mem _ mw_389)) (fun _ h9 => h9) rfl dXM_digest_33 ?_
    refine lv_if_ne (tgt := 90) hx hb dXM_digest_36 (by decide) (fun _ => ?_) (fun z => absurd z (show ¬ (1 : Int32) = 0 by decide))
    refine lv_aload_n hx hb dXM_digest_90 rfl (lv_at hl 2 rfl) ?_
    refine va_get (D := g.1) (ci := 2) (v := .int 1) (C := RXM) (T := TXM) (N := 4) hx hb hts (fun w h => List.mem_cons_of_mem _ (in_XM w h)) hown hK hP 0 rfl rfl 3 (by decide) (hts _ (List.mem_cons_of_mem _ mw_389)) (fun _ h9 => h9) rfl dXM_digest_91 ?_
    refine lv_if_le (tgt := 101) hx hb dXM_digest_94 (by decide) (fun z => absurd z (show ¬ (1 : Int32) ≤ 0 by decide)) (fun _ => ?_)
    refine lv_lconst (v := 0) hx hb dXM_digest_97 (by decide +kernel) ?_
    refine lv_goto (tgt := 102) hx hb dXM_digest_98 (by decide) ?_
    exact W.lret (v := 0) hx hb hr (fun t9 ht hW => ⟨⟨0, (cn, 1, fv, fb), rfl, Or.inl ⟨hver, rfl⟩, by rw [ht]; exact hP, hD⟩, hS.F ht⟩) hS.2.2 dXM_digest_102
set_option maxHeartbeats 4000000 in
set_option maxRecDepth 100000 in
/-- the reference: differ -/
theorem c_M_differ (l : Launch) (g : mt_G) (am av ab : Nat) (cn : Nat) (th : Int32) (fv fb : Nat → Int32) (Z : va_W) (hcn : cn ≤ 600) (hfb : ∀ j, fb j = 0 ∨ fb j = 1) (v w : Int32) : Met l yXM_differ wsXM_differ ({ frames := 1, cells := 0, slots := 0, locals := 60 }) (mt_Pc g (mt_MW g am av ab (nI cn) th fv fb Z) [.ref am, .int v, .int w]) (va_Qi (fun r q => (¬ (mt_ver v cn ∧ mt_ver w cn) ∧ q = (cn, 1, fv, fb)) ∨ (q = (cn, 0, fv, fb) ∧ ∃ j i, j < cn ∧ i < cn ∧ v = nI j ∧ w = nI i ∧ r = nI (mt_d (mt_ft fv fb j) (mt_ft fv fb i) 0 256))) (fun (q : Nat × Int32 × (Nat → Int32) × (Nat → Int32)) t => mt_B g (mt_MW g am av ab (nI q.1) q.2.1 q.2.2.1 q.2.2.2 Z) t) (mt_A g)) (0) (0) (mt_A g) := by
  refine Met.ofW (cc := cXM_differ) (maxL := 7) (ret := (some .int)) (by decide) rfl ?_
  intro p e s m args below meth c s₁ B hml hv
  obtain ⟨rfl, hE, hz, hP, hD⟩ := hv
  have hx := B.exec
  have hb := B.bytes
  have hr := B.returns
  have hts := atoms_spec (ws := wsXM_differ) B.pre
  have hown : s.vm.findClass RXM = some m.cls := findClass_of_methodNamed B.named
  have hlocks := B.notSynchronized
  have hK := hE.k
  have hA : ∀ q : Nat, s.heap.size ≤ q → mt_A g q := fun q h => Nat.le_trans hz h
  have hS : va_S (mt_A g) s.heap s.heap [] := va_S.rf
  have hl := lv_entry ([.ref am, .int v, .int w]) (n := 7) (Nat.le_of_ble_eq_true rfl)
  rw [lg_entry_eq]
  generalize (lg_sl ([.ref am, .int v, .int w]) ++ List.replicate (7 - (lg_sl ([.ref am, .int v, .int w])).length) Slot.unset).toArray = ls at hl ⊢
  have hl : lv_has ls 7 [(0, .ref am), (1, .int v), (2, .int w)] := hl
  have hH : s.heap = s.heap := rfl
  refine lv_aload_n hx hb dXM_differ_0 rfl (lv_at hl 0 rfl) ?_
  refine lv_aload_n hx hb dXM_differ_1 rfl (lv_at hl 0 rfl) ?_
  refine lv_iload_n hx hb dXM_differ_2 rfl (lv_at hl 1 rfl) ?_
  refine vp_callSi (W.runV (As := [.int v]) (rest := [.ref am]) ⟨hx, hb, hml, hown, hts⟩ (c_M_isOne l g am av ab cn th fv fb Z hcn v) (cwV 1 hts (mt_giV mw_409 mw_410 mw_471 mw_5 (mt_gi mw_411)) rfl rfl rfl (by decide +kernel) ⟨by decide, by decide⟩) (mt_preV hE hz hS hP hD (va_recv hK hP (q := (RXM, TXM, 4)) (q0 := 0) rfl rfl)) rfl rfl hl.1 rfl (lv_room (Nat.le_of_ble_eq_true rfl)) dXM_differ_3 ⟨Nat.zero_le _, Nat.zero_le _⟩) (fun z1 e1 => ?_)
  rcases e1 with ⟨rfl, hver⟩ | ⟨rfl, hver⟩
  · refine lv_if_eq (tgt := 21) hx hb dXM_differ_6 (by decide) (fun z => absurd z (show ¬ (1 : Int32) = 0 by decide)) (fun _ => ?_)
    refine lv_aload_n hx hb dXM_differ_9 rfl (lv_at hl 0 rfl) ?_
    refine lv_iload_n hx hb dXM_differ_10 rfl (lv_at hl 2 rfl) ?_
    refine vp_callSi (W.runV (As := [.int w]) (rest := [.ref am]) ⟨hx, hb, hml, hown, hts⟩ (c_M_isOne l g am av ab cn th fv fb Z hcn w) (cwV 1 hts (mt_giV mw_409 mw_410 mw_471 mw_5 (mt_gi mw_411)) rfl rfl rfl (by decide +kernel) ⟨by decide, by decide⟩) (mt_preV hE hz hS hP hD (va_recv hK hP (q := (RXM, TXM, 4)) (q0 := 0) rfl rfl)) rfl rfl hl.1 rfl (lv_room (Nat.le_of_ble_eq_true rfl)) dXM_differ_11 ⟨Nat.zero_le _, Nat.zero_le _⟩) (fun z2 e2 => ?_)
    rcases e2 with ⟨rfl, hver2⟩ | ⟨rfl, hver2⟩
    · refine lv_if_eq (tgt := 21) hx hb dXM_differ_14 (by decide) (fun z => absurd z (show ¬ (1 : Int32) = 0 by decide)) (fun _ => ?_)
      refine lv_iconst (v := 0) hx hb dXM_differ_17 (by decide +kernel) ?_
      refine lv_goto (tgt := 22) hx hb dXM_differ_18 (by decide) ?_
      refine va_put (D := g.1) (ci := 2) (v := .int 0) (ty := .int) (C := RXM) (T := TXM) (N := 4) hx hb hts (fun w h => List.mem_cons_of_mem _ (in_XM w h)) tyXM tyXM_ok nmXM hown hK hP hD hS 0 rfl rfl 3 (by decide) (hts _ (List.mem_cons_of_mem _ mw_389)) (fun _ h9 => h9) rfl (by decide +kernel) rfl rfl (Nat.le_of_ble_eq_true rfl) dXM_differ_22 (fun H locs hP hD hS => ?_)
      have hP : va_P g.1 vwCl (mt_MW g am av ab (nI cn) 0 fv fb Z) H := hP
      have hD : va_D (mt_A g) (mt_MW g am av ab (nI cn) 0 fv fb Z) := hD
      obtain ⟨j, hj, rfl⟩ := mt_ver_nat hcn hver
      obtain ⟨i, hi, rfl⟩ := mt_ver_nat hcn hver2
      refine lv_iconst (v := 0) hx hb dXM_differ_25 (by decide +kernel) ?_
      refine lv_istore_n (i := 3) (lv' := [(3, .int 0), (0, .ref am), (1, .int (nI j)), (2, .int (nI i))]) hx hb dXM_differ_26 rfl hl (by decide) rfl (fun ls hl => ?_)
      refine lv_iconst (v := 0) hx hb dXM_differ_27 (by decide +kernel) ?_
      refine lv_istore (i := 4) (lv' := [(4, .int 0), (3, .int 0), (0, .ref am), (1, .int (nI j)), (2, .int (nI i))]) hx hb dXM_differ_28 hl (by decide) rfl (fun ls hl => ?_)
      refine qa_for (V := Nat) (fun v => 256 - v) (fun v => [(4, .int (nI v)), (3, .int (nI (mt_d (mt_ft fv fb j) (mt_ft fv fb i) 0 v))), (0, .ref am), (1, .int (nI j)), (2, .int (nI i))]) (fun v => v ≤ 256) ?_ 0 ls (Nat.zero_le _) hl
      intro k ls hk6 hl ih
      refine lv_iload hx hb dXM_differ_30 (lv_at hl 0 rfl) ?_
      refine lv_sipush (v := (nI 256)) hx hb dXM_differ_32 (by decide +kernel) ?_
      by_cases hlt : k < 256
      · refine lv_icmp_ge (tgt := 118) hx hb dXM_differ_35 (by decide) (fun z => absurd z (nI_ge hlt (by omega))) (fun _ => ?_)
        refine lv_aload_n hx hb dXM_differ_38 rfl (lv_at hl 2 rfl) ?_
        refine va_get (D := g.1) (ci := 2) (v := .int 0) (C := RXM) (T := TXM) (N := 4) hx hb hts (fun w h => List.mem_cons_of_mem _ (in_XM w h)) hown hK hP 0 rfl rfl 3 (by decide) (hts _ (List.mem_cons_of_mem _ mw_389)) (fun _ h9 => h9) rfl dXM_differ_39 ?_
        refine lv_if_ne (tgt := 118) hx hb dXM_differ_42 (by decide) (fun z => absurd (show (0 : Int32) = 0 from rfl) z) (fun _ => ?_)
        have hds : mt_d (mt_ft fv fb j) (mt_ft fv fb i) 0 (k + 1) = mt_d (mt_ft fv fb j) (mt_ft fv fb i) 0 k + (if mt_ft fv fb j k = mt_ft fv fb i k then 0 else 1) := by show _ + (if mt_ft fv fb j (0 + k) = mt_ft fv fb i (0 + k) then 0 else 1) = _; rw [Nat.zero_add]
        refine lv_sipush (v := (nI 256)) hx hb dXM_differ_45 (by decide +kernel) ?_
        refine lv_iload_n hx hb dXM_differ_48 rfl (lv_at hl 3 rfl) ?_
        refine lv_imul hx hb dXM_differ_49 ?_
        refine qa_i (y := (nI (256 * j))) (pk_mul 256 j) ?_
        refine lv_iload hx hb dXM_differ_50 (lv_at hl 0 rfl) ?_
        refine lv_iadd hx hb dXM_differ_52 ?_
        refine qa_i (y := (nI (256 * j + k))) (nI_add (256 * j) k) ?_
        refine lv_istore (i := 5) (lv' := [(5, .int (nI (256 * j + k))), (4, .int (nI k)), (3, .int (nI (mt_d (mt_ft fv fb j) (mt_ft fv fb i) 0 k))), (0, .ref am), (1, .int (nI j)), (2, .int (nI i))]) hx hb dXM_differ_53 hl (by decide) rfl (fun ls hl => ?_)
        refine lv_sipush (v := (nI 256)) hx hb dXM_differ_55 (by decide +kernel) ?_
        refine lv_iload_n hx hb dXM_differ_58 rfl (lv_at hl 5 rfl) ?_
        refine lv_imul hx hb dXM_differ_59 ?_
        refine qa_i (y := (nI (256 * i))) (pk_mul 256 i) ?_
        refine lv_iload hx hb dXM_differ_60 (lv_at hl 1 rfl) ?_
        refine lv_iadd hx hb dXM_differ_62 ?_
        refine qa_i (y := (nI (256 * i + k))) (nI_add (256 * i) k) ?_
        refine lv_istore (i := 6) (lv' := [(6, .int (nI (256 * i + k))), (5, .int (nI (256 * j + k))), (4, .int (nI k)), (3, .int (nI (mt_d (mt_ft fv fb j) (mt_ft fv fb i) 0 k))), (0, .ref am), (1, .int (nI j)), (2, .int (nI i))]) hx hb dXM_differ_63 hl (by decide) rfl (fun ls hl => ?_)
        refine lv_aload_n hx hb dXM_differ_65 rfl (lv_at hl 4 rfl) ?_
        refine va_get (D := g.1) (ci := 2) (v := .ref ab) (C := RXM) (T := TXM) (N := 4) hx hb hts (fun w h => List.mem_cons_of_mem _ (in_XM w h)) hown hK hP 0 rfl rfl 1 (by decide) (hts _ (List.mem_cons_of_mem _ mw_387)) (fun _ h9 => h9) rfl dXM_differ_66 ?_
        refine lv_iload hx hb dXM_differ_69 (lv_at hl 1 rfl) ?_
        refine va_zald (D := g.1) (cl := vwCl) hx hb hK hP 2 3 rfl rfl (vp_in_nI (n := 256 * j + k) (by omega) (by decide)) dXM_differ_71 ?_
        refine qa_i (y := (fb (256 * j + k))) (by rw [nI_clamp (by omega)]) ?_
        refine lv_aload_n hx hb dXM_differ_72 rfl (lv_at hl 4 rfl) ?_
        refine va_get (D := g.1) (ci := 2) (v := .ref ab) (C := RXM) (T := TXM) (N := 4) hx hb hts (fun w h => List.mem_cons_of_mem _ (in_XM w h)) hown hK hP 0 rfl rfl 1 (by decide) (hts _ (List.mem_cons_of_mem _ mw_387)) (fun _ h9 => h9) rfl dXM_differ_73 ?_
        refine lv_iload hx hb dXM_differ_76 (lv_at hl 0 rfl) ?_
        refine va_zald (D := g.1) (cl := vwCl) hx hb hK hP 2 3 rfl rfl (vp_in_nI (n := 256 * i + k) (by omega) (by decide)) dXM_differ_78 ?_
        refine qa_i (y := (fb (256 * i + k))) (by rw [nI_clamp (by omega)]) ?_
        rcases hfb (256 * j + k) with hj0 | hj1
        · rcases hfb (256 * i + k) with hi0 | hi1
          · rw [hj0, hi0]
            refine lv_icmp_ne (tgt := 109) hx hb dXM_differ_79 (by decide) (fun z => absurd rfl z) (fun _ => ?_)
            refine lv_aload_n hx hb dXM_differ_82 rfl (lv_at hl 4 rfl) ?_
            refine va_get (D := g.1) (ci := 2) (v := .ref ab) (C := RXM) (T := TXM) (N := 4) hx hb hts (fun w h => List.mem_cons_of_mem _ (in_XM w h)) hown hK hP 0 rfl rfl 1 (by decide) (hts _ (List.mem_cons_of_mem _ mw_387)) (fun _ h9 => h9) rfl dXM_differ_83 ?_
            refine lv_iload hx hb dXM_differ_86 (lv_at hl 1 rfl) ?_
            refine va_zald (D := g.1) (cl := vwCl) hx hb hK hP 2 3 rfl rfl (vp_in_nI (n := 256 * j + k) (by omega) (by decide)) dXM_differ_88 ?_
            refine qa_i (y := (fb (256 * j + k))) (by rw [nI_clamp (by omega)]) ?_
            refine qa_i (y := 0) hj0 ?_
            refine lv_if_eq (tgt := 112) hx hb dXM_differ_89 (by decide) (fun _ => ?_) (fun z => absurd rfl z)
            refine lv_iinc (k := 2) (v := (nI (k + 1))) (lv' := [(4, .int (nI (k + 1))), (6, .int (nI (256 * i + k))), (5, .int (nI (256 * j + k))), (3, .int (nI (mt_d (mt_ft fv fb j) (mt_ft fv fb i) 0 k))), (0, .ref am), (1, .int (nI j)), (2, .int (nI i))]) hx hb dXM_differ_112 hl rfl (nI_1 k) (by decide) rfl (fun ls hl => ?_)
            refine lv_goto (tgt := 30) hx hb dXM_differ_115 (by decide) ?_
            have hsk : mt_d (mt_ft fv fb j) (mt_ft fv fb i) 0 (k + 1) = mt_d (mt_ft fv fb j) (mt_ft fv fb i) 0 k := by rw [hds, if_pos (by rw [(show mt_ft fv fb j k = none from if_pos hj0), (show mt_ft fv fb i k = none from if_pos hi0)])]; rfl
            rw [← hsk] at hl
            have hl := lv_sub (l' := [(4, .int (nI (k + 1))), (3, .int (nI (mt_d (mt_ft fv fb j) (mt_ft fv fb i) 0 (k + 1)))), (0, .ref am), (1, .int (nI j)), (2, .int (nI i))]) hl [0, 3, 4, 5, 6] rfl
            exact ih (k + 1) ls (by omega) hlt hl
          · rw [hj0, hi1]
            refine lv_icmp_ne (tgt := 109) hx hb dXM_differ_79 (by decide) (fun _ => ?_) (fun z => absurd z (show ¬ (0 : Int32) = 1 by decide))
            refine lv_iinc (k := 3) (v := (nI (mt_d (mt_ft fv fb j) (mt_ft fv fb i) 0 (k + 1)))) (lv' := [(3, .int (nI (mt_d (mt_ft fv fb j) (mt_ft fv fb i) 0 (k + 1)))), (6, .int (nI (256 * i + k))), (5, .int (nI (256 * j + k))), (4, .int (nI k)), (0, .ref am), (1, .int (nI j)), (2, .int (nI i))]) hx hb dXM_differ_109 hl rfl (by rw [hds, if_neg (by rw [(show mt_ft fv fb j k = none from if_pos hj0), (show mt_ft fv fb i k = some (fv (256 * i + k)) from if_neg (by rw [hi1]; decide))]; intro z9; cases z9)]; exact nI_1 _) (by decide) rfl (fun ls hl => ?_)
            refine lv_iinc (k := 3) (v := (nI (k + 1))) (lv' := [(4, .int (nI (k + 1))), (3, .int (nI (mt_d (mt_ft fv fb j) (mt_ft fv fb i) 0 (k + 1)))), (6, .int (nI (256 * i + k))), (5, .int (nI (256 * j + k))), (0, .ref am), (1, .int (nI j)), (2, .int (nI i))]) hx hb dXM_differ_112 hl rfl (nI_1 k) (by decide) rfl (fun ls hl => ?_)
            refine lv_goto (tgt := 30) hx hb dXM_differ_115 (by decide) ?_
            have hl := lv_sub (l' := [(4, .int (nI (k + 1))), (3, .int (nI (mt_d (mt_ft fv fb j) (mt_ft fv fb i) 0 (k + 1)))), (0, .ref am), (1, .int (nI j)), (2, .int (nI i))]) hl [0, 1, 4, 5, 6] rfl
            exact ih (k + 1) ls (by omega) hlt hl
        · rcases hfb (256 * i + k) with hi0 | hi1
          · rw [hj1, hi0]
            refine lv_icmp_ne (tgt := 109) hx hb dXM_differ_79 (by decide) (fun _ => ?_) (fun z => absurd z (show ¬ (1 : Int32) = 0 by decide))
            refine lv_iinc (k := 3) (v := (nI (mt_d (mt_ft fv fb j) (mt_ft fv fb i) 0 (k + 1)))) (lv' := [(3, .int (nI (mt_d (mt_ft fv fb j) (mt_ft fv fb i) 0 (k + 1)))), (6, .int (nI (256 * i + k))), (5, .int (nI (256 * j + k))), (4, .int (nI k)), (0, .ref am), (1, .int (nI j)), (2, .int (nI i))]) hx hb dXM_differ_109 hl rfl (by rw [hds, if_neg (by rw [(show mt_ft fv fb j k = some (fv (256 * j + k)) from if_neg (by rw [hj1]; decide)), (show mt_ft fv fb i k = none from if_pos hi0)]; intro z9; cases z9)]; exact nI_1 _) (by decide) rfl (fun ls hl => ?_)
            refine lv_iinc (k := 3) (v := (nI (k + 1))) (lv' := [(4, .int (nI (k + 1))), (3, .int (nI (mt_d (mt_ft fv fb j) (mt_ft fv fb i) 0 (k + 1)))), (6, .int (nI (256 * i + k))), (5, .int (nI (256 * j + k))), (0, .ref am), (1, .int (nI j)), (2, .int (nI i))]) hx hb dXM_differ_112 hl rfl (nI_1 k) (by decide) rfl (fun ls hl => ?_)
            refine lv_goto (tgt := 30) hx hb dXM_differ_115 (by decide) ?_
            have hl := lv_sub (l' := [(4, .int (nI (k + 1))), (3, .int (nI (mt_d (mt_ft fv fb j) (mt_ft fv fb i) 0 (k + 1)))), (0, .ref am), (1, .int (nI j)), (2, .int (nI i))]) hl [0, 1, 4, 5, 6] rfl
            exact ih (k + 1) ls (by omega) hlt hl
          · rw [hj1, hi1]
            refine lv_icmp_ne (tgt := 109) hx hb dXM_differ_79 (by decide) (fun z => absurd rfl z) (fun _ => ?_)
            refine lv_aload_n hx hb dXM_differ_82 rfl (lv_at hl 4 rfl) ?_
            refine va_get (D := g.1) (ci := 2) (v := .ref ab) (C := RXM) (T := TXM) (N := 4) hx hb hts (fun w h => List.mem_cons_of_mem _ (in_XM w h)) hown hK hP 0 rfl rfl 1 (by decide) (hts _ (List.mem_cons_of_mem _ mw_387)) (fun _ h9 => h9) rfl dXM_differ_83 ?_
            refine lv_iload hx hb dXM_differ_86 (lv_at hl 1 rfl) ?_
            refine va_zald (D := g.1) (cl := vwCl) hx hb hK hP 2 3 rfl rfl (vp_in_nI (n := 256 * j + k) (by omega) (by decide)) dXM_differ_88 ?_
            refine qa_i (y := (fb (256 * j + k))) (by rw [nI_clamp (by omega)]) ?_
            refine qa_i (y := 1) hj1 ?_
            refine lv_if_eq (tgt := 112) hx hb dXM_differ_89 (by decide) (fun z => absurd z (show ¬ (1 : Int32) = 0 by decide)) (fun _ => ?_)
            refine lv_aload_n hx hb dXM_differ_92 rfl (lv_at hl 4 rfl) ?_
            refine va_get (D := g.1) (ci := 2) (v := .ref av) (C := RXM) (T := TXM) (N := 4) hx hb hts (fun w h => List.mem_cons_of_mem _ (in_XM w h)) hown hK hP 0 rfl rfl 0 (by decide) (hts _ (List.mem_cons_of_mem _ mw_386)) (fun _ h9 => h9) rfl dXM_differ_93 ?_
            refine lv_iload hx hb dXM_differ_96 (lv_at hl 1 rfl) ?_
            refine va_iald (D := g.1) (cl := vwCl) hx hb hK hP 1 2 rfl rfl (vp_in_nI (n := 256 * j + k) (by omega) (by decide)) dXM_differ_98 ?_
            refine qa_i (y := (fv (256 * j + k))) (by rw [nI_clamp (by omega)]) ?_
            refine lv_aload_n hx hb dXM_differ_99 rfl (lv_at hl 4 rfl) ?_
            refine va_get (D := g.1) (ci := 2) (v := .ref av) (C := RXM) (T := TXM) (N := 4) hx hb hts (fun w h => List.mem_cons_of_mem _ (in_XM w h)) hown hK hP 0 rfl rfl 0 (by decide) (hts _ (List.mem_cons_of_mem _ mw_386)) (fun _ h9 => h9) rfl dXM_differ_100 ?_
            refine lv_iload hx hb dXM_differ_103 (lv_at hl 0 rfl) ?_
            refine va_iald (D := g.1) (cl := vwCl) hx hb hK hP 1 2 rfl rfl (vp_in_nI (n := 256 * i + k) (by omega) (by decide)) dXM_differ_105 ?_
            refine qa_i (y := (fv (256 * i + k))) (by rw [nI_clamp (by omega)]) ?_
            refine lv_icmp_eq (tgt := 112) hx hb dXM_differ_106 (by decide) (fun c1 => ?_) (fun c1 => ?_)
            · refine lv_iinc (k := 2) (v := (nI (k + 1))) (lv' := [(4, .int (nI (k + 1))), (6, .int (nI (256 * i + k))), (5, .int (nI (256 * j + k))), (3, .int (nI (mt_d (mt_ft fv fb j) (mt_ft fv fb i) 0 k))), (0, .ref am), (1, .int (nI j)), (2, .int (nI i))]) hx hb dXM_differ_112 hl rfl (nI_1 k) (by decide) rfl (fun ls hl => ?_)
              refine lv_goto (tgt := 30) hx hb dXM_differ_115 (by decide) ?_
              have hsk : mt_d (mt_ft fv fb j) (mt_ft fv fb i) 0 (k + 1) = mt_d (mt_ft fv fb j) (mt_ft fv fb i) 0 k := by rw [hds, if_pos (by rw [(show mt_ft fv fb j k = some (fv (256 * j + k)) from if_neg (by rw [hj1]; decide)), (show mt_ft fv fb i k = some (fv (256 * i + k)) from if_neg (by rw [hi1]; decide)), c1])]; rfl
              rw [← hsk] at hl
              have hl := lv_sub (l' := [(4, .int (nI (k + 1))), (3, .int (nI (mt_d (mt_ft fv fb j) (mt_ft fv fb i) 0 (k + 1)))), (0, .ref am), (1, .int (nI j)), (2, .int (nI i))]) hl [0, 3, 4, 5, 6] rfl
              exact ih (k + 1) ls (by omega) hlt hl
            · refine lv_iinc (k := 3) (v := (nI (mt_d (mt_ft fv fb j) (mt_ft fv fb i) 0 (k + 1)))) (lv' := [(3, .int (nI (mt_d (mt_ft fv fb j) (mt_ft fv fb i) 0 (k + 1)))), (6, .int (nI (256 * i + k))), (5, .int (nI (256 * j + k))), (4, .int (nI k)), (0, .ref am), (1, .int (nI j)), (2, .int (nI i))]) hx hb dXM_differ_109 hl rfl (by rw [hds, if_neg (by rw [(show mt_ft fv fb j k = some (fv (256 * j + k)) from if_neg (by rw [hj1]; decide)), (show mt_ft fv fb i k = some (fv (256 * i + k)) from if_neg (by rw [hi1]; decide))]; intro z9; exact c1 (Option.some.inj z9))]; exact nI_1 _) (by decide) rfl (fun ls hl => ?_)
              refine lv_iinc (k := 3) (v := (nI (k + 1))) (lv' := [(4, .int (nI (k + 1))), (3, .int (nI (mt_d (mt_ft fv fb j) (mt_ft fv fb i) 0 (k + 1)))), (6, .int (nI (256 * i + k))), (5, .int (nI (256 * j + k))), (0, .ref am), (1, .int (nI j)), (2, .int (nI i))]) hx hb dXM_differ_112 hl rfl (nI_1 k) (by decide) rfl (fun ls hl => ?_)
              refine lv_goto (tgt := 30) hx hb dXM_differ_115 (by decide) ?_
              have hl := lv_sub (l' := [(4, .int (nI (k + 1))), (3, .int (nI (mt_d (mt_ft fv fb j) (mt_ft fv fb i) 0 (k + 1)))), (0, .ref am), (1, .int (nI j)), (2, .int (nI i))]) hl [0, 1, 4, 5, 6] rfl
              exact ih (k + 1) ls (by omega) hlt hl
      · refine lv_icmp_ge (tgt := 118) hx hb dXM_differ_35 (by decide) (fun _ => ?_) (fun z => absurd (nI_le (a := 256) (b := k) (by omega) (by omega)) z)
        refine lv_iload_n hx hb dXM_differ_118 rfl (lv_at hl 1 rfl) ?_
        have ek : k = 256 := by omega
        subst ek
        exact W.iret (v := (nI (mt_d (mt_ft fv fb j) (mt_ft fv fb i) 0 256))) hx hb hr (fun t9 ht hW => ⟨⟨(nI (mt_d (mt_ft fv fb j) (mt_ft fv fb i) 0 256)), (cn, 0, fv, fb), rfl, Or.inr ⟨rfl, j, i, hj, hi, rfl, rfl, rfl⟩, by rw [ht]; exact hP, hD⟩, hS.F ht⟩) hS.2.2 dXM_differ_119
    · refine lv_if_eq (tgt := 21) hx hb dXM_differ_14 (by decide) (fun _ => ?_) (fun z => absurd rfl z)
      refine lv_iconst (v := 1) hx hb dXM_differ_21 (by decide +kernel) ?_
      refine va_put (D := g.1) (ci := 2) (v := .int 1) (ty := .int) (C := RXM) (T := TXM) (N := 4) hx hb hts (fun w h => List.mem_cons_of_mem _ (in_XM w h)) tyXM tyXM_ok nmXM hown hK hP hD hS 0 rfl rfl 3 (by decide) (hts _ (List.mem_cons_of_mem _ mw_389)) (fun _ h9 => h9) rfl (by decide +kernel) rfl rfl (Nat.le_of_ble_eq_true rfl) dXM_differ_22 (fun H locs hP hD hS => ?_)
      have hP : va_P g.1 vwCl (mt_MW g am av ab (nI cn) 1 fv fb Z) H := hP
      have hD : va_D (mt_A g) (mt_MW g am av ab (nI cn) 1 fv fb Z) := hD
      refine lv_iconst (v := 0) hx hb dXM_differ_25 (by decide +kernel) ?_
      refine lv_istore_n (i := 3) (lv' := [(3, .int 0), (0, .ref am), (1, .int v), (2, .int w)]) hx hb dXM_differ_26 rfl hl (by decide) rfl (fun ls hl => ?_)
      refine lv_iconst (v := 0) hx hb dXM_differ_27 (by decide +kernel) ?_
      refine lv_istore (i := 4) (lv' := [(4, .int 0), (3, .int 0), (0, .ref am), (1, .int v), (2, .int w)]) hx hb dXM_differ_28 hl (by decide) rfl (fun ls hl => ?_)
      refine lv_iload hx hb dXM_differ_30 (lv_at hl 0 rfl) ?_
      refine lv_sipush (v := (nI 256)) hx hb dXM_differ_32 (by decide +kernel) ?_
      refine lv_icmp_ge (tgt := 118) hx hb dXM_differ_35 (by decide) (fun z => absurd z (show ¬ (nI 256) ≤ 0 by decide)) (fun _ => ?_)
      refine lv_aload_n hx hb dXM_differ_38 rfl (lv_at hl 2 rfl) ?_
      refine va_get (D := g.1) (ci := 2) (v := .int 1) (C := RXM) (T := TXM) (N := 4) hx hb hts (fun w h => List.mem_cons_of_mem _ (in_XM w h)) hown hK hP 0 rfl rfl 3 (by decide) (hts _ (List.mem_cons_of_mem _ mw_389)) (fun _ h9 => h9) rfl dXM_differ_39 ?_
      refine lv_if_ne (tgt := 118) hx hb dXM_differ_42 (by decide) (fun _ => ?_) (fun z => absurd z (show ¬ (1 : Int32) = 0 by decide))
      refine lv_iload_n hx hb dXM_differ_118 rfl (lv_at hl 1 rfl) ?_
      exact W.iret (v := 0) hx hb hr (fun t9 ht hW => ⟨⟨0, (cn, 1, fv, fb), rfl, Or.inl ⟨fun h9 => hver2 h9.2, rfl⟩, by rw [ht]; exact hP, hD⟩, hS.F ht⟩) hS.2.2 dXM_differ_119
  · refine lv_if_eq (tgt := 21) hx hb dXM_differ_6 (by decide) (fun _ => ?_) (fun z => absurd rfl z)
    refine lv_iconst (v := 1) hx hb dXM_differ_21 (by decide +kernel) ?_
    refine va_put (D := g.1) (ci := 2) (v := .int 1) (ty := .int) (C := RXM) (T := TXM) (N := 4) hx hb hts (fun w h => List.mem_cons_of_mem _ (in_XM w h)) tyXM tyXM_ok nmXM hown hK hP hD hS 0 rfl rfl 3 (by decide) (hts _ (List.mem_cons_of_mem _ mw_389)) (fun _ h9 => h9) rfl (by decide +kernel) rfl rfl (Nat.le_of_ble_eq_true rfl) dXM_differ_22 (fun H locs hP hD hS => ?_)
    have hP : va_P g.1 vwCl (mt_MW g am av ab (nI cn) 1 fv fb Z) H := hP
    have hD : va_D (mt_A g) (mt_MW g am av ab (nI cn) 1 fv fb Z) := hD
    refine lv_iconst (v := 0) hx hb dXM_differ_25 (by decide +kernel) ?_
    refine lv_istore_n (i := 3) (lv' := [(3, .int 0), (0, .ref am), (1, .int v), (2, .int w)]) hx hb dXM_differ_26 rfl hl (by decide) rfl (fun ls hl => ?_)
    refine lv_iconst (v := 0) hx hb dXM_differ_27 (by decide +kernel) ?_
    refine lv_istore (i := 4) (lv' := [(4, .int 0), (3, .int 0), (0, .ref am), (1, .int v), (2, .int w)]) hx hb dXM_differ_28 hl (by decide) rfl (fun ls hl => ?_)
    refine lv_iload hx hb dXM_differ_30 (lv_at hl 0 rfl) ?_
    refine lv_sipush (v := (nI 256)) hx hb dXM_differ_32 (by decide +kernel) ?_
    refine lv_icmp_ge (tgt := 118) hx hb dXM_differ_35 (by decide) (fun z => absurd z (show ¬ (nI 256) ≤ 0 by decide)) (fun _ => ?_)
    refine lv_aload_n hx hb dXM_differ_38 rfl (lv_at hl 2 rfl) ?_
    refine va_get (D := g.1) (ci := 2) (v := .int 1) (C := RXM) (T := TXM) (N := 4) hx hb hts (fun w h => List.mem_cons_of_mem _ (in_XM w h)) hown hK hP 0 rfl rfl 3 (by decide) (hts _ (List.mem_cons_of_mem _ mw_389)) (fun _ h9 => h9) rfl dXM_differ_39 ?_
    refine lv_if_ne (tgt := 118) hx hb dXM_differ_42 (by decide) (fun _ => ?_) (fun z => absurd z (show ¬ (1 : Int32) = 0 by decide))
    refine lv_iload_n hx hb dXM_differ_118 rfl (lv_at hl 1 rfl) ?_
    exact W.iret (v := 0) hx hb hr (fun t9 ht hW => ⟨⟨0, (cn, 1, fv, fb), rfl, Or.inl ⟨fun h9 => hver h9.1, rfl⟩, by rw [ht]; exact hP, hD⟩, hS.F ht⟩) hS.2.2 dXM_differ_119
set_option maxHeartbeats 4000000 in
set_option maxRecDepth 100000 in
/-- the reference: versions -/
theorem c_M_versions (l : Launch) (g : mt_G) (am av ab : Nat) (cn : Nat) (th : Int32) (fv fb : Nat → Int32) (Z : va_W) (hcn : cn ≤ 600) (hfb : ∀ j, fb j = 0 ∨ fb j = 1) : Met l yXM_versions wsXM_versions ({ frames := 1, cells := 0, slots := 0, locals := 60 }) (mt_Pc g (mt_MW g am av ab (nI cn) th fv fb Z) [.ref am]) (va_Qi (fun r q => r = nI cn ∧ q = (cn, 0, fv, fb)) (fun (q : Nat × Int32 × (Nat → Int32) × (Nat → Int32)) t => mt_B g (mt_MW g am av ab (nI q.1) q.2.1 q.2.2.1 q.2.2.2 Z) t) (mt_A g)) (0) (0) (mt_A g) := by
  refine Met.ofW (cc := cXM_versions) (maxL := 1) (ret := (some .int)) (by decide) rfl ?_
  intro p e s m args below meth c s₁ B hml hv
  obtain ⟨rfl, hE, hz, hP, hD⟩ := hv
  have hx := B.exec
  have hb := B.bytes
  have hr := B.returns
  have hts := atoms_spec (ws := wsXM_versions) B.pre
  have hown : s.vm.findClass RXM = some m.cls := findClass_of_methodNamed B.named
  have hlocks := B.notSynchronized
  have hK := hE.k
  have hA : ∀ q : Nat, s.heap.size ≤ q → mt_A g q := fun q h => Nat.le_trans hz h
  have hS : va_S (mt_A g) s.heap s.heap [] := va_S.rf
  have hl := lv_entry ([.ref am]) (n := 1) (Nat.le_of_ble_eq_true rfl)
  rw [lg_entry_eq]
  generalize (lg_sl ([.ref am]) ++ List.replicate (1 - (lg_sl ([.ref am])).length) Slot.unset).toArray = ls at hl ⊢
  have hl : lv_has ls 1 [(0, .ref am)] := hl
  have hH : s.heap = s.heap := rfl
  refine lv_aload_n hx hb dXM_versions_0 rfl (lv_at hl 0 rfl) ?_
  refine lv_iconst (v := 0) hx hb dXM_versions_1 (by decide +kernel) ?_
  refine va_put (D := g.1) (ci := 2) (v := .int 0) (ty := .int) (C := RXM) (T := TXM) (N := 4) hx hb hts (fun w h => List.mem_cons_of_mem _ (in_XM w h)) tyXM tyXM_ok nmXM hown hK hP hD hS 0 rfl rfl 3 (by decide) (hts _ (List.mem_cons_of_mem _ mw_389)) (fun _ h9 => h9) rfl (by decide +kernel) rfl rfl (Nat.le_of_ble_eq_true rfl) dXM_versions_2 (fun H locs hP hD hS => ?_)
  have hP : va_P g.1 vwCl (mt_MW g am av ab (nI cn) 0 fv fb Z) H := hP
  have hD : va_D (mt_A g) (mt_MW g am av ab (nI cn) 0 fv fb Z) := hD
  refine lv_aload_n hx hb dXM_versions_5 rfl (lv_at hl 0 rfl) ?_
  refine va_get (D := g.1) (ci := 2) (v := .int (nI cn)) (C := RXM) (T := TXM) (N := 4) hx hb hts (fun w h => List.mem_cons_of_mem _ (in_XM w h)) hown hK hP 0 rfl rfl 2 (by decide) (hts _ (List.mem_cons_of_mem _ mw_388)) (fun _ h9 => h9) rfl dXM_versions_6 ?_
  exact W.iret (v := (nI cn)) hx hb hr (fun t9 ht hW => ⟨⟨(nI cn), (cn, 0, fv, fb), rfl, ⟨rfl, rfl⟩, by rw [ht]; exact hP, hD⟩, hS.F ht⟩) hS.2.2 dXM_versions_9
set_option maxHeartbeats 4000000 in
set_option maxRecDepth 100000 in
/-- the reference: check -/
theorem c_M_check (l : Launch) (g : mt_G) (am av ab : Nat) (cn : Nat) (th : Int32) (fv fb : Nat → Int32) (Z : va_W) (hcn : cn ≤ 600) (hfb : ∀ j, fb j = 0 ∨ fb j = 1) : Met l yXM_check wsXM_check ({ frames := 1, cells := 0, slots := 0, locals := 60 }) (mt_Pc g (mt_MW g am av ab (nI cn) th fv fb Z) [.ref am]) (va_Qi (fun r q => r = 0 ∧ q = (cn, 0, fv, fb)) (fun (q : Nat × Int32 × (Nat → Int32) × (Nat → Int32)) t => mt_B g (mt_MW g am av ab (nI q.1) q.2.1 q.2.2.1 q.2.2.2 Z) t) (mt_A g)) (0) (0) (mt_A g) := by
  refine Met.ofW (cc := cXM_check) (maxL := 1) (ret := (some .int)) (by decide) rfl ?_
  intro p e s m args below meth c s₁ B hml hv
  obtain ⟨rfl, hE, hz, hP, hD⟩ := hv
  have hx := B.exec
  have hb := B.bytes
  have hr := B.returns
  have hts := atoms_spec (ws := wsXM_check) B.pre
  have hown : s.vm.findClass RXM = some m.cls := findClass_of_methodNamed B.named
  have hlocks := B.notSynchronized
  have hK := hE.k
  have hA : ∀ q : Nat, s.heap.size ≤ q → mt_A g q := fun q h => Nat.le_trans hz h
  have hS : va_S (mt_A g) s.heap s.heap [] := va_S.rf
  have hl := lv_entry ([.ref am]) (n := 1) (Nat.le_of_ble_eq_true rfl)
  rw [lg_entry_eq]
  generalize (lg_sl ([.ref am]) ++ List.replicate (1 - (lg_sl ([.ref am])).length) Slot.unset).toArray = ls at hl ⊢
  have hl : lv_has ls 1 [(0, .ref am)] := hl
  have hH : s.heap = s.heap := rfl
  refine lv_aload_n hx hb dXM_check_0 rfl (lv_at hl 0 rfl) ?_
  refine lv_iconst (v := 0) hx hb dXM_check_1 (by decide +kernel) ?_
  refine va_put (D := g.1) (ci := 2) (v := .int 0) (ty := .int) (C := RXM) (T := TXM) (N := 4) hx hb hts (fun w h => List.mem_cons_of_mem _ (in_XM w h)) tyXM tyXM_ok nmXM hown hK hP hD hS 0 rfl rfl 3 (by decide) (hts _ (List.mem_cons_of_mem _ mw_389)) (fun _ h9 => h9) rfl (by decide +kernel) rfl rfl (Nat.le_of_ble_eq_true rfl) dXM_check_2 (fun H locs hP hD hS => ?_)
  have hP : va_P g.1 vwCl (mt_MW g am av ab (nI cn) 0 fv fb Z) H := hP
  have hD : va_D (mt_A g) (mt_MW g am av ab (nI cn) 0 fv fb Z) := hD
  refine lv_iconst (v := 0) hx hb dXM_check_5 (by decide +kernel) ?_
  exact W.iret (v := 0) hx hb hr (fun t9 ht hW => ⟨⟨0, (cn, 0, fv, fb), rfl, ⟨rfl, rfl⟩, by rw [ht]; exact hP, hD⟩, hS.F ht⟩) hS.2.2 dXM_check_6
end
section
/-! the list's cells, the pool beside it; a new node in the pool -/
def mt_LL (g : mt_G) (al : Nat) (LP : List Nat) (n cap : Nat) (LL : va_W) : Prop :=
  (n = 0 ∧ cap = 0 ∧ ∃ mo : Int32, LL = [(al, .inr (3, [.int mo, .ref g.2.2.1, .int 0]))]) ∨
  ∃ (mo : Int32) (ae : Nat) (fe : Nat → Option Nat), LL = [(al, .inr (3, [.int mo, .ref ae, .int (nI n)])), (ae, .inl (g.2.2.2 0, cap, .inr (.inr (.inr (.inr fe)))))] ∧ 0 < cap ∧ n ≤ cap ∧ ∀ i, i < n → ∃ a, fe i = some a ∧ a ∈ LP
theorem mt_LL_more {g : mt_G} {al : Nat} {L1 L2 : List Nat} {n cap : Nat} {LL : va_W} (hs : ∀ a, a ∈ L1 → a ∈ L2) (h : mt_LL g al L1 n cap LL) : mt_LL g al L2 n cap LL := by
  rcases h with h | ⟨mo, ae, fe, h1, h2, h3, h4⟩
  · exact Or.inl h
  · refine Or.inr ⟨mo, ae, fe, h1, h2, h3, fun i hi => ?_⟩
    obtain ⟨a, e1, e2⟩ := h4 i hi
    exact ⟨a, e1, hs a e2⟩
abbrev mt_LW (c0 c1 c2 c3 c4 c5 : Nat × va_E) (LL : va_W) (LP : List Nat) (nf : Nat → mt_N) : va_W := c0 :: c1 :: c2 :: c3 :: c4 :: c5 :: (LL ++ va_pl LP (fun a => mt_nE (nf a)))
theorem mt_LL_first {g : mt_G} {al : Nat} {LP : List Nat} {n cap : Nat} {LL : va_W} (h : mt_LL g al LP n cap LL) : ∃ (fs : List Value) (r : va_W), LL = (al, .inr (3, fs)) :: r := by
  rcases h with ⟨-, -, mo, h⟩ | ⟨mo, ae, fe, h1, -⟩
  · exact ⟨_, _, h⟩
  · exact ⟨_, _, h1⟩
theorem mt_LL_recv {g : mt_G} {al : Nat} {LP L2 : List Nat} {n cap : Nat} {LL : va_W} {c0 c1 c2 c3 c4 c5 : Nat × va_E} {nf : Nat → mt_N} {s : State} {H : Heap} {tys : List (ClassId × FieldType)} (h : mt_LL g al LP n cap LL) (hK : va_K g.1 vwCl tys s) (hP : va_P g.1 vwCl (mt_LW c0 c1 c2 c3 c4 c5 LL L2 nf) H) : ∃ cell : Cell, H[al]? = some cell ∧ cell.vm.isStatics = false ∧ s.vm.findClass RXA = some cell.cls := by
  obtain ⟨fs, r, rfl⟩ := mt_LL_first h
  exact va_recv hK hP (q := (RXA, TXA, 3)) (q0 := 6) (ci := 3) (fs := fs) rfl rfl
theorem mt_LW_pool {c0 c1 c2 c3 c4 c5 : Nat × va_E} {LL : va_W} {LP : List Nat} {nf : Nat → mt_N} : mt_pool (mt_LW c0 c1 c2 c3 c4 c5 LL LP nf) LP nf := mt_pool_pl (c0 :: c1 :: c2 :: c3 :: c4 :: c5 :: LL) LP nf
theorem mt_LW_push {D : va_G} {A : Nat → Prop} {c0 c1 c2 c3 c4 c5 : Nat × va_E} {LL : va_W} {LP : List Nat} {nf : Nat → mt_N} {q : Nat} {d : mt_N} {H : Heap} (hP : va_P D vwCl (mt_LW c0 c1 c2 c3 c4 c5 LL LP nf ++ [(q, mt_nE d)]) H) (hD : va_D A (mt_LW c0 c1 c2 c3 c4 c5 LL LP nf ++ [(q, mt_nE d)])) :
    va_P D vwCl (mt_LW c0 c1 c2 c3 c4 c5 LL (LP ++ [q]) (va_up nf q d)) H ∧ va_D A (mt_LW c0 c1 c2 c3 c4 c5 LL (LP ++ [q]) (va_up nf q d)) ∧ q ∉ LP := by
  have hq : q ∉ LP := va_pl_fresh2 (X := c0 :: c1 :: c2 :: c3 :: c4 :: c5 :: LL) (f := fun a => mt_nE (nf a)) hD
  have e : mt_LW c0 c1 c2 c3 c4 c5 LL LP nf ++ [(q, mt_nE d)] = mt_LW c0 c1 c2 c3 c4 c5 LL (LP ++ [q]) (va_up nf q d) := by
    show c0 :: c1 :: c2 :: c3 :: c4 :: c5 :: ((LL ++ va_pl LP (fun a => mt_nE (nf a))) ++ [(q, mt_nE d)]) = _
    rw [List.append_assoc, va_pl_push hq, va_pl_congr (g := fun a => mt_nE (va_up nf q d a)) (fun a => by
      by_cases h : a = q
      · subst h; rw [va_up_self, va_up_self]
      · rw [va_up_ne _ _ h, va_up_ne _ _ h])]
  rw [e] at hP hD
  exact ⟨hP, hD, hq⟩
theorem mt_up_keep {LP : List Nat} {nf : Nat → mt_N} {q : Nat} {d : mt_N} (hq : q ∉ LP) : ∀ a, a ∈ LP → a ∈ LP ++ [q] ∧ va_up nf q d a = nf a := fun a ha => ⟨List.mem_append_left _ ha, va_up_ne _ _ (fun e => hq (e ▸ ha))⟩
theorem mt_push_ok {LP : List Nat} {nf : Nat → mt_N} {q : Nat} {d : mt_N} (hq : q ∉ LP) (hok : ∀ a, a ∈ LP → mt_ok LP nf a) (hnew : mt_ok (LP ++ [q]) (va_up nf q d) q) : ∀ a, a ∈ LP ++ [q] → mt_ok (LP ++ [q]) (va_up nf q d) a := by
  intro a ha
  rcases List.mem_append.mp ha with h | h
  · exact mt_ok_keep (mt_up_keep hq) h (hok a h)
  · rw [List.mem_singleton] at h
    subst h
    exact hnew
theorem mt_push_fork {LP : List Nat} {nf : Nat → mt_N} {t : mt_T} {q k h : Nat} {lo hi : Option Nat} (hq : q ∉ LP) (hk : k < 256) (hh : h < 8) (hok : ∀ a, a ∈ LP → mt_ok LP nf a) (hlo : mt_rep LP nf t h (k / 2 ^ (h + 1) * 2 ^ (h + 1)) lo) (hhi : mt_rep LP nf t h (k / 2 ^ (h + 1) * 2 ^ (h + 1) + 2 ^ h) hi) (hne : ¬ (lo = none ∧ hi = none)) :
    (∀ a, a ∈ LP → a ∈ LP ++ [q] ∧ va_up nf q (nI (h + 1), nI (k / 2 ^ (h + 1) * 2 ^ (h + 1)), lo, hi, 0, mt_sz nf lo + mt_sz nf hi, mt_to nf lo + mt_to nf hi) a = nf a) ∧
    (∀ a, a ∈ LP ++ [q] → mt_ok (LP ++ [q]) (va_up nf q (nI (h + 1), nI (k / 2 ^ (h + 1) * 2 ^ (h + 1)), lo, hi, 0, mt_sz nf lo + mt_sz nf hi, mt_to nf lo + mt_to nf hi)) a) ∧
    mt_rep (LP ++ [q]) (va_up nf q (nI (h + 1), nI (k / 2 ^ (h + 1) * 2 ^ (h + 1)), lo, hi, 0, mt_sz nf lo + mt_sz nf hi, mt_to nf lo + mt_to nf hi)) t (h + 1) (k / 2 ^ (h + 1) * 2 ^ (h + 1)) (some q) := by
  have hkp := mt_up_keep (nf := nf) (d := (nI (h + 1), nI (k / 2 ^ (h + 1) * 2 ^ (h + 1)), lo, hi, 0, mt_sz nf lo + mt_sz nf hi, mt_to nf lo + mt_to nf hi)) hq
  refine ⟨hkp, mt_push_ok hq hok (Or.inr ⟨h, k / 2 ^ (h + 1) * 2 ^ (h + 1), lo, hi, hh, mt_256 hk (by omega), ?_, hne, ?_, ?_⟩), ?_⟩
  · obtain ⟨-, l2, l3⟩ := mt_is_keep hkp (mt_rep_at hlo)
    obtain ⟨-, r2, r3⟩ := mt_is_keep hkp (mt_rep_at hhi)
    rw [va_up_self, l2, l3, r2, r3]
  · exact (mt_is_keep hkp (mt_rep_at hlo)).1
  · exact (mt_is_keep hkp (mt_rep_at hhi)).1
  · refine ⟨by simp, lo, hi, ?_, mt_rep_keep hkp hlo, mt_rep_keep hkp hhi, hne⟩
    rw [va_up_self, (mt_rep_sz hlo).1, (mt_rep_sz hlo).2, (mt_rep_sz hhi).1, (mt_rep_sz hhi).2, nI_add, mt_two, mt_c_add, mt_s_add]
theorem mt_push_leaf {LP : List Nat} {nf : Nat → mt_N} {t : mt_T} {q k : Nat} {x : Int32} (hq : q ∉ LP) (hok : ∀ a, a ∈ LP → mt_ok LP nf a) (ht : t k = some x) :
    (∀ a, a ∈ LP → a ∈ LP ++ [q] ∧ va_up nf q (0, nI k, none, none, x, 1, x.toInt64) a = nf a) ∧
    (∀ a, a ∈ LP ++ [q] → mt_ok (LP ++ [q]) (va_up nf q (0, nI k, none, none, x, 1, x.toInt64)) a) ∧
    mt_rep (LP ++ [q]) (va_up nf q (0, nI k, none, none, x, 1, x.toInt64)) t 0 k (some q) :=
  ⟨mt_up_keep hq, mt_push_ok hq hok (Or.inl ⟨nI k, x, va_up_self _ _ _⟩), by simp, x, ht, va_up_self _ _ _⟩
theorem mt_fork_ne {LP : List Nat} {nf : Nat → mt_N} {t : mt_T} {b h : Nat} {lo hi : Option Nat} (hlo : mt_rep LP nf t h b lo) (hhi : mt_rep LP nf t h (b + 2 ^ h) hi) (hne : ¬ (lo = none ∧ hi = none)) : mt_c t b (2 ^ (h + 1)) ≠ 0 := by
  rw [mt_two, mt_c_add]
  cases lo with
  | some a =>
    have := mt_rep_some hlo
    omega
  | none =>
    cases hi with
    | some a =>
      have := mt_rep_some hhi
      omega
    | none => exact absurd ⟨rfl, rfl⟩ hne
theorem mt_na_succ (t : mt_T) (k h : Nat) : mt_na t k (h + 1) = mt_na t k h + (if mt_c t (k / 2 ^ (h + 1) * 2 ^ (h + 1)) (2 ^ (h + 1)) = 0 then 0 else 1) := rfl
theorem mt_ms_mono (t : mt_T) (k h n cap : Nat) : 0 + (7 * mt_na t k h + mt_gr n cap (mt_na t k h)) ≤ 7 * mt_na t k (h + 1) + mt_gr n cap (mt_na t k (h + 1)) := by
  rw [mt_na_succ]
  split
  · rw [Nat.add_zero]
    omega
  · show _ ≤ _ + (mt_gr n cap (mt_na t k h) + mt_gr1 (n + mt_na t k h) (mt_cap n cap (mt_na t k h)))
    omega
/-- the tree's world: four cells of others, the tree, its roots, the rest -/
abbrev mt_TW (g : mt_G) (c0 c1 c2 c3 : Nat × va_E) (x ar al cn : Nat) (fr : Nat → Option Nat) (Z : va_W) : va_W := c0 :: c1 :: c2 :: c3 :: (x, .inr (1, [.ref ar, .ref al, .int (nI cn)])) :: (ar, .inl (g.2.2.2 1, 600, .inr (.inr (.inr (.inr fr))))) :: Z
/-! the tables behind put, remove, join -/
def mt_put (t : mt_T) (i : Nat) (x : Int32) : mt_T := fun y => if y = i then some x else t y
def mt_rem (t : mt_T) (i : Nat) : mt_T := fun y => if y = i then none else t y
def mt_join (t u : mt_T) (k : Nat) : mt_T := fun y => if y < k then t y else u y
end
section
set_option maxHeartbeats 4000000 in
set_option maxRecDepth 100000 in
/-- Node(key, value) -/
theorem c_leaf (l : Launch) (g : mt_G) (ws : va_W) (q : Nat) (k x : Int32) : Met l yXN_init wsXN_init ({ frames := 1, cells := 0, slots := 0, locals := 12 }) (mt_Pc g (ws ++ [(q, .inr (0, [.int 0, .int 0, .null, .null, .int 0, .int 0, .long 0]))]) [.ref q, .int k, .int x]) (va_Qv (fun _ : Unit => True) (fun _ t => mt_B g (ws ++ [(q, mt_nE (0, k, none, none, x, 1, x.toInt64))]) t) (mt_A g)) (0) (0) (mt_A g) := by
  refine Met.ofW (cc := cXN_init) (maxL := 3) (ret := none) (by decide) rfl ?_
  intro p e s m args below meth c s₁ B hml hv
  obtain ⟨rfl, hE, hz, hP, hD⟩ := hv
  have hx := B.exec
  have hb := B.bytes
  have hr := B.returns
  have hts := atoms_spec (ws := wsXN_init) B.pre
  have hown : s.vm.findClass RXN = some m.cls := findClass_of_methodNamed B.named
  have hlocks := B.notSynchronized
  have hin : meth.name = "<init>" := (name_of_methodNamed B.named B.method).1
  have hK := hE.k
  have hA : ∀ q : Nat, s.heap.size ≤ q → mt_A g q := fun q h => Nat.le_trans hz h
  have hS : va_S (mt_A g) s.heap s.heap [] := va_S.rf
  have hl := lv_entry ([.ref q, .int k, .int x]) (n := 3) (Nat.le_of_ble_eq_true rfl)
  rw [lg_entry_eq]
  generalize (lg_sl ([.ref q, .int k, .int x]) ++ List.replicate (3 - (lg_sl ([.ref q, .int k, .int x])).length) Slot.unset).toArray = ls at hl ⊢
  have hl : lv_has ls 3 [(0, .ref q), (1, .int k), (2, .int x)] := hl
  have hH : s.heap = s.heap := rfl
  refine lv_aload_n hx hb dXN_init_0 rfl (lv_at hl 0 rfl) ?_
  refine W.objInit hx hb hown (hts _ (List.mem_cons_of_mem _ mw_198)) (hts _ (List.mem_cons_of_mem _ mw_25)) (hts _ (List.mem_cons_of_mem _ mw_26)) rfl (by rw [hml]; exact hl.1) rfl dXN_init_1 (Nat.le_of_ble_eq_true rfl) (Nat.le_of_ble_eq_true rfl) ?_
  refine W.eq (g2 := F0 m 4 ls []) rfl ?_
  refine lv_aload_n hx hb dXN_init_4 rfl (lv_at hl 0 rfl) ?_
  refine lv_iconst (v := 0) hx hb dXN_init_5 (by decide +kernel) ?_
  refine va_putF (D := g.1) (ci := 0) (v := .int 0) (ty := .int) (C := RXN) (T := TXN) (N := 7) hx hb hts (fun w h => List.mem_cons_of_mem _ (in_XN w h)) tyXN tyXN_ok nmXN hown hK hP hD hS ws.length (qa_lastg ws _) rfl 0 (by decide) (hts _ (List.mem_cons_of_mem _ mw_199)) (fun _ h9 => h9) rfl hin rfl (by decide +kernel) rfl rfl (Nat.le_of_ble_eq_true rfl) dXN_init_6 (fun H locs hP hD hS => ?_)
  rw [qa_lasts] at hP hD
  have hP : va_P g.1 vwCl (ws ++ [(q, .inr (0, [.int 0, .int 0, .null, .null, .int 0, .int 0, .long 0]))]) H := hP
  have hD : va_D (mt_A g) (ws ++ [(q, .inr (0, [.int 0, .int 0, .null, .null, .int 0, .int 0, .long 0]))]) := hD
  refine lv_aload_n hx hb dXN_init_9 rfl (lv_at hl 0 rfl) ?_
  refine lv_iload_n hx hb dXN_init_10 rfl (lv_at hl 1 rfl) ?_
  refine va_putF (D := g.1) (ci := 0) (v := .int k) (ty := .int) (C := RXN) (T := TXN) (N := 7) hx hb hts (fun w h => List.mem_cons_of_mem _ (in_XN w h)) tyXN tyXN_ok nmXN hown hK hP hD hS ws.length (qa_lastg ws _) rfl 1 (by decide) (hts _ (List.mem_cons_of_mem _ mw_200)) (fun _ h9 => h9) rfl hin rfl (by decide +kernel) rfl rfl (Nat.le_of_ble_eq_true rfl) dXN_init_11 (fun H locs hP hD hS => ?_)
  rw [qa_lasts] at hP hD
  have hP : va_P g.1 vwCl (ws ++ [(q, .inr (0, [.int 0, .int k, .null, .null, .int 0, .int 0, .long 0]))]) H := hP
  have hD : va_D (mt_A g) (ws ++ [(q, .inr (0, [.int 0, .int k, .null, .null, .int 0, .int 0, .long 0]))]) := hD
  refine lv_aload_n hx hb dXN_init_14 rfl (lv_at hl 0 rfl) ?_
  refine lv_null hx hb dXN_init_15 ?_
  refine va_putF (D := g.1) (ci := 0) (v := .null) (ty := .object "MeldTree$Node") (C := RXN) (T := TXN) (N := 7) hx hb hts (fun w h => List.mem_cons_of_mem _ (in_XN w h)) tyXN tyXN_ok nmXN hown hK hP hD hS ws.length (qa_lastg ws _) rfl 2 (by decide) (hts _ (List.mem_cons_of_mem _ mw_201)) (fun _ h9 => h9) rfl hin rfl (by decide +kernel) rfl rfl (Nat.le_of_ble_eq_true rfl) dXN_init_16 (fun H locs hP hD hS => ?_)
  rw [qa_lasts] at hP hD
  have hP : va_P g.1 vwCl (ws ++ [(q, .inr (0, [.int 0, .int k, .null, .null, .int 0, .int 0, .long 0]))]) H := hP
  have hD : va_D (mt_A g) (ws ++ [(q, .inr (0, [.int 0, .int k, .null, .null, .int 0, .int 0, .long 0]))]) := hD
  refine lv_aload_n hx hb dXN_init_19 rfl (lv_at hl 0 rfl) ?_
  refine lv_null hx hb dXN_init_20 ?_
  refine va_putF (D := g.1) (ci := 0) (v := .null) (ty := .object "MeldTree$Node") (C := RXN) (T := TXN) (N := 7) hx hb hts (fun w h => List.mem_cons_of_mem _ (in_XN w h)) tyXN tyXN_ok nmXN hown hK hP hD hS ws.length (qa_lastg ws _) rfl 3 (by decide) (hts _ (List.mem_cons_of_mem _ mw_202)) (fun _ h9 => h9) rfl hin rfl (by decide +kernel) rfl rfl (Nat.le_of_ble_eq_true rfl) dXN_init_21 (fun H locs hP hD hS => ?_)
  rw [qa_lasts] at hP hD
  have hP : va_P g.1 vwCl (ws ++ [(q, .inr (0, [.int 0, .int k, .null, .null, .int 0, .int 0, .long 0]))]) H := hP
  have hD : va_D (mt_A g) (ws ++ [(q, .inr (0, [.int 0, .int k, .null, .null, .int 0, .int 0, .long 0]))]) := hD
  refine lv_aload_n hx hb dXN_init_24 rfl (lv_at hl 0 rfl) ?_
  refine lv_iload_n hx hb dXN_init_25 rfl (lv_at hl 2 rfl) ?_
  refine va_putF (D := g.1) (ci := 0) (v := .int x) (ty := .int) (C := RXN) (T := TXN) (N := 7) hx hb hts (fun w h => List.mem_cons_of_mem _ (in_XN w h)) tyXN tyXN_ok nmXN hown hK hP hD hS ws.length (qa_lastg ws _) rfl 4 (by decide) (hts _ (List.mem_cons_of_mem _ mw_203)) (fun _ h9 => h9) rfl hin rfl (by decide +kernel) rfl rfl (Nat.le_of_ble_eq_true rfl) dXN_init_26 (fun H locs hP hD hS => ?_)
  rw [qa_lasts] at hP hD
  have hP : va_P g.1 vwCl (ws ++ [(q, .inr (0, [.int 0, .int k, .null, .null, .int x, .int 0, .long 0]))]) H := hP
  have hD : va_D (mt_A g) (ws ++ [(q, .inr (0, [.int 0, .int k, .null, .null, .int x, .int 0, .long 0]))]) := hD
  refine lv_aload_n hx hb dXN_init_29 rfl (lv_at hl 0 rfl) ?_
  refine lv_iconst (v := 1) hx hb dXN_init_30 (by decide +kernel) ?_
  refine va_putF (D := g.1) (ci := 0) (v := .int 1) (ty := .int) (C := RXN) (T := TXN) (N := 7) hx hb hts (fun w h => List.mem_cons_of_mem _ (in_XN w h)) tyXN tyXN_ok nmXN hown hK hP hD hS ws.length (qa_lastg ws _) rfl 5 (by decide) (hts _ (List.mem_cons_of_mem _ mw_204)) (fun _ h9 => h9) rfl hin rfl (by decide +kernel) rfl rfl (Nat.le_of_ble_eq_true rfl) dXN_init_31 (fun H locs hP hD hS => ?_)
  rw [qa_lasts] at hP hD
  have hP : va_P g.1 vwCl (ws ++ [(q, .inr (0, [.int 0, .int k, .null, .null, .int x, .int 1, .long 0]))]) H := hP
  have hD : va_D (mt_A g) (ws ++ [(q, .inr (0, [.int 0, .int k, .null, .null, .int x, .int 1, .long 0]))]) := hD
  refine lv_aload_n hx hb dXN_init_34 rfl (lv_at hl 0 rfl) ?_
  refine lv_iload_n hx hb dXN_init_35 rfl (lv_at hl 2 rfl) ?_
  refine lv_i2l (v := x.toInt64) hx hb dXN_init_36 rfl ?_
  refine va_putF (D := g.1) (ci := 0) (v := .long x.toInt64) (ty := .long) (C := RXN) (T := TXN) (N := 7) hx hb hts (fun w h => List.mem_cons_of_mem _ (in_XN w h)) tyXN tyXN_ok nmXN hown hK hP hD hS ws.length (qa_lastg ws _) rfl 6 (by decide) (hts _ (List.mem_cons_of_mem _ mw_205)) (fun _ h9 => h9) rfl hin rfl (by decide +kernel) rfl rfl (Nat.le_of_ble_eq_true rfl) dXN_init_37 (fun H locs hP hD hS => ?_)
  rw [qa_lasts] at hP hD
  have hP : va_P g.1 vwCl (ws ++ [(q, .inr (0, [.int 0, .int k, .null, .null, .int x, .int 1, .long x.toInt64]))]) H := hP
  have hD : va_D (mt_A g) (ws ++ [(q, .inr (0, [.int 0, .int k, .null, .null, .int x, .int 1, .long x.toInt64]))]) := hD
  exact W.vret hx hb hr (fun t9 ht hW => ⟨⟨(), rfl, trivial, by rw [ht]; exact hP, hD⟩, hS.F ht⟩) hS.2.2 dXN_init_40
set_option maxHeartbeats 4000000 in
set_option maxRecDepth 100000 in
/-- Node(height, someKey, low, high) -/
theorem c_fork (l : Launch) (g : mt_G) (ws : va_W) (LP : List Nat) (nf : Nat → mt_N) (hp : mt_pool ws LP nf) (q : Nat) (h k : Int32) (lo hi : Option Nat) (hlo : ∀ a, lo = some a → a ∈ LP) (hhi : ∀ a, hi = some a → a ∈ LP) : Met l yXN_init_2 wsXN_init_2 ({ frames := 1, cells := 0, slots := 0, locals := 20 }) (mt_Pc g (ws ++ [(q, .inr (0, [.int 0, .int 0, .null, .null, .int 0, .int 0, .long 0]))]) [.ref q, .int h, .int k, va_rf lo, va_rf hi]) (va_Qv (fun _ : Unit => True) (fun _ t => mt_B g (ws ++ [(q, mt_nE (h, (k >>> (h &&& 31)) <<< (h &&& 31), lo, hi, 0, mt_sz nf lo + mt_sz nf hi, mt_to nf lo + mt_to nf hi))]) t) (mt_A g)) (0) (0) (mt_A g) := by
  refine Met.ofW (cc := cXN_init_2) (maxL := 5) (ret := none) (by decide) rfl ?_
  intro p e s m args below meth c s₁ B hml hv
  obtain ⟨rfl, hE, hz, hP, hD⟩ := hv
  have hx := B.exec
  have hb := B.bytes
  have hr := B.returns
  have hts := atoms_spec (ws := wsXN_init_2) B.pre
  have hown : s.vm.findClass RXN = some m.cls := findClass_of_methodNamed B.named
  have hlocks := B.notSynchronized
  have hin : meth.name = "<init>" := (name_of_methodNamed B.named B.method).1
  have hK := hE.k
  have hA : ∀ q : Nat, s.heap.size ≤ q → mt_A g q := fun q h => Nat.le_trans hz h
  have hS : va_S (mt_A g) s.heap s.heap [] := va_S.rf
  have hl := lv_entry ([.ref q, .int h, .int k, va_rf lo, va_rf hi]) (n := 5) (by rw [qa_sl1 (qa_cr _), qa_sl1 (qa_ci _), qa_sl1 (qa_ci _), qa_sl1 (qa_cat _), qa_sl1 (qa_cat _), qa_sl0]; exact Nat.le_of_ble_eq_true rfl)
  rw [lg_entry_eq]
  generalize (lg_sl ([.ref q, .int h, .int k, va_rf lo, va_rf hi]) ++ List.replicate (5 - (lg_sl ([.ref q, .int h, .int k, va_rf lo, va_rf hi])).length) Slot.unset).toArray = ls at hl ⊢
  have hl : lv_has ls 5 [(0, .ref q), (1, .int h), (2, .int k), (3, va_rf lo), (4, va_rf hi)] := by rw [qa_ar1 (qa_cr _), qa_ar1 (qa_ci _), qa_ar1 (qa_ci _), qa_ar1 (qa_cat _), qa_ar1 (qa_cat _)] at hl; exact hl
  have hH : s.heap = s.heap := rfl
  refine lv_aload_n hx hb dXN_init_2_0 rfl (lv_at hl 0 rfl) ?_
  refine W.objInit hx hb hown (hts _ (List.mem_cons_of_mem _ mw_198)) (hts _ (List.mem_cons_of_mem _ mw_25)) (hts _ (List.mem_cons_of_mem _ mw_26)) rfl (by rw [hml]; exact hl.1) rfl dXN_init_2_1 (Nat.le_of_ble_eq_true rfl) (Nat.le_of_ble_eq_true rfl) ?_
  refine W.eq (g2 := F0 m 4 ls []) rfl ?_
  refine lv_aload_n hx hb dXN_init_2_4 rfl (lv_at hl 0 rfl) ?_
  refine lv_iload_n hx hb dXN_init_2_5 rfl (lv_at hl 1 rfl) ?_
  refine va_putF (D := g.1) (ci := 0) (v := .int h) (ty := .int) (C := RXN) (T := TXN) (N := 7) hx hb hts (fun w h => List.mem_cons_of_mem _ (in_XN w h)) tyXN tyXN_ok nmXN hown hK hP hD hS ws.length (qa_lastg ws _) rfl 0 (by decide) (hts _ (List.mem_cons_of_mem _ mw_199)) (fun _ h9 => h9) rfl hin rfl (by decide +kernel) rfl rfl (Nat.le_of_ble_eq_true rfl) dXN_init_2_6 (fun H locs hP hD hS => ?_)
  rw [qa_lasts] at hP hD
  have hP : va_P g.1 vwCl (ws ++ [(q, .inr (0, [.int h, .int 0, .null, .null, .int 0, .int 0, .long 0]))]) H := hP
  have hD : va_D (mt_A g) (ws ++ [(q, .inr (0, [.int h, .int 0, .null, .null, .int 0, .int 0, .long 0]))]) := hD
  refine lv_aload_n hx hb dXN_init_2_9 rfl (lv_at hl 0 rfl) ?_
  refine lv_iload_n hx hb dXN_init_2_10 rfl (lv_at hl 2 rfl) ?_
  refine lv_iload_n hx hb dXN_init_2_11 rfl (lv_at hl 1 rfl) ?_
  refine lv_ishr hx hb dXN_init_2_12 ?_
  refine lv_iload_n hx hb dXN_init_2_13 rfl (lv_at hl 1 rfl) ?_
  refine lv_ishl hx hb dXN_init_2_14 ?_
  refine va_putF (D := g.1) (ci := 0) (v := .int ((k >>> (h &&& 31)) <<< (h &&& 31))) (ty := .int) (C := RXN) (T := TXN) (N := 7) hx hb hts (fun w h => List.mem_cons_of_mem _ (in_XN w h)) tyXN tyXN_ok nmXN hown hK hP hD hS ws.length (qa_lastg ws _) rfl 1 (by decide) (hts _ (List.mem_cons_of_mem _ mw_200)) (fun _ h9 => h9) rfl hin rfl (by decide +kernel) rfl rfl (Nat.le_of_ble_eq_true rfl) dXN_init_2_15 (fun H locs hP hD hS => ?_)
  rw [qa_lasts] at hP hD
  have hP : va_P g.1 vwCl (ws ++ [(q, .inr (0, [.int h, .int ((k >>> (h &&& 31)) <<< (h &&& 31)), .null, .null, .int 0, .int 0, .long 0]))]) H := hP
  have hD : va_D (mt_A g) (ws ++ [(q, .inr (0, [.int h, .int ((k >>> (h &&& 31)) <<< (h &&& 31)), .null, .null, .int 0, .int 0, .long 0]))]) := hD
  refine lv_aload_n hx hb dXN_init_2_18 rfl (lv_at hl 0 rfl) ?_
  refine qa_aload_n hx hb dXN_init_2_19 rfl (lv_at hl 3 rfl) ?_
  refine va_putF (D := g.1) (ci := 0) (v := va_rf lo) (ty := .object "MeldTree$Node") (C := RXN) (T := TXN) (N := 7) hx hb hts (fun w h => List.mem_cons_of_mem _ (in_XN w h)) tyXN tyXN_ok nmXN hown hK hP hD hS ws.length (qa_lastg ws _) rfl 2 (by decide) (hts _ (List.mem_cons_of_mem _ mw_201)) (fun _ h9 => h9) rfl hin rfl (by decide +kernel) (qa_nar _ _) (qa_fit _ _) (Nat.le_of_ble_eq_true rfl) dXN_init_2_20 (fun H locs hP hD hS => ?_)
  rw [qa_lasts] at hP hD
  have hP : va_P g.1 vwCl (ws ++ [(q, .inr (0, [.int h, .int ((k >>> (h &&& 31)) <<< (h &&& 31)), va_rf lo, .null, .int 0, .int 0, .long 0]))]) H := hP
  have hD : va_D (mt_A g) (ws ++ [(q, .inr (0, [.int h, .int ((k >>> (h &&& 31)) <<< (h &&& 31)), va_rf lo, .null, .int 0, .int 0, .long 0]))]) := hD
  refine lv_aload_n hx hb dXN_init_2_23 rfl (lv_at hl 0 rfl) ?_
  refine qa_aload hx hb dXN_init_2_24 (lv_at hl 4 rfl) ?_
  refine va_putF (D := g.1) (ci := 0) (v := va_rf hi) (ty := .object "MeldTree$Node") (C := RXN) (T := TXN) (N := 7) hx hb hts (fun w h => List.mem_cons_of_mem _ (in_XN w h)) tyXN tyXN_ok nmXN hown hK hP hD hS ws.length (qa_lastg ws _) rfl 3 (by decide) (hts _ (List.mem_cons_of_mem _ mw_202)) (fun _ h9 => h9) rfl hin rfl (by decide +kernel) (qa_nar _ _) (qa_fit _ _) (Nat.le_of_ble_eq_true rfl) dXN_init_2_26 (fun H locs hP hD hS => ?_)
  rw [qa_lasts] at hP hD
  have hP : va_P g.1 vwCl (ws ++ [(q, .inr (0, [.int h, .int ((k >>> (h &&& 31)) <<< (h &&& 31)), va_rf lo, va_rf hi, .int 0, .int 0, .long 0]))]) H := hP
  have hD : va_D (mt_A g) (ws ++ [(q, .inr (0, [.int h, .int ((k >>> (h &&& 31)) <<< (h &&& 31)), va_rf lo, va_rf hi, .int 0, .int 0, .long 0]))]) := hD
  refine lv_aload_n hx hb dXN_init_2_29 rfl (lv_at hl 0 rfl) ?_
  refine lv_iconst (v := 0) hx hb dXN_init_2_30 (by decide +kernel) ?_
  refine va_putF (D := g.1) (ci := 0) (v := .int 0) (ty := .int) (C := RXN) (T := TXN) (N := 7) hx hb hts (fun w h => List.mem_cons_of_mem _ (in_XN w h)) tyXN tyXN_ok nmXN hown hK hP hD hS ws.length (qa_lastg ws _) rfl 4 (by decide) (hts _ (List.mem_cons_of_mem _ mw_203)) (fun _ h9 => h9) rfl hin rfl (by decide +kernel) rfl rfl (Nat.le_of_ble_eq_true rfl) dXN_init_2_31 (fun H locs hP hD hS => ?_)
  rw [qa_lasts] at hP hD
  have hP : va_P g.1 vwCl (ws ++ [(q, .inr (0, [.int h, .int ((k >>> (h &&& 31)) <<< (h &&& 31)), va_rf lo, va_rf hi, .int 0, .int 0, .long 0]))]) H := hP
  have hD : va_D (mt_A g) (ws ++ [(q, .inr (0, [.int h, .int ((k >>> (h &&& 31)) <<< (h &&& 31)), va_rf lo, va_rf hi, .int 0, .int 0, .long 0]))]) := hD
  refine lv_aload_n hx hb dXN_init_2_34 rfl (lv_at hl 0 rfl) ?_
  refine qa_aload_n hx hb dXN_init_2_35 rfl (lv_at hl 3 rfl) ?_
  refine vp_callSi (va_Run.run (va_runSN (As := [va_rf lo]) (rest := [.ref q]) ⟨hx, hb, hml, hown, hts⟩ (c_sizeOf l g _ LP nf (hp.app _) lo hlo) ⟨va_cnB 1 hts (mt_gi mw_103) rfl rfl rfl (hE.w (.methodLinkNest RXN 33 yXT_sizeOf "MeldTree") (by decide +kernel)) (hts _ (List.mem_cons_of_mem _ mw_1)) (by decide +kernel) ⟨Nat.le_of_ble_eq_true rfl, Nat.le_of_ble_eq_true rfl⟩, hts _ (List.mem_cons_of_mem _ mw_102), trivial⟩ (mt_preS hE hz hS hP hD) rfl rfl hl.1 rfl (lv_room (Nat.le_of_ble_eq_true rfl)) dXN_init_2_36 ⟨Nat.zero_le _, Nat.zero_le _⟩)) (fun z1 e1 => ?_)
  subst e1
  refine qa_aload hx hb dXN_init_2_39 (lv_at hl 4 rfl) ?_
  refine vp_callSi (va_Run.run (va_runSN (As := [va_rf hi]) (rest := [.int (mt_sz nf lo), .ref q]) ⟨hx, hb, hml, hown, hts⟩ (c_sizeOf l g _ LP nf (hp.app _) hi hhi) ⟨va_cnB 1 hts (mt_gi mw_103) rfl rfl rfl (hE.w (.methodLinkNest RXN 33 yXT_sizeOf "MeldTree") (by decide +kernel)) (hts _ (List.mem_cons_of_mem _ mw_1)) (by decide +kernel) ⟨Nat.le_of_ble_eq_true rfl, Nat.le_of_ble_eq_true rfl⟩, hts _ (List.mem_cons_of_mem _ mw_102), trivial⟩ (mt_preS hE hz hS hP hD) rfl rfl hl.1 rfl (lv_room (Nat.le_of_ble_eq_true rfl)) dXN_init_2_41 ⟨Nat.zero_le _, Nat.zero_le _⟩)) (fun z1 e1 => ?_)
  subst e1
  refine lv_iadd hx hb dXN_init_2_44 ?_
  refine va_putF (D := g.1) (ci := 0) (v := .int ((mt_sz nf lo) + (mt_sz nf hi))) (ty := .int) (C := RXN) (T := TXN) (N := 7) hx hb hts (fun w h => List.mem_cons_of_mem _ (in_XN w h)) tyXN tyXN_ok nmXN hown hK hP hD hS ws.length (qa_lastg ws _) rfl 5 (by decide) (hts _ (List.mem_cons_of_mem _ mw_204)) (fun _ h9 => h9) rfl hin rfl (by decide +kernel) rfl rfl (Nat.le_of_ble_eq_true rfl) dXN_init_2_45 (fun H locs hP hD hS => ?_)
  rw [qa_lasts] at hP hD
  have hP : va_P g.1 vwCl (ws ++ [(q, .inr (0, [.int h, .int ((k >>> (h &&& 31)) <<< (h &&& 31)), va_rf lo, va_rf hi, .int 0, .int ((mt_sz nf lo) + (mt_sz nf hi)), .long 0]))]) H := hP
  have hD : va_D (mt_A g) (ws ++ [(q, .inr (0, [.int h, .int ((k >>> (h &&& 31)) <<< (h &&& 31)), va_rf lo, va_rf hi, .int 0, .int ((mt_sz nf lo) + (mt_sz nf hi)), .long 0]))]) := hD
  refine lv_aload_n hx hb dXN_init_2_48 rfl (lv_at hl 0 rfl) ?_
  refine qa_aload_n hx hb dXN_init_2_49 rfl (lv_at hl 3 rfl) ?_
  refine vp_callSl (va_Run.run (va_runSN (As := [va_rf lo]) (rest := [.ref q]) ⟨hx, hb, hml, hown, hts⟩ (c_totalOf l g _ LP nf (hp.app _) lo hlo) ⟨va_cnB 1 hts (mt_gi mw_106) rfl rfl rfl (hE.w (.methodLinkNest RXN 39 yXT_totalOf "MeldTree") (by decide +kernel)) (hts _ (List.mem_cons_of_mem _ mw_1)) (by decide +kernel) ⟨Nat.le_of_ble_eq_true rfl, Nat.le_of_ble_eq_true rfl⟩, hts _ (List.mem_cons_of_mem _ mw_105), trivial⟩ (mt_preS hE hz hS hP hD) rfl rfl hl.1 rfl (lv_room (Nat.le_of_ble_eq_true rfl)) dXN_init_2_50 ⟨Nat.zero_le _, Nat.zero_le _⟩)) (fun z1 e1 => ?_)
  subst e1
  refine qa_aload hx hb dXN_init_2_53 (lv_at hl 4 rfl) ?_
  refine vp_callSl (va_Run.run (va_runSN (As := [va_rf hi]) (rest := [.long (mt_to nf lo), .ref q]) ⟨hx, hb, hml, hown, hts⟩ (c_totalOf l g _ LP nf (hp.app _) hi hhi) ⟨va_cnB 1 hts (mt_gi mw_106) rfl rfl rfl (hE.w (.methodLinkNest RXN 39 yXT_totalOf "MeldTree") (by decide +kernel)) (hts _ (List.mem_cons_of_mem _ mw_1)) (by decide +kernel) ⟨Nat.le_of_ble_eq_true rfl, Nat.le_of_ble_eq_true rfl⟩, hts _ (List.mem_cons_of_mem _ mw_105), trivial⟩ (mt_preS hE hz hS hP hD) rfl rfl hl.1 rfl (lv_room (Nat.le_of_ble_eq_true rfl)) dXN_init_2_55 ⟨Nat.zero_le _, Nat.zero_le _⟩)) (fun z1 e1 => ?_)
  subst e1
  refine lv_ladd hx hb dXN_init_2_58 ?_
  refine va_putF (D := g.1) (ci := 0) (v := .long ((mt_to nf lo) + (mt_to nf hi))) (ty := .long) (C := RXN) (T := TXN) (N := 7) hx hb hts (fun w h => List.mem_cons_of_mem _ (in_XN w h)) tyXN tyXN_ok nmXN hown hK hP hD hS ws.length (qa_lastg ws _) rfl 6 (by decide) (hts _ (List.mem_cons_of_mem _ mw_205)) (fun _ h9 => h9) rfl hin rfl (by decide +kernel) rfl rfl (Nat.le_of_ble_eq_true rfl) dXN_init_2_59 (fun H locs hP hD hS => ?_)
  rw [qa_lasts] at hP hD
  have hP : va_P g.1 vwCl (ws ++ [(q, .inr (0, [.int h, .int ((k >>> (h &&& 31)) <<< (h &&& 31)), va_rf lo, va_rf hi, .int 0, .int ((mt_sz nf lo) + (mt_sz nf hi)), .long ((mt_to nf lo) + (mt_to nf hi))]))]) H := hP
  have hD : va_D (mt_A g) (ws ++ [(q, .inr (0, [.int h, .int ((k >>> (h &&& 31)) <<< (h &&& 31)), va_rf lo, va_rf hi, .int 0, .int ((mt_sz nf lo) + (mt_sz nf hi)), .long ((mt_to nf lo) + (mt_to nf hi))]))]) := hD
  exact W.vret hx hb hr (fun t9 ht hW => ⟨⟨(), rfl, trivial, by rw [ht]; exact hP, hD⟩, hS.F ht⟩) hS.2.2 dXN_init_2_62
set_option maxHeartbeats 4000000 in
set_option maxRecDepth 100000 in
/-- keep(root) -/
theorem c_keep (l : Launch) (g : mt_G) (c0 c1 c2 c3 : Nat × va_E) (x ar al cn : Nat) (fr : Nat → Option Nat) (Z : va_W) (LP : List Nat) (nf : Nat → mt_N) (hp : mt_pool Z LP nf) (hcn : cn < 600) (r : Option Nat) (hm : ∀ a, r = some a → a ∈ LP) : Met l yXT_keep wsXT_keep ({ frames := 0, cells := 0, slots := 0, locals := 0 }) (mt_Pc g (mt_TW g c0 c1 c2 c3 x ar al cn fr Z) [.ref x, va_rf r]) (va_Qi (fun z (_ : Unit) => z = nI cn) (fun _ t => mt_B g (mt_TW g c0 c1 c2 c3 x ar al (cn + 1) (va_up fr cn r) Z) t) (mt_A g)) (0) (0) (mt_A g) := by
  refine Met.ofW (cc := cXT_keep) (maxL := 3) (ret := (some .int)) (by decide) rfl ?_
  intro p e s m args below meth c s₁ B hml hv
  obtain ⟨rfl, hE, hz, hP, hD⟩ := hv
  have hx := B.exec
  have hb := B.bytes
  have hr := B.returns
  have hts := atoms_spec (ws := wsXT_keep) B.pre
  have hown : s.vm.findClass RXT = some m.cls := findClass_of_methodNamed B.named
  have hlocks := B.notSynchronized
  have hK := hE.k
  have hA : ∀ q : Nat, s.heap.size ≤ q → mt_A g q := fun q h => Nat.le_trans hz h
  have hS : va_S (mt_A g) s.heap s.heap [] := va_S.rf
  have hl := lv_entry ([.ref x, va_rf r]) (n := 3) (by rw [qa_sl1 (qa_cr _), qa_sl1 (qa_cat _), qa_sl0]; exact Nat.le_of_ble_eq_true rfl)
  rw [lg_entry_eq]
  generalize (lg_sl ([.ref x, va_rf r]) ++ List.replicate (3 - (lg_sl ([.ref x, va_rf r])).length) Slot.unset).toArray = ls at hl ⊢
  have hl : lv_has ls 3 [(0, .ref x), (1, va_rf r)] := by rw [qa_ar1 (qa_cr _), qa_ar1 (qa_cat _)] at hl; exact hl
  have hH : s.heap = s.heap := rfl
  refine lv_aload_n hx hb dXT_keep_0 rfl (lv_at hl 0 rfl) ?_
  refine va_get (D := g.1) (ci := 1) (v := .int (nI cn)) (C := RXT) (T := TXT) (N := 3) hx hb hts (fun w h => List.mem_cons_of_mem _ (in_XT w h)) hown hK hP 4 rfl rfl 2 (by decide) (hts _ (List.mem_cons_of_mem _ mw_55)) (fun _ h9 => h9) rfl dXT_keep_1 ?_
  refine lv_istore_n (i := 2) (lv' := [(2, .int (nI cn)), (0, .ref x), (1, va_rf r)]) hx hb dXT_keep_4 rfl hl (by decide) (by simp [List.filter, qa_cat, qa_ci, qa_cl, qa_cr, qa_cn]) (fun ls hl => ?_)
  refine lv_aload_n hx hb dXT_keep_5 rfl (lv_at hl 1 rfl) ?_
  refine va_get (D := g.1) (ci := 1) (v := .ref ar) (C := RXT) (T := TXT) (N := 3) hx hb hts (fun w h => List.mem_cons_of_mem _ (in_XT w h)) hown hK hP 4 rfl rfl 0 (by decide) (hts _ (List.mem_cons_of_mem _ mw_53)) (fun _ h9 => h9) rfl dXT_keep_6 ?_
  refine lv_iload_n hx hb dXT_keep_9 rfl (lv_at hl 0 rfl) ?_
  refine qa_aload_n hx hb dXT_keep_10 rfl (lv_at hl 2 rfl) ?_
  refine qa_astq (D := g.1) (cl := vwCl) (r' := (RXN, TXN, 7)) hx hb hK hP hD hS 5 1 0 rfl rfl rfl (fun a ha => ?_) (vp_in_nI (n := cn) (by omega) (by decide)) dXT_keep_11 (fun H locs hP hD hS => ?_)
  · obtain ⟨k9, hk9⟩ := hp a (hm a ha)
    exact ⟨k9 + 6, _, hk9⟩
  rw [nI_clamp (by omega)] at hP hD
  have hP : va_P g.1 vwCl (mt_TW g c0 c1 c2 c3 x ar al cn (va_up fr cn r) Z) H := hP
  have hD : va_D (mt_A g) (mt_TW g c0 c1 c2 c3 x ar al cn (va_up fr cn r) Z) := hD
  refine lv_aload_n hx hb dXT_keep_12 rfl (lv_at hl 1 rfl) ?_
  refine lv_dup hx hb dXT_keep_13 rfl ?_
  refine va_get (D := g.1) (ci := 1) (v := .int (nI cn)) (C := RXT) (T := TXT) (N := 3) hx hb hts (fun w h => List.mem_cons_of_mem _ (in_XT w h)) hown hK hP 4 rfl rfl 2 (by decide) (hts _ (List.mem_cons_of_mem _ mw_55)) (fun _ h9 => h9) rfl dXT_keep_14 ?_
  refine lv_iconst (v := 1) hx hb dXT_keep_17 (by decide +kernel) ?_
  refine lv_iadd hx hb dXT_keep_18 ?_
  refine qa_i (y := (nI (cn + 1))) (nI_1 cn) ?_
  refine va_put (D := g.1) (ci := 1) (v := .int (nI (cn + 1))) (ty := .int) (C := RXT) (T := TXT) (N := 3) hx hb hts (fun w h => List.mem_cons_of_mem _ (in_XT w h)) tyXT tyXT_ok nmXT hown hK hP hD hS 4 rfl rfl 2 (by decide) (hts _ (List.mem_cons_of_mem _ mw_55)) (fun _ h9 => h9) rfl (by decide +kernel) rfl rfl (Nat.le_of_ble_eq_true rfl) dXT_keep_19 (fun H locs hP hD hS => ?_)
  have hP : va_P g.1 vwCl (mt_TW g c0 c1 c2 c3 x ar al (cn + 1) (va_up fr cn r) Z) H := hP
  have hD : va_D (mt_A g) (mt_TW g c0 c1 c2 c3 x ar al (cn + 1) (va_up fr cn r) Z) := hD
  refine lv_iload_n hx hb dXT_keep_22 rfl (lv_at hl 0 rfl) ?_
  exact W.iret (v := nI cn) hx hb hr (fun t9 ht hW => ⟨⟨nI cn, (), rfl, rfl, by rw [ht]; exact hP, hD⟩, hS.F ht⟩) hS.2.2 dXT_keep_23
end
section
/-! a throw of an exception whose constructor's own link stands at another entry: follows the library's Stand.ctorThrowS and the kit's vx_throwS -/
def nx_all (own : String) (ic : Nat) (X Y : String) (ix : Nat) (bytes : ByteArray) (names : List String) : List Cond :=
  Bundle.throwableAtoms ++ Bundle.throwableSAtoms ++ (Bundle.passSAtoms X Y ix bytes ++ Bundle.chainSAtoms Y names) ++
  [.methodLink own ic (Bundle.initS X), .instantiable X 6, .castable X X, .selects X Bundle.tFill0 Bundle.tFill0, .selects X Bundle.tFill Bundle.tFill,
   .lays X Bundle.tN "cause" "Ljava/lang/Throwable;", .lays X Bundle.tN "stackTrace" Bundle.steD, .lays X Bundle.tN "suppressedExceptions" Bundle.listD, .lays X Bundle.tN "detailMessage" "Ljava/lang/String;",
   .isRef (.static Bundle.tN "UNASSIGNED_STACK" Bundle.steD), .isRef (.static Bundle.tN "SUPPRESSED_SENTINEL" Bundle.listD),
   .fieldLink Bundle.tN 198 Bundle.tN "backtrace" "Ljava/lang/Object;", .lays Bundle.tN Bundle.tN "backtrace" "Ljava/lang/Object;", .lays X Bundle.tN "backtrace" "Ljava/lang/Object;"]
section
variable {p : Program} {l : Launch} {e : Env} {R : Room} {s : State} {m₀ : MethodId} {args : Array Value} {below : List Frame} {meth : Method} {c : Code} {W : State} {locs : List Loc} {cells slots : Nat}
set_option maxHeartbeats 4000000 in
theorem nx_ctor (X : Stand p l e R s m₀ args below meth c W locs cells slots) (hexec : p.tables.exec = Jvm.exec) (htr : e.platform.stackTraces = false) {own cls Y : String} {names : List String} {ic ix : Nat} {bytes : ByteArray}
    (hown : s.vm.findClass own = some m₀.cls) (hcls : Bundle.fit cls = true) (hY : Bundle.fit Y = true) (hnames : ∀ n ∈ names, Bundle.fit n = true)
    (b0 : decode bytes 0 = .ok (.aload_n 0, 1)) (b1 : decode bytes 1 = .ok (.aload_n 1, 1)) (b2 : decode bytes 2 = .ok (.invokespecial ix, 3)) (b5 : decode bytes 5 = .ok (.return_, 1))
    (h : ∀ a ∈ nx_all own ic cls Y ix bytes names, a.before args s = true)
    (hlocs : ∀ x ∈ locs, ∀ cell, s.heap[x.base]? = some cell → cell.vm.isStatics = false)
    {a : Addr} {cX : ClassId} {kX : Class} (hfoundX : s.vm.findClass cls = some cX) (hkX : s.vm.classes[cX]? = some kX) (hcell : W.heap[a]? = some (freshCell cX kX)) (hnew : s.heap.size ≤ a)
    {msg : Value} (hmsg : msg.isRef = true)
    {g : JFrame} (hg : g.method = m₀) (hsize : g.locals.size = c.maxLocals) (hlocked : g.locked = none) (hentered : g.entered = []) {rest : List Value} (hstack : g.stack = msg :: .ref a :: .ref a :: rest)
    (hd6 : decode c.code g.pc = .ok (.invokespecial ic, 3)) (hd9 : decode c.code (g.pc + 3) = .ok (.athrow, 1)) (hout : ∀ x ∈ c.exceptionTable.toList, covers x (g.pc + 3) = false)
    (hRframes : names.length + 4 < R.frames) (hRlocals : 2 * g.monitorRoom + ((Value.ref a :: rest).map fun v => v.category).sum + (13 * (names.length + 2) + 42) ≤ R.locals) (hlocks : meth.locks = false) :
    ∃ U : State, Steps p.tables e below (W.setTop g) U ∧ U.status = .running ∧ Ended U below (.threw a) ∧ s.WarmedH U.vm ∧ s.sameButNew ({ U with vm := s.vm } : State) locs cells slots ∧
      ∃ ce, U.heap[a]? = some ce ∧ ce.vm = .none ∧ s.vm.findClass cls = some ce.cls := by
  have howns : e.platform.frameOwnsMonitors = true := by rw [X.admits.platform]
  have hfin : e.platform.finalization = false := by rw [X.admits.platform]
  have hpl : e.platform.magicAccessors = ({} : Platform).magicAccessors := by rw [X.admits.platform]
  have at_ : ∀ x, x ∈ nx_all own ic cls Y ix bytes names → x.holds args s none s [] = true := fun x hx => h x hx
  have inT : ∀ x, x ∈ Bundle.throwableAtoms → x.before args s = true := fun x hx => h x (List.mem_append_left _ (List.mem_append_left _ (List.mem_append_left _ hx)))
  have inS : ∀ x, x ∈ Bundle.throwableSAtoms → x.before args s = true := fun x hx => h x (List.mem_append_left _ (List.mem_append_left _ (List.mem_append_right _ hx)))
  have inP : ∀ x, x ∈ Bundle.passSAtoms cls Y ix bytes → x.before args s = true := fun x hx => h x (List.mem_append_left _ (List.mem_append_right _ (List.mem_append_left _ hx)))
  have inC : ∀ x, x ∈ Bundle.chainSAtoms Y names → x.before args s = true := fun x hx => h x (List.mem_append_left _ (List.mem_append_right _ (List.mem_append_right _ hx)))
  obtain ⟨T, Z0, L, -, Yt⟩ := ThrowableC.of_atoms (args := args) howns hfin hpl inT
  obtain ⟨Z, M, LZ, LM, hnZ⟩ := Init0T.ofS_atoms (args := args) hpl L Yt inS
  obtain ⟨P1, L1, hP1m, hP1s⟩ := PassC.ofS_atoms (args := args) (s := s) hpl (X := cls) (Y := Y) (Bundle.fit_spec hcls).1 (Bundle.fit_spec hY).2 b0 b1 b2 b5 inP
  obtain ⟨P2, Ps, hlen, L2, hL, hP2m, hlink2, hlink⟩ := Bundle.chainS (args := args) hpl hnZ names Y hY hnames inC
  have hlink1 : P1.sup = P2.m := Option.some.inj (hP1s.symm.trans hP2m)
  have hfound : s.vm.findClass cls = some P1.m.cls := findClass_of_methodNamed hP1m
  cases Option.some.inj (hfoundX.symm.trans hfound)
  have tl : ∀ {x : Cond}, x ∈ ([.methodLink own ic (Bundle.initS cls), .instantiable cls 6, .castable cls cls, .selects cls Bundle.tFill0 Bundle.tFill0, .selects cls Bundle.tFill Bundle.tFill,
   .lays cls Bundle.tN "cause" "Ljava/lang/Throwable;", .lays cls Bundle.tN "stackTrace" Bundle.steD, .lays cls Bundle.tN "suppressedExceptions" Bundle.listD, .lays cls Bundle.tN "detailMessage" "Ljava/lang/String;",
   .isRef (.static Bundle.tN "UNASSIGNED_STACK" Bundle.steD), .isRef (.static Bundle.tN "SUPPRESSED_SENTINEL" Bundle.listD),
   .fieldLink Bundle.tN 198 Bundle.tN "backtrace" "Ljava/lang/Object;", .lays Bundle.tN Bundle.tN "backtrace" "Ljava/lang/Object;", .lays cls Bundle.tN "backtrace" "Ljava/lang/Object;"] : List Cond) → x.holds args s none s [] = true := fun hx => at_ _ (List.mem_append_right _ hx)
  obtain ⟨c1, kX', hc1, hk, hord, -, -, hn6⟩ := Cond.instantiable_spec (tl (x := .instantiable cls 6) (by simp))
  cases Option.some.inj (hc1.symm.trans hfound)
  cases Option.some.inj (hkX.symm.trans hk)
  have hsel0 : selectMethod e.platform s.vm P1.m.cls T.fill0 = .method T.fill0 := by
    obtain ⟨c2, r2, m2, q1, q2, q3, q4, -⟩ := Cond.selects_spec (tl (x := .selects cls Bundle.tFill0 Bundle.tFill0) (by simp))
    cases Option.some.inj (q1.symm.trans hfound)
    cases Option.some.inj (q2.symm.trans (State.methodFound?_of_named Yt.fill0 (by decide)))
    cases Option.some.inj (q3.symm.trans Yt.fill0)
    rw [Launch.admits_selectMethod X.admits]; exact q4
  have hselF : selectMethod e.platform s.vm P1.m.cls T.fill = .method T.fill := by
    obtain ⟨c2, r2, m2, q1, q2, q3, q4, -⟩ := Cond.selects_spec (tl (x := .selects cls Bundle.tFill Bundle.tFill) (by simp))
    cases Option.some.inj (q1.symm.trans hfound)
    cases Option.some.inj (q2.symm.trans (State.methodFound?_of_named Yt.fill (by decide)))
    cases Option.some.inj (q3.symm.trans Yt.fill)
    rw [Launch.admits_selectMethod X.admits]; exact q4
  obtain ⟨cellS0, hcS0, hiss⟩ := Yt.statics
  obtain ⟨u0, hu0⟩ := Cond.staticRefV Yt.unassigned L.unassignedStatic L.statics hcS0 hiss (tl (x := .isRef (.static Bundle.tN "UNASSIGNED_STACK" Bundle.steD)) (by simp))
  obtain ⟨sen, hsen⟩ := Cond.staticRefV Yt.sentinel L.sentinelStatic L.statics hcS0 hiss (tl (x := .isRef (.static Bundle.tN "SUPPRESSED_SENTINEL" Bundle.listD)) (by simp))
  obtain ⟨ci198, i198, fB, hk198, hg198, ha198, hsB, -, hnB, htB, hffB⟩ := Cond.ownField (t := .object "java/lang/Object") Yt.found L.cls (by decide +kernel) (tl (x := .fieldLink Bundle.tN 198 Bundle.tN "backtrace" "Ljava/lang/Object;") (by simp)) (tl (x := .lays Bundle.tN Bundle.tN "backtrace" "Ljava/lang/Object;") (by simp)) e.platform hpl
  obtain ⟨cellS, hcS', heS, -, hkeep⟩ := X.same.2.2.2.2.2 T.aS cellS0 hcS0
  have hcellS : W.heap[T.aS]? = some cellS := hcS'
  have hout' : ∀ i, (⟨T.aS, i⟩ : Loc) ∉ locs := fun i hmem => by
    have := hlocs _ hmem cellS0 hcS0
    rw [hiss] at this; cases this
  have hknownS : cellS.vm ≠ .unknown := by
    rw [heS]; intro hu
    rw [show cellS0.vm = .unknown from hu] at hiss
    cases hiss
  have hneS : T.aS ≠ a := Nat.ne_of_lt (Nat.lt_of_lt_of_le (Array.getElem?_eq_some_iff.mp hcS0).1 hnew)
  obtain ⟨iM, hffM⟩ := Yt.msg
  obtain ⟨tyC, dC, hdC, hdnC⟩ := Cond.laysAt hfound hk Yt.cause (tl (x := .lays cls Bundle.tN "cause" "Ljava/lang/Throwable;") (by simp))
  obtain ⟨tyS, dS, hdS, hdnS⟩ := Cond.laysAt hfound hk Yt.stack (tl (x := .lays cls Bundle.tN "stackTrace" Bundle.steD) (by simp))
  obtain ⟨tyP, dP, hdP, hdnP⟩ := Cond.laysAt hfound hk Yt.supp (tl (x := .lays cls Bundle.tN "suppressedExceptions" Bundle.listD) (by simp))
  obtain ⟨tyM, dM, hdM, hdnM⟩ := Cond.laysAt hfound hk hffM (tl (x := .lays cls Bundle.tN "detailMessage" "Ljava/lang/String;") (by simp))
  obtain ⟨tyB, dB, hdB, hdnB⟩ := Cond.laysAt hfound hk hffB (tl (x := .lays cls Bundle.tN "backtrace" "Ljava/lang/Object;") (by simp))
  have bC := Cond.laysApart hdB hdC hdnB hdnC (by rw [hnB, Yt.causeName]; decide)
  have bS := Cond.laysApart hdB hdS hdnB hdnS (by rw [hnB, Yt.stackName]; decide)
  have bP := Cond.laysApart hdB hdP hdnB hdnP (by rw [hnB, Yt.suppName]; decide)
  have hskip : SkipFacts T e.platform s (fun u => u) u0 ((preparedCellV T.toThrowableT (freshCell P1.m.cls kX) a u0 sen).withEntry W.cur) :=
    ⟨{ ci198 := ci198, i198 := i198, fBack := fB }, ⟨hk198, hg198, ha198, hsB⟩, by
      have := fresh_default (c := P1.m.cls) tyB
      rw [htB] at this
      simpa [preparedCellV, Cell.setSlot, Cell.withEntry, Array.getElem?_setIfInBounds, bC, bS, bP, bC.symm, bS.symm, bP.symm, defaultValue] using this, fun _ _ => rfl⟩
  obtain ⟨tm, methC, cdC, kC, vm₁, hnC, -, -, -, -, -, -, -, hW₁, st1⟩ := Steps.initColdS (tb := p.tables) (e := e) (below := below) (s := s) (U := W) X.here hexec X.warmed hpl hown (t := Bundle.initS cls) rfl rfl (Bundle.fit_spec hcls).2
    (tl (x := .methodLink own ic (Bundle.initS cls)) (by simp)) (inP (.instanceMethod (Bundle.initS cls)) (by simp [Bundle.passSAtoms])) (bytes := bytes) (maxL := 2) (inP (.code (Bundle.initS cls) bytes 2 none) (by simp [Bundle.passSAtoms]))
    (f := g) hg (a := a) (msg := msg) (rest := .ref a :: rest) hstack hd6
  cases Option.some.inj (hnC.symm.trans hP1m)
  have X₁ := X.noted hW₁
  obtain ⟨vm₂, X₂, st2⟩ := X₁.ctorMessageOffV hexec (g := { g with stack := .ref a :: rest }) hg hsize T L Z LZ M LM (P1 :: P2 :: Ps)
    (fun P hP => by rcases List.mem_cons.mp hP with rfl | hP; exact L1; rcases List.mem_cons.mp hP with rfl | hP; exact L2; exact hL P hP) ⟨hlink1, hlink2, hlink⟩ (u0 := u0) (sen := sen) (self := a) hmsg (cell := freshCell P1.m.cls kX) (cellS := cellS)
    hcell (fun _ => by simp) (by simp) rfl rfl hsel0 hselF hcellS hneS hknownS (by rw [hkeep _ (hout' _)]; exact hu0) (by rw [hkeep _ (hout' _)]; exact hsen)
    (Takes.of_laid hk hord tyC (by rw [Yt.causeType]; rfl)) (Takes.of_laid hk hord tyS (by rw [Yt.stackType]; exact fits_refV_array _ u0)) (Takes.of_laid hk hord tyP (by rw [Yt.suppType]; exact fits_refV_object _ sen))
    (Takes.of_laid hk hord tyM (by rw [Yt.msgType]; exact fits_refV_object _ ⟨msg, hmsg⟩)) Yt.objLocals hskip htr [] hd6
    (by simp only [List.length_cons, hlen]; omega) (by simp only [List.length_cons, hlen]; exact hRlocals)
  obtain ⟨hwalk, hrun, hended, hWU, hsame⟩ := X₂.athrowLeaves hexec (g := { g with stack := .ref a :: rest, pc := g.pc + 3 }) hg hlocked hentered hout (a := a) (rest := rest) rfl hd9
  have hlt : a < ((W.setVm vm₁).setVm vm₂).heap.size := (Array.getElem?_eq_some_iff.mp hcell).1
  have hU := heapAt_setCell_self (s := (W.setVm vm₁).setVm vm₂) (plainBareV T.toThrowableT (freshCell P1.m.cls kX) a u0 sen msg) hlt
  refine ⟨_, st1 _ (fun acts => ?_), hrun, hended, hWU, hsame.weaken (fun y hy hlt' => ?_) (Nat.le_refl _) (Nat.le_refl _), _, hU, rfl, hfound⟩
  · rw [doInvoke_state]
    exact st2 _ hwalk
  · rcases List.mem_append.mp hy with h1 | h1
    · exact h1
    · exfalso
      have hb : y.base = a := by
        simp only [List.mem_cons, List.not_mem_nil, or_false] at h1
        rcases h1 with rfl | rfl | rfl | rfl | rfl <;> rfl
      rw [hb] at hlt'
      exact Nat.not_lt.mpr hnew hlt'
end
section
variable {p : Program} {l : Launch} {e : Env} {R : Room} {s : State} {m : MethodId} {args : Array Value} {below : List Frame} {meth : Method} {c : Code} {H : Heap} {locs : List Loc} {cells slots : Nat} {Q : State → Prop}
variable {mc ms : Nat} {free : Addr → Prop} {A0 A1 : Nat → Prop} {H0 : Heap} {a : Array Value} {ls : Array Slot} {st0 rest : List Value}
variable {Qc : Array Value → State → Outcome → State → Prop} {XC : String → State → State → Prop}
set_option maxHeartbeats 4000000 in
/-- the same of such an exception -/
theorem nx_throwS {cc : ByteArray} {pc : Nat} (hexec : p.tables.exec = Jvm.exec) (hb : c.code = cc) (hl : l.stackTraces = false) {own cls text : String} {names : List String} {Yc : String} {bytes : ByteArray} {ik is ic ix mc ms sa : Nat} {A : Nat → Prop}
    (hown : s.vm.findClass own = some m.cls) (hcls : Bundle.fit cls = true) (hY : Bundle.fit Yc = true) (hnames : ∀ n ∈ names, Bundle.fit n = true)
    (b0 : decode bytes 0 = .ok (.aload_n 0, 1)) (b1 : decode bytes 1 = .ok (.aload_n 1, 1)) (b2 : decode bytes 2 = .ok (.invokespecial ix, 3)) (b5 : decode bytes 5 = .ok (.return_, 1))
    (hk : (Cond.classLink own ik cls).before args s = true) (hini : (Cond.initialized cls).before args s = true) (hstr : vk_R own is text sa s) (hat : ∀ w ∈ (nx_all own ic cls Yc ix bytes names).filter vx_no, w.before args s = true)
    (hgood : ∀ w ∈ Cond.classLink own ik cls :: Cond.initialized cls :: (nx_all own ic cls Yc ix bytes names).filter vx_no, vx_ot w = true)
    (hU : vx_Zq Bundle.tN "UNASSIGNED_STACK" Bundle.steD A s s.heap) (hN : vx_Zq Bundle.tN "SUPPRESSED_SENTINEL" Bundle.listD A s s.heap) (hS : va_S A s.heap H locs) (hsize : ls.size = c.maxLocals)
    (d0 : decode cc pc = .ok (.new ik, 3)) (d3 : decode cc (pc + 3) = .ok (.dup, 1)) (d4 : decode cc (pc + 4) = .ok (.ldc is, 2)) (d6 : decode cc (pc + 6) = .ok (.invokespecial ic, 3)) (d9 : decode cc (pc + 9) = .ok (.athrow, 1))
    (hout : ∀ x ∈ c.exceptionTable.toList, covers x (pc + 9) = false)
    (hRframes : names.length + 4 < R.frames) (hRlocals : (rest.map fun v => v.category).sum + (13 * (names.length + 2) + 43) ≤ R.locals) (hRcells : cells + 1 ≤ R.cells) (hRslots : slots + 6 ≤ R.slots) (hlocks : meth.locks = false)
    (hx : ∀ t : State, s.vm.Alike t.vm → H.size ≤ t.heap.size → (∀ q : Nat, q < H.size → t.heap[q]? = H[q]?) → XC cls s t)
    (hf : ∀ z ∈ locs, free z.base) (hc : cells + 1 ≤ mc) (hs : slots + 6 ≤ ms) :
    W p l e R s m args below meth c H locs cells slots (vx_MQ below Qc XC args s mc ms free) (F0 m pc ls rest) := by
  intro T hT X
  have htr : e.platform.stackTraces = false := (show e.platform.stackTraces = l.stackTraces by rw [X.admits.platform]).trans hl
  have Y := vx_rebase X (R' := { frames := R.frames, locals := R.locals, cells := 1, slots := 6 }) (Nat.le_refl _) (Nat.le_refl _) hRcells hRslots
  obtain ⟨s', hA⟩ : ∃ z, z = (T.setVm s.vm).setFrames (.invoking m args :: below) := ⟨_, rfl⟩
  rw [← hA] at Y
  have hvm : s'.vm = s.vm := by rw [hA]; rfl
  have hhp : s'.heap = H := by rw [hA]; exact hT
  have hW0 : s.WarmedH s'.vm := by rw [hvm]; exact State.WarmedH.refl s
  have hat' : ∀ w ∈ (nx_all own ic cls Yc ix bytes names).filter vx_no, w.before args s' = true := fun w hw => vx_ot_at hW0 hvm.symm (hgood w (List.mem_cons_of_mem _ (List.mem_cons_of_mem _ hw))) (hat w hw)
  have hk' : (Cond.classLink own ik cls).before args s' = true := vx_ot_at hW0 hvm.symm (hgood _ List.mem_cons_self) hk
  have hini' : (Cond.initialized cls).before args s' = true := vx_ot_at hW0 hvm.symm (hgood _ (List.mem_cons_of_mem _ List.mem_cons_self)) hini
  have hU' : vx_Zq Bundle.tN "UNASSIGNED_STACK" Bundle.steD A s' s'.heap := by rw [hhp]; exact vx_Zq.moved hW0.alike (hU.kept hS.2.1)
  have hN' : vx_Zq Bundle.tN "SUPPRESSED_SENTINEL" Bundle.listD A s' s'.heap := by rw [hhp]; exact vx_Zq.moved hW0.alike (hN.kept hS.2.1)
  have h : ∀ w ∈ nx_all own ic cls Yc ix bytes names, w.before args s' = true := vx_own hat' (vx_isRefq hU'.1) (vx_isRefq hN'.1) hU'.2.word hN'.2.word
  have hown' : s'.vm.findClass own = some m.cls := by rw [hvm]; exact hown
  have hins : (Cond.instantiable cls 6).before args s' = true := h _ (by simp [nx_all])
  obtain ⟨vm₁, cX, kX, hfX, hkX, -, -, X₁, st1⟩ := Y.newCold hexec (own := own) (C := cls) (index := ik) (n := 6) hown' hk' hins hini'
    (g := F0 m pc ls rest) rfl (by rw [hb]; exact d0) (Nat.le_refl _) (Nat.le_refl _)
  generalize hT1 : (T.setVm vm₁).pushCell { cls := cX, slots := kX.instanceTypes.map defaultValue, vm := .none } = T1 at X₁ st1
  have hcat : (Value.ref T.heap.size).category = 1 := rfl
  have hcellA : T1.heap[T.heap.size]? = some (freshCell cX kX) := by rw [← hT1]; exact State.heap_pushCell_size _ _
  have d3' : decode c.code (pc + 3) = .ok (.dup, 1) := by rw [hb]; exact d3
  have d4' : decode c.code (pc + 4) = .ok (.ldc is, 2) := by rw [hb]; exact d4
  have hstr' : vk_R own is text sa s' := vk_R.warm hW0 hstr
  obtain ⟨U, hsteps, hrun, hend, hW, hsame, ce, hce, hO⟩ := nx_ctor X₁ hexec htr (own := own) (cls := cls) (Y := Yc) (names := names) (ic := ic) (ix := ix) (bytes := bytes) hown' hcls hY hnames b0 b1 b2 b5 h (fun x hx => nomatch hx) hfX hkX hcellA (by rw [hhp, hT]; exact Nat.le_refl _) (msg := .ref sa) rfl
    (g := { method := m, pc := pc + 6, locals := ls, stack := .ref sa :: .ref T.heap.size :: .ref T.heap.size :: rest, locked := none }) rfl hsize rfl rfl (rest := rest) rfl
    (by rw [hb]; exact d6) (by rw [hb]; exact d9) hout hRframes (by simp only [List.map_cons, List.sum_cons, hcat]; omega) hlocks
  obtain ⟨f1, f2⟩ := vx_frame hsame
  rw [hhp] at f1 f2
  have hWs : s.WarmedH U.vm := State.WarmedH.trans hW0 hW
  have hcl : s.vm.findClass cls = some ce.cls := by
    have h9 := hO.2
    rw [hvm] at h9
    exact h9
  have hall : s.sameButNew ({ U with vm := s.vm } : State) locs mc ms := by
    subst hA
    obtain ⟨e1, e2⟩ := hsame
    rw [State.setFrames_setFrames] at e1
    have h2 : (T.setVm s.vm).sameButNew ({ U with vm := s.vm } : State) [] (0 + 1) (0 + 6) := ⟨e1, e2⟩
    have h3 := X.same.trans h2
    rw [List.append_nil] at h3
    exact h3.mono hc hs
  refine ⟨U, ?_, .threw T.heap.size, hrun, hend, Or.inr ⟨T.heap.size, rfl, cls, ce, locs, hx U hWs.alike f1 (fun q hq => f2 q hq (fun z hz => nomatch hz)), hce, hO.1, hcl, hWs, hall, hf⟩⟩
  refine st1 _ ?_
  show Steps p.tables e below (T1.setTop { method := m, pc := pc + 3, locals := ls, stack := .ref T.heap.size :: rest, locked := none }) _
  jvm_step X₁.here [X₁.here.top, hexec, d3', Value.category]
  exact X₁.ldcString hexec (own := own) (text := text) (index := is) (a := sa) hown' hstr'.1 hstr'.2
    (g := { method := m, pc := pc + 4, locals := ls, stack := .ref T.heap.size :: .ref T.heap.size :: rest, locked := none }) rfl d4' _ hsteps
end
theorem nx_b0 : decode prog_22_method_4_code 0 = .ok (.aload_n 0, 1) := by decide +kernel
theorem nx_b1 : decode prog_22_method_4_code 1 = .ok (.aload_n 1, 1) := by decide +kernel
theorem nx_b2 : decode prog_22_method_4_code 2 = .ok (.invokespecial 13, 3) := by decide +kernel
theorem nx_b5 : decode prog_22_method_4_code 5 = .ok (.return_, 1) := by decide +kernel
theorem nx_at : ∀ w ∈ ((nx_all RXT 59 "java/util/NoSuchElementException" "java/lang/RuntimeException" 13 prog_22_method_4_code ["java/lang/Exception"]).filter vx_no).filter goodWord, w ∈ mt_all := by decide +kernel
end
section
set_option maxHeartbeats 4000000 in
set_option maxRecDepth 100000 in
/-- get(v, k) -/
theorem c_get (l : Launch) (hl0 : l.stackTraces = false) (g : mt_G) (ws : va_W) (qT qR x ar al cn : Nat) (fr : Nat → Option Nat) (hT : ws[qT]? = some (x, .inr (1, [.ref ar, .ref al, .int (nI cn)]))) (hR : ws[qR]? = some (ar, .inl (g.2.2.2 1, 600, .inr (.inr (.inr (.inr fr)))))) (hcn : cn ≤ 600) (LP : List Nat) (nf : Nat → mt_N) (hp : mt_pool ws LP nf) (tab : Nat → mt_T) (hrep : ∀ j, j < cn → mt_rep LP nf (tab j) 8 0 (fr j)) (v k : Int32) : vx_Met l yXT_get wsXT_get ({ frames := 12, cells := 3, slots := 18, locals := 400 }) (mt_Pc g ws [.ref x, .int v, .int k]) (va_Qi (fun r (_ : Unit) => ∃ j i, j < cn ∧ i < 256 ∧ v = nI j ∧ k = nI i ∧ tab j i = some r) (fun _ _ => True) (fun _ => False)) (vx_X (fun _ : Unit => True) (fun E _ _ => (E = "java/lang/IndexOutOfBoundsException" ∧ ¬ (mt_ver v cn ∧ mt_key k)) ∨ (E = "java/util/NoSuchElementException" ∧ ∃ j i, j < cn ∧ i < 256 ∧ v = nI j ∧ k = nI i ∧ tab j i = none)) (fun _ => False)) (3) (18) (mt_A g) := by
  refine vx_ofW (cc := cXT_get) (maxL := 4) (ret := (some .int)) (by decide) rfl ?_
  intro p e s m args below meth c s₁ B hml hnx hv
  obtain ⟨rfl, hE, hz, hP, hD⟩ := hv
  have hx := B.exec
  have hb := B.bytes
  have hr := B.returns
  have hts := atoms_spec (ws := wsXT_get) B.pre
  have hown : s.vm.findClass RXT = some m.cls := findClass_of_methodNamed B.named
  have hlocks := B.notSynchronized
  have hK := hE.k
  have hA : ∀ q : Nat, s.heap.size ≤ q → mt_A g q := fun q h => Nat.le_trans hz h
  have hS : va_S (mt_A g) s.heap s.heap [] := va_S.rf
  have hl := lv_entry ([.ref x, .int v, .int k]) (n := 4) (Nat.le_of_ble_eq_true rfl)
  rw [lg_entry_eq]
  generalize (lg_sl ([.ref x, .int v, .int k]) ++ List.replicate (4 - (lg_sl ([.ref x, .int v, .int k])).length) Slot.unset).toArray = ls at hl ⊢
  have hl : lv_has ls 4 [(0, .ref x), (1, .int v), (2, .int k)] := hl
  have hH : s.heap = s.heap := rfl
  have hU : mt_same s s.heap := mt_same.rf
  refine lv_aload_n hx hb dXT_get_0 rfl (lv_at hl 0 rfl) ?_
  refine lv_iload_n hx hb dXT_get_1 rfl (lv_at hl 1 rfl) ?_
  refine vx_callv (vx_runV (As := [.int v]) (rest := []) ⟨hx, hb, hml, hown, hts⟩ (c_needVersion l hl0 g ws qT qR x ar al cn fr hT hR hcn v) (cwV 1 hts (mt_giV mw_116 mw_117 mw_464 mw_1 (mt_gi mw_118)) rfl rfl rfl (by decide +kernel) ⟨by decide, by decide⟩) (mt_preV hE hz hS hP hD (va_recv hK hP (q := (RXT, TXT, 3)) rfl hT)) rfl rfl hl.1 rfl (lv_room (Nat.le_of_ble_eq_true rfl)) dXT_get_2 ⟨by decide, by decide⟩) hS (fun _ _ h => h.elim) (fun _ h => h) (fun _ _ h => h.elim) (fun E ce q9 u t H1 locs1 ht hvm hpx hBX hz1 hk1 hS1 hce hcv hcl => ?_) (fun u t H1 locs1 ht hvm hpo _ hz1 hk1 hS1 => ?_)
  · have hU1 := hU.step hz1 hk1
    subst hBX
    exact vx_out (fun x hx9 => (hnx x hx9).elim) hlocks hce hcv hcl (fun t ht9 _ => ⟨(), trivial, Or.inl ⟨rfl, fun h9 => hpx h9.1⟩, hU1.F ht9⟩) (fun z hz9 => hS1.2.2 z hz9) (by decide) (by decide)
  have hU := hU.step hz1 hk1
  have hP := mt_keepP hk1 hP
  have hS := hS1
  clear hS1
  have hv0 := hpo
  clear hpo
  refine lv_iload_n hx hb dXT_get_5 rfl (lv_at hl 2 rfl) ?_
  refine vx_callv (vx_runS (As := [.int k]) (rest := []) ⟨hx, hb, hml, hown, hts⟩ (c_needKey l hl0 g ws k) (va_cwS 1 hts (mt_giS mw_175 mw_176 mw_1 (mt_gi mw_177)) rfl rfl rfl (by decide +kernel) ⟨by decide, by decide⟩) (mt_preS hE hz hS hP hD) rfl rfl hl.1 rfl (lv_room (Nat.le_of_ble_eq_true rfl)) dXT_get_6 ⟨by decide, by decide⟩) hS (fun _ _ h => h.elim) (fun _ h => h) (fun _ _ h => h.elim) (fun E ce q9 u t H1 locs1 ht hvm hpx hBX hz1 hk1 hS1 hce hcv hcl => ?_) (fun u t H1 locs1 ht hvm hpo _ hz1 hk1 hS1 => ?_)
  · have hU1 := hU.step hz1 hk1
    subst hBX
    exact vx_out (fun x hx9 => (hnx x hx9).elim) hlocks hce hcv hcl (fun t ht9 _ => ⟨(), trivial, Or.inl ⟨rfl, fun h9 => hpx h9.2⟩, hU1.F ht9⟩) (fun z hz9 => hS1.2.2 z hz9) (by decide) (by decide)
  have hU := hU.step hz1 hk1
  have hP := mt_keepP hk1 hP
  have hS := hS1
  clear hS1
  obtain ⟨j, hj, rfl⟩ := mt_ver_nat hcn hv0
  obtain ⟨i, hi, rfl⟩ := mt_key_nat hpo
  refine lv_aload_n hx hb dXT_get_9 rfl (lv_at hl 0 rfl) ?_
  refine va_get (D := g.1) (ci := 1) (v := .ref ar) (C := RXT) (T := TXT) (N := 3) hx hb hts (fun w h => List.mem_cons_of_mem _ (in_XT w h)) hown hK hP qT hT rfl 0 (by decide) (hts _ (List.mem_cons_of_mem _ mw_53)) (fun _ h9 => h9) rfl dXT_get_10 ?_
  refine lv_iload_n hx hb dXT_get_13 rfl (lv_at hl 1 rfl) ?_
  refine va_aldq (D := g.1) (cl := vwCl) hx hb hK hP qR 1 hR rfl (vp_in_nI (n := j) (by omega) (by decide)) dXT_get_14 ?_
  refine qa_q (y := fr j) (by rw [nI_clamp (by omega)]) ?_
  refine lv_iload_n hx hb dXT_get_15 rfl (lv_at hl 2 rfl) ?_
  refine va_csq (W.runS (As := [va_rf (fr j), .int (nI i)]) (rest := []) ⟨hx, hb, hml, hown, hts⟩ (c_leafAt l g ws LP nf hp (tab j) (fr j) (hrep j hj) hi) (va_cwS 2 hts (mt_giS mw_296 mw_297 mw_1 (mt_gi mw_298)) rfl rfl rfl (by decide +kernel) ⟨by decide, by decide⟩) (mt_preS hE hz hS hP hD) rfl rfl hl.1 rfl (lv_room (Nat.le_of_ble_eq_true rfl)) dXT_get_16 ⟨by decide, by decide⟩) (fun z hz0 => ?_)
  refine qa_astore_n (i := 3) (lv' := [(3, va_rf z), (0, .ref x), (1, .int (nI j)), (2, .int (nI i))]) hx hb dXT_get_19 rfl hl (by decide) (by simp [List.filter, qa_cat, qa_ci, qa_cl, qa_cr, qa_cn]) (fun ls hl => ?_)
  refine qa_aload_n hx hb dXT_get_20 rfl (lv_at hl 0 rfl) ?_
  refine qa_ifnonnull (tgt := 34) hx hb dXT_get_21 (by decide) (fun av c1 => ?_) (fun c1 => ?_)
  · subst c1
    obtain ⟨hm, x1, ht1, hx1⟩ := hz0
    obtain ⟨kv, hkv⟩ := hp av hm
    have hl : lv_has ls 4 [(3, .ref av), (0, .ref x), (1, .int (nI j)), (2, .int (nI i))] := hl
    refine lv_aload_n hx hb dXT_get_34 rfl (lv_at hl 0 rfl) ?_
    refine va_getN (D := g.1) (ci := 0) (v := .int ((nf av).2.2.2.2.1)) (C := RXN) (T := TXN) (N := 7) hx hb hts (fun w h => List.mem_cons_of_mem _ (in_XN w h)) hown hK hP kv hkv rfl 4 (by decide) (va_Nw.use rfl (hE.w (.fieldLinkNest "MeldTree" 67 "MeldTree$Node" "value" "I" "MeldTree") (by decide +kernel))) (fun _ h9 => h9) rfl dXT_get_35 ?_
    refine vx_ret ?_
    refine W.widen (k := 3) (n := 18) (by decide) (by decide) ?_
    exact W.iret (v := (nf av).2.2.2.2.1) hx hb hr (fun t9 ht hW => ⟨⟨(nf av).2.2.2.2.1, (), rfl, ⟨j, i, hj, hi, rfl, rfl, by rw [hx1]; exact ht1⟩, trivial⟩, hU.F ht⟩) hS.2.2 dXT_get_38
  · obtain ⟨sa, hsa⟩ := hE.s _ _ _ (show (RXT, 57, "the version has not this key") ∈ mt_strs by decide +kernel)
    exact nx_throwS (Yc := "java/lang/RuntimeException") (names := ["java/lang/Exception"]) hx hb hl0 hown (by decide +kernel) (by decide +kernel) (by decide +kernel) nx_b0 nx_b1 nx_b2 nx_b5 (hts _ (List.mem_cons_of_mem _ mw_299)) (hts _ (List.mem_cons_of_mem _ mw_16)) hsa (vx_hat (L := (nx_all RXT 59 "java/util/NoSuchElementException" "java/lang/RuntimeException" 13 prog_22_method_4_code ["java/lang/Exception"]).filter vx_no) (B := [.castable "java/util/NoSuchElementException" "java/util/NoSuchElementException", .declares ⟨"java/lang/RuntimeException", "<init>", "(Ljava/lang/String;)V"⟩, .declares ⟨"java/lang/Exception", "<init>", "(Ljava/lang/String;)V"⟩, .declares ⟨"java/lang/Throwable", "<init>", "(Ljava/lang/String;)V"⟩]) (fun w hw => hts w (List.mem_cons_of_mem _ (nx_at w hw))) (by decide +kernel) (vx_c (va_Nw.use rfl (hE.w (.castable "java/util/NoSuchElementException" "java/util/NoSuchElementException") (by decide +kernel))) (vx_c (va_Nw.use rfl (hE.w (.declares ⟨"java/lang/RuntimeException", "<init>", "(Ljava/lang/String;)V"⟩) (by decide +kernel))) (vx_c (va_Nw.use rfl (hE.w (.declares ⟨"java/lang/Exception", "<init>", "(Ljava/lang/String;)V"⟩) (by decide +kernel))) (vx_c (va_Nw.use rfl (hE.w (.declares ⟨"java/lang/Throwable", "<init>", "(Ljava/lang/String;)V"⟩) (by decide +kernel))) (vx_n)))))) (by decide +kernel) hE.u hE.n hS (by rw [hml]; exact hl.1) dXT_get_24 dXT_get_27 dXT_get_28 dXT_get_30 dXT_get_33 (fun x hx9 => (hnx x hx9).elim) (by decide) (by decide) (by decide) (by decide) hlocks (fun t hvm h1 h2 => ⟨(), trivial, Or.inr ⟨rfl, j, i, hj, hi, rfl, rfl, by rw [c1] at hz0; exact hz0⟩, hU.ext h1 h2⟩) hS.2.2 (by decide) (by decide)
set_option maxHeartbeats 4000000 in
set_option maxRecDepth 100000 in
/-- select(v, i) -/
theorem c_select (l : Launch) (hl0 : l.stackTraces = false) (g : mt_G) (ws : va_W) (qT qR x ar al cn : Nat) (fr : Nat → Option Nat) (hT : ws[qT]? = some (x, .inr (1, [.ref ar, .ref al, .int (nI cn)]))) (hR : ws[qR]? = some (ar, .inl (g.2.2.2 1, 600, .inr (.inr (.inr (.inr fr)))))) (hcn : cn ≤ 600) (LP : List Nat) (nf : Nat → mt_N) (hp : mt_pool ws LP nf) (tab : Nat → mt_T) (hrep : ∀ j, j < cn → mt_rep LP nf (tab j) 8 0 (fr j)) (v i : Int32) : vx_Met l yXT_select wsXT_select ({ frames := 12, cells := 2, slots := 12, locals := 400 }) (mt_Pc g ws [.ref x, .int v, .int i]) (va_Qi (fun r (_ : Unit) => ∃ j n k, j < cn ∧ v = nI j ∧ i = nI n ∧ n < 256 ∧ k < 256 ∧ r = nI k ∧ tab j k ≠ none ∧ mt_c (tab j) 0 k = n) (fun _ _ => True) (fun _ => False)) (vx_X (fun _ : Unit => True) (fun E _ _ => E = "java/lang/IndexOutOfBoundsException" ∧ ¬ (∃ j, j < cn ∧ v = nI j ∧ 0 ≤ i ∧ i < nI (mt_c (tab j) 0 256))) (fun _ => False)) (2) (12) (mt_A g) := by
  refine vx_ofW (cc := cXT_select) (maxL := 3) (ret := (some .int)) (by decide) rfl ?_
  intro p e s m args below meth c s₁ B hml hnx hv
  obtain ⟨rfl, hE, hz, hP, hD⟩ := hv
  have hx := B.exec
  have hb := B.bytes
  have hr := B.returns
  have hts := atoms_spec (ws := wsXT_select) B.pre
  have hown : s.vm.findClass RXT = some m.cls := findClass_of_methodNamed B.named
  have hlocks := B.notSynchronized
  have hK := hE.k
  have hA : ∀ q : Nat, s.heap.size ≤ q → mt_A g q := fun q h => Nat.le_trans hz h
  have hS : va_S (mt_A g) s.heap s.heap [] := va_S.rf
  have hl := lv_entry ([.ref x, .int v, .int i]) (n := 3) (Nat.le_of_ble_eq_true rfl)
  rw [lg_entry_eq]
  generalize (lg_sl ([.ref x, .int v, .int i]) ++ List.replicate (3 - (lg_sl ([.ref x, .int v, .int i])).length) Slot.unset).toArray = ls at hl ⊢
  have hl : lv_has ls 3 [(0, .ref x), (1, .int v), (2, .int i)] := hl
  have hH : s.heap = s.heap := rfl
  have hU : mt_same s s.heap := mt_same.rf
  refine lv_aload_n hx hb dXT_select_0 rfl (lv_at hl 0 rfl) ?_
  refine lv_iload_n hx hb dXT_select_1 rfl (lv_at hl 1 rfl) ?_
  refine vx_callv (vx_runV (As := [.int v]) (rest := []) ⟨hx, hb, hml, hown, hts⟩ (c_needVersion l hl0 g ws qT qR x ar al cn fr hT hR hcn v) (cwV 1 hts (mt_giV mw_116 mw_117 mw_464 mw_1 (mt_gi mw_118)) rfl rfl rfl (by decide +kernel) ⟨by decide, by decide⟩) (mt_preV hE hz hS hP hD (va_recv hK hP (q := (RXT, TXT, 3)) rfl hT)) rfl rfl hl.1 rfl (lv_room (Nat.le_of_ble_eq_true rfl)) dXT_select_2 ⟨by decide, by decide⟩) hS (fun _ _ h => h.elim) (fun _ h => h) (fun _ _ h => h.elim) (fun E ce q9 u t H1 locs1 ht hvm hpx hBX hz1 hk1 hS1 hce hcv hcl => ?_) (fun u t H1 locs1 ht hvm hpo _ hz1 hk1 hS1 => ?_)
  · have hU1 := hU.step hz1 hk1
    subst hBX
    exact vx_out (fun x hx9 => (hnx x hx9).elim) hlocks hce hcv hcl (fun t ht9 _ => ⟨(), trivial, ⟨rfl, fun ⟨j, hj, e9, _⟩ => hpx (mt_ver_of hcn hj e9)⟩, hU1.F ht9⟩) (fun z hz9 => hS1.2.2 z hz9) (by decide) (by decide)
  have hU := hU.step hz1 hk1
  have hP := mt_keepP hk1 hP
  have hS := hS1
  clear hS1
  obtain ⟨j, hj, rfl⟩ := mt_ver_nat hcn hpo
  have hone : ∀ j2, j2 < cn → nI j = nI j2 → j = j2 := fun j2 h9 e9 => (nI_eq (by omega) (by omega)).mp e9
  refine lv_iload_n hx hb dXT_select_5 rfl (lv_at hl 2 rfl) ?_
  refine lv_if_lt (tgt := 22) hx hb dXT_select_6 (by decide) (fun c1 => ?_) (fun c1 => ?_)
  · obtain ⟨sa, hsa⟩ := hE.s _ _ _ (show (RXT, 73, "the version has not so many keys") ∈ mt_strs by decide +kernel)
    exact vx_throwS (names := ["java/lang/RuntimeException", "java/lang/Exception"]) hx hb hl0 hown (by decide +kernel) (by decide +kernel) (hts _ (List.mem_cons_of_mem _ mw_119)) (hts _ (List.mem_cons_of_mem _ mw_9)) hsa (vx_hat (L := vx_atS RXT 66 "java/lang/IndexOutOfBoundsException" ["java/lang/RuntimeException", "java/lang/Exception"]) (B := [.castable "java/lang/IndexOutOfBoundsException" "java/lang/IndexOutOfBoundsException", .declares ⟨"java/lang/RuntimeException", "<init>", "(Ljava/lang/String;)V"⟩, .declares ⟨"java/lang/Exception", "<init>", "(Ljava/lang/String;)V"⟩, .declares ⟨"java/lang/Throwable", "<init>", "(Ljava/lang/String;)V"⟩]) (fun w hw => hts w (List.mem_cons_of_mem _ (at_66 w hw))) (by decide +kernel) (vx_c (va_Nw.use rfl (hE.w (.castable "java/lang/IndexOutOfBoundsException" "java/lang/IndexOutOfBoundsException") (by decide +kernel))) (vx_c (va_Nw.use rfl (hE.w (.declares ⟨"java/lang/RuntimeException", "<init>", "(Ljava/lang/String;)V"⟩) (by decide +kernel))) (vx_c (va_Nw.use rfl (hE.w (.declares ⟨"java/lang/Exception", "<init>", "(Ljava/lang/String;)V"⟩) (by decide +kernel))) (vx_c (va_Nw.use rfl (hE.w (.declares ⟨"java/lang/Throwable", "<init>", "(Ljava/lang/String;)V"⟩) (by decide +kernel))) (vx_n)))))) (by decide +kernel) hE.u hE.n hS (by rw [hml]; exact hl.1) dXT_select_22 dXT_select_25 dXT_select_26 dXT_select_28 dXT_select_31 (fun x hx9 => (hnx x hx9).elim) (by decide) (by decide) (by decide) (by decide) hlocks (fun t hvm h1 h2 => ⟨(), trivial, ⟨rfl, fun ⟨_, _, _, h9, _⟩ => absurd c1 (Int32.not_lt.mpr h9)⟩, hU.ext h1 h2⟩) hS.2.2 (by decide) (by decide)
  · refine lv_iload_n hx hb dXT_select_9 rfl (lv_at hl 2 rfl) ?_
    refine lv_aload_n hx hb dXT_select_10 rfl (lv_at hl 0 rfl) ?_
    refine va_get (D := g.1) (ci := 1) (v := .ref ar) (C := RXT) (T := TXT) (N := 3) hx hb hts (fun w h => List.mem_cons_of_mem _ (in_XT w h)) hown hK hP qT hT rfl 0 (by decide) (hts _ (List.mem_cons_of_mem _ mw_53)) (fun _ h9 => h9) rfl dXT_select_11 ?_
    refine lv_iload_n hx hb dXT_select_14 rfl (lv_at hl 1 rfl) ?_
    refine va_aldq (D := g.1) (cl := vwCl) hx hb hK hP qR 1 hR rfl (vp_in_nI (n := j) (by omega) (by decide)) dXT_select_15 ?_
    refine qa_q (y := fr j) (by rw [nI_clamp (by omega)]) ?_
    refine vp_callSi (W.runS (As := [va_rf (fr j)]) (rest := [.int i]) ⟨hx, hb, hml, hown, hts⟩ (c_sizeOf l g ws LP nf hp (fr j) (mt_rep_mem (hrep j hj))) (va_cwS 1 hts (mt_giS mw_101 mw_102 mw_1 (mt_gi mw_103)) rfl rfl rfl (by decide +kernel) ⟨by decide, by decide⟩) (mt_preS hE hz hS hP hD) rfl rfl hl.1 rfl (lv_room (Nat.le_of_ble_eq_true rfl)) dXT_select_16 ⟨by decide, by decide⟩) (fun z e1 => ?_)
    rw [(mt_rep_sz (hrep j hj)).1] at e1
    subst e1
    refine lv_icmp_lt (tgt := 32) hx hb dXT_select_19 (by decide) (fun c2 => ?_) (fun c2 => ?_)
    · obtain ⟨n, hn31, rfl⟩ := nI_of (x := i) c1
      have hcl := mt_c_le (tab j) 0 256
      have hn : n < mt_c (tab j) 0 256 := (nI_ltI hn31 (by show mt_c (tab j) 0 256 < 2 ^ 31; omega)).mp c2
      refine lv_aload_n hx hb dXT_select_32 rfl (lv_at hl 0 rfl) ?_
      refine va_get (D := g.1) (ci := 1) (v := .ref ar) (C := RXT) (T := TXT) (N := 3) hx hb hts (fun w h => List.mem_cons_of_mem _ (in_XT w h)) hown hK hP qT hT rfl 0 (by decide) (hts _ (List.mem_cons_of_mem _ mw_53)) (fun _ h9 => h9) rfl dXT_select_33 ?_
      refine lv_iload_n hx hb dXT_select_36 rfl (lv_at hl 1 rfl) ?_
      refine va_aldq (D := g.1) (cl := vwCl) hx hb hK hP qR 1 hR rfl (vp_in_nI (n := j) (by omega) (by decide)) dXT_select_37 ?_
      refine qa_q (y := fr j) (by rw [nI_clamp (by omega)]) ?_
      refine lv_iload_n hx hb dXT_select_38 rfl (lv_at hl 2 rfl) ?_
      refine vp_callSi (W.runS (As := [va_rf (fr j), .int (nI n)]) (rest := []) ⟨hx, hb, hml, hown, hts⟩ (c_keyAt l g ws LP nf hp (tab j) (fr j) (hrep j hj) hn) (va_cwS 2 hts (mt_giS mw_334 mw_335 mw_1 (mt_gi mw_336)) rfl rfl rfl (by decide +kernel) ⟨by decide, by decide⟩) (mt_preS hE hz hS hP hD) rfl rfl hl.1 rfl (lv_room (Nat.le_of_ble_eq_true rfl)) dXT_select_39 ⟨by decide, by decide⟩) (fun z hz0 => ?_)
      obtain ⟨k, hk, rfl, hk1, hk2⟩ := hz0
      refine vx_ret ?_
      refine W.widen (k := 2) (n := 12) (by decide) (by decide) ?_
      exact W.iret (v := (nI k)) hx hb hr (fun t9 ht hW => ⟨⟨(nI k), (), rfl, ⟨j, n, k, hj, rfl, rfl, by omega, hk, rfl, hk1, hk2⟩, trivial⟩, hU.F ht⟩) hS.2.2 dXT_select_42
    · obtain ⟨sa, hsa⟩ := hE.s _ _ _ (show (RXT, 73, "the version has not so many keys") ∈ mt_strs by decide +kernel)
      exact vx_throwS (names := ["java/lang/RuntimeException", "java/lang/Exception"]) hx hb hl0 hown (by decide +kernel) (by decide +kernel) (hts _ (List.mem_cons_of_mem _ mw_119)) (hts _ (List.mem_cons_of_mem _ mw_9)) hsa (vx_hat (L := vx_atS RXT 66 "java/lang/IndexOutOfBoundsException" ["java/lang/RuntimeException", "java/lang/Exception"]) (B := [.castable "java/lang/IndexOutOfBoundsException" "java/lang/IndexOutOfBoundsException", .declares ⟨"java/lang/RuntimeException", "<init>", "(Ljava/lang/String;)V"⟩, .declares ⟨"java/lang/Exception", "<init>", "(Ljava/lang/String;)V"⟩, .declares ⟨"java/lang/Throwable", "<init>", "(Ljava/lang/String;)V"⟩]) (fun w hw => hts w (List.mem_cons_of_mem _ (at_66 w hw))) (by decide +kernel) (vx_c (va_Nw.use rfl (hE.w (.castable "java/lang/IndexOutOfBoundsException" "java/lang/IndexOutOfBoundsException") (by decide +kernel))) (vx_c (va_Nw.use rfl (hE.w (.declares ⟨"java/lang/RuntimeException", "<init>", "(Ljava/lang/String;)V"⟩) (by decide +kernel))) (vx_c (va_Nw.use rfl (hE.w (.declares ⟨"java/lang/Exception", "<init>", "(Ljava/lang/String;)V"⟩) (by decide +kernel))) (vx_c (va_Nw.use rfl (hE.w (.declares ⟨"java/lang/Throwable", "<init>", "(Ljava/lang/String;)V"⟩) (by decide +kernel))) (vx_n)))))) (by decide +kernel) hE.u hE.n hS (by rw [hml]; exact hl.1) dXT_select_22 dXT_select_25 dXT_select_26 dXT_select_28 dXT_select_31 (fun x hx9 => (hnx x hx9).elim) (by decide) (by decide) (by decide) (by decide) hlocks (fun t hvm h1 h2 => ⟨(), trivial, ⟨rfl, fun ⟨j2, h8, e8, _, h9⟩ => c2 (by rw [hone j2 h8 e8]; exact h9)⟩, hU.ext h1 h2⟩) hS.2.2 (by decide) (by decide)
set_option maxHeartbeats 4000000 in
set_option maxRecDepth 100000 in
/-- many(v, a, b) -/
theorem c_many (l : Launch) (hl0 : l.stackTraces = false) (g : mt_G) (ws : va_W) (qT qR x ar al cn : Nat) (fr : Nat → Option Nat) (hT : ws[qT]? = some (x, .inr (1, [.ref ar, .ref al, .int (nI cn)]))) (hR : ws[qR]? = some (ar, .inl (g.2.2.2 1, 600, .inr (.inr (.inr (.inr fr)))))) (hcn : cn ≤ 600) (LP : List Nat) (nf : Nat → mt_N) (hp : mt_pool ws LP nf) (tab : Nat → mt_T) (hrep : ∀ j, j < cn → mt_rep LP nf (tab j) 8 0 (fr j)) (v a b : Int32) : vx_Met l yXT_many wsXT_many ({ frames := 12, cells := 1, slots := 6, locals := 400 }) (mt_Pc g ws [.ref x, .int v, .int a, .int b]) (va_Qi (fun r (_ : Unit) => ∃ j, j < cn ∧ v = nI j ∧ r = nI (mt_m (tab j) (mt_cl a) (mt_cl b) 256)) (fun _ _ => True) (fun _ => False)) (vx_X (fun _ : Unit => True) (fun E _ _ => E = "java/lang/IndexOutOfBoundsException" ∧ ¬ mt_ver v cn) (fun _ => False)) (1) (6) (mt_A g) := by
  refine vx_ofW (cc := cXT_many) (maxL := 4) (ret := (some .int)) (by decide) rfl ?_
  intro p e s m args below meth c s₁ B hml hnx hv
  obtain ⟨rfl, hE, hz, hP, hD⟩ := hv
  have hx := B.exec
  have hb := B.bytes
  have hr := B.returns
  have hts := atoms_spec (ws := wsXT_many) B.pre
  have hown : s.vm.findClass RXT = some m.cls := findClass_of_methodNamed B.named
  have hlocks := B.notSynchronized
  have hK := hE.k
  have hA : ∀ q : Nat, s.heap.size ≤ q → mt_A g q := fun q h => Nat.le_trans hz h
  have hS : va_S (mt_A g) s.heap s.heap [] := va_S.rf
  have hl := lv_entry ([.ref x, .int v, .int a, .int b]) (n := 4) (Nat.le_of_ble_eq_true rfl)
  rw [lg_entry_eq]
  generalize (lg_sl ([.ref x, .int v, .int a, .int b]) ++ List.replicate (4 - (lg_sl ([.ref x, .int v, .int a, .int b])).length) Slot.unset).toArray = ls at hl ⊢
  have hl : lv_has ls 4 [(0, .ref x), (1, .int v), (2, .int a), (3, .int b)] := hl
  have hH : s.heap = s.heap := rfl
  have hU : mt_same s s.heap := mt_same.rf
  refine lv_aload_n hx hb dXT_many_0 rfl (lv_at hl 0 rfl) ?_
  refine lv_iload_n hx hb dXT_many_1 rfl (lv_at hl 1 rfl) ?_
  refine vx_callv (vx_runV (As := [.int v]) (rest := []) ⟨hx, hb, hml, hown, hts⟩ (c_needVersion l hl0 g ws qT qR x ar al cn fr hT hR hcn v) (cwV 1 hts (mt_giV mw_116 mw_117 mw_464 mw_1 (mt_gi mw_118)) rfl rfl rfl (by decide +kernel) ⟨by decide, by decide⟩) (mt_preV hE hz hS hP hD (va_recv hK hP (q := (RXT, TXT, 3)) rfl hT)) rfl rfl hl.1 rfl (lv_room (Nat.le_of_ble_eq_true rfl)) dXT_many_2 ⟨by decide, by decide⟩) hS (fun _ _ h => h.elim) (fun _ h => h) (fun _ _ h => h.elim) (fun E ce q9 u t H1 locs1 ht hvm hpx hBX hz1 hk1 hS1 hce hcv hcl => ?_) (fun u t H1 locs1 ht hvm hpo _ hz1 hk1 hS1 => ?_)
  · have hU1 := hU.step hz1 hk1
    subst hBX
    exact vx_out (fun x hx9 => (hnx x hx9).elim) hlocks hce hcv hcl (fun t ht9 _ => ⟨(), trivial, ⟨rfl, hpx⟩, hU1.F ht9⟩) (fun z hz9 => hS1.2.2 z hz9) (by decide) (by decide)
  have hU := hU.step hz1 hk1
  have hP := mt_keepP hk1 hP
  have hS := hS1
  clear hS1
  obtain ⟨j, hj, rfl⟩ := mt_ver_nat hcn hpo
  have hans := mt_many (tab j) a b
  refine lv_iload_n hx hb dXT_many_5 rfl (lv_at hl 2 rfl) ?_
  refine lv_iload_n hx hb dXT_many_6 rfl (lv_at hl 3 rfl) ?_
  refine lv_icmp_ge (tgt := 34) hx hb dXT_many_7 (by decide) (fun c1 => ?_) (fun c1 => ?_)
  · refine lv_iconst (v := 0) hx hb dXT_many_34 (by decide +kernel) ?_
    rw [if_neg (Int32.not_lt.mpr c1)] at hans
    refine vx_ret ?_
    refine W.widen (k := 1) (n := 6) (by decide) (by decide) ?_
    exact W.iret (v := 0) hx hb hr (fun t9 ht hW => ⟨⟨0, (), rfl, ⟨j, hj, rfl, hans⟩, trivial⟩, hU.F ht⟩) hS.2.2 dXT_many_35
  · refine lv_aload_n hx hb dXT_many_10 rfl (lv_at hl 0 rfl) ?_
    refine va_get (D := g.1) (ci := 1) (v := .ref ar) (C := RXT) (T := TXT) (N := 3) hx hb hts (fun w h => List.mem_cons_of_mem _ (in_XT w h)) hown hK hP qT hT rfl 0 (by decide) (hts _ (List.mem_cons_of_mem _ mw_53)) (fun _ h9 => h9) rfl dXT_many_11 ?_
    refine lv_iload_n hx hb dXT_many_14 rfl (lv_at hl 1 rfl) ?_
    refine va_aldq (D := g.1) (cl := vwCl) hx hb hK hP qR 1 hR rfl (vp_in_nI (n := j) (by omega) (by decide)) dXT_many_15 ?_
    refine qa_q (y := fr j) (by rw [nI_clamp (by omega)]) ?_
    refine lv_iload_n hx hb dXT_many_16 rfl (lv_at hl 3 rfl) ?_
    refine vp_callSi (W.runS (As := [va_rf (fr j), .int b]) (rest := []) ⟨hx, hb, hml, hown, hts⟩ (c_sizeBelow l g ws LP nf hp (tab j) (fr j) (hrep j hj) b) (va_cwS 2 hts (mt_giS mw_344 mw_345 mw_1 (mt_gi mw_346)) rfl rfl rfl (by decide +kernel) ⟨by decide, by decide⟩) (mt_preS hE hz hS hP hD) rfl rfl hl.1 rfl (lv_room (Nat.le_of_ble_eq_true rfl)) dXT_many_17 ⟨by decide, by decide⟩) (fun z e1 => ?_)
    subst e1
    refine lv_aload_n hx hb dXT_many_20 rfl (lv_at hl 0 rfl) ?_
    refine va_get (D := g.1) (ci := 1) (v := .ref ar) (C := RXT) (T := TXT) (N := 3) hx hb hts (fun w h => List.mem_cons_of_mem _ (in_XT w h)) hown hK hP qT hT rfl 0 (by decide) (hts _ (List.mem_cons_of_mem _ mw_53)) (fun _ h9 => h9) rfl dXT_many_21 ?_
    refine lv_iload_n hx hb dXT_many_24 rfl (lv_at hl 1 rfl) ?_
    refine va_aldq (D := g.1) (cl := vwCl) hx hb hK hP qR 1 hR rfl (vp_in_nI (n := j) (by omega) (by decide)) dXT_many_25 ?_
    refine qa_q (y := fr j) (by rw [nI_clamp (by omega)]) ?_
    refine lv_iload_n hx hb dXT_many_26 rfl (lv_at hl 2 rfl) ?_
    refine vp_callSi (W.runS (As := [va_rf (fr j), .int a]) (rest := [.int (nI (mt_c (tab j) 0 (mt_cl b)))]) ⟨hx, hb, hml, hown, hts⟩ (c_sizeBelow l g ws LP nf hp (tab j) (fr j) (hrep j hj) a) (va_cwS 2 hts (mt_giS mw_344 mw_345 mw_1 (mt_gi mw_346)) rfl rfl rfl (by decide +kernel) ⟨by decide, by decide⟩) (mt_preS hE hz hS hP hD) rfl rfl hl.1 rfl (lv_room (Nat.le_of_ble_eq_true rfl)) dXT_many_27 ⟨by decide, by decide⟩) (fun z e1 => ?_)
    subst e1
    refine lv_isub hx hb dXT_many_30 ?_
    refine lv_goto (tgt := 35) hx hb dXT_many_31 (by decide) ?_
    rw [if_pos (Int32.not_le.mp c1)] at hans
    refine vx_ret ?_
    refine W.widen (k := 1) (n := 6) (by decide) (by decide) ?_
    exact W.iret (v := ((nI (mt_c (tab j) 0 (mt_cl b))) - (nI (mt_c (tab j) 0 (mt_cl a))))) hx hb hr (fun t9 ht hW => ⟨⟨((nI (mt_c (tab j) 0 (mt_cl b))) - (nI (mt_c (tab j) 0 (mt_cl a)))), (), rfl, ⟨j, hj, rfl, hans⟩, trivial⟩, hU.F ht⟩) hS.2.2 dXT_many_35
set_option maxHeartbeats 4000000 in
set_option maxRecDepth 100000 in
/-- sum(v, a, b) -/
theorem c_sum (l : Launch) (hl0 : l.stackTraces = false) (g : mt_G) (ws : va_W) (qT qR x ar al cn : Nat) (fr : Nat → Option Nat) (hT : ws[qT]? = some (x, .inr (1, [.ref ar, .ref al, .int (nI cn)]))) (hR : ws[qR]? = some (ar, .inl (g.2.2.2 1, 600, .inr (.inr (.inr (.inr fr)))))) (hcn : cn ≤ 600) (LP : List Nat) (nf : Nat → mt_N) (hp : mt_pool ws LP nf) (tab : Nat → mt_T) (hrep : ∀ j, j < cn → mt_rep LP nf (tab j) 8 0 (fr j)) (v a b : Int32) : vx_Met l yXT_sum wsXT_sum ({ frames := 12, cells := 1, slots := 6, locals := 400 }) (mt_Pc g ws [.ref x, .int v, .int a, .int b]) (va_Ql (fun r (_ : Unit) => ∃ j, j < cn ∧ v = nI j ∧ r = mt_ms (tab j) (mt_cl a) (mt_cl b) 256) (fun _ _ => True) (fun _ => False)) (vx_X (fun _ : Unit => True) (fun E _ _ => E = "java/lang/IndexOutOfBoundsException" ∧ ¬ mt_ver v cn) (fun _ => False)) (1) (6) (mt_A g) := by
  refine vx_ofW (cc := cXT_sum) (maxL := 4) (ret := (some .long)) (by decide) rfl ?_
  intro p e s m args below meth c s₁ B hml hnx hv
  obtain ⟨rfl, hE, hz, hP, hD⟩ := hv
  have hx := B.exec
  have hb := B.bytes
  have hr := B.returns
  have hts := atoms_spec (ws := wsXT_sum) B.pre
  have hown : s.vm.findClass RXT = some m.cls := findClass_of_methodNamed B.named
  have hlocks := B.notSynchronized
  have hK := hE.k
  have hA : ∀ q : Nat, s.heap.size ≤ q → mt_A g q := fun q h => Nat.le_trans hz h
  have hS : va_S (mt_A g) s.heap s.heap [] := va_S.rf
  have hl := lv_entry ([.ref x, .int v, .int a, .int b]) (n := 4) (Nat.le_of_ble_eq_true rfl)
  rw [lg_entry_eq]
  generalize (lg_sl ([.ref x, .int v, .int a, .int b]) ++ List.replicate (4 - (lg_sl ([.ref x, .int v, .int a, .int b])).length) Slot.unset).toArray = ls at hl ⊢
  have hl : lv_has ls 4 [(0, .ref x), (1, .int v), (2, .int a), (3, .int b)] := hl
  have hH : s.heap = s.heap := rfl
  have hU : mt_same s s.heap := mt_same.rf
  refine lv_aload_n hx hb dXT_sum_0 rfl (lv_at hl 0 rfl) ?_
  refine lv_iload_n hx hb dXT_sum_1 rfl (lv_at hl 1 rfl) ?_
  refine vx_callv (vx_runV (As := [.int v]) (rest := []) ⟨hx, hb, hml, hown, hts⟩ (c_needVersion l hl0 g ws qT qR x ar al cn fr hT hR hcn v) (cwV 1 hts (mt_giV mw_116 mw_117 mw_464 mw_1 (mt_gi mw_118)) rfl rfl rfl (by decide +kernel) ⟨by decide, by decide⟩) (mt_preV hE hz hS hP hD (va_recv hK hP (q := (RXT, TXT, 3)) rfl hT)) rfl rfl hl.1 rfl (lv_room (Nat.le_of_ble_eq_true rfl)) dXT_sum_2 ⟨by decide, by decide⟩) hS (fun _ _ h => h.elim) (fun _ h => h) (fun _ _ h => h.elim) (fun E ce q9 u t H1 locs1 ht hvm hpx hBX hz1 hk1 hS1 hce hcv hcl => ?_) (fun u t H1 locs1 ht hvm hpo _ hz1 hk1 hS1 => ?_)
  · have hU1 := hU.step hz1 hk1
    subst hBX
    exact vx_out (fun x hx9 => (hnx x hx9).elim) hlocks hce hcv hcl (fun t ht9 _ => ⟨(), trivial, ⟨rfl, hpx⟩, hU1.F ht9⟩) (fun z hz9 => hS1.2.2 z hz9) (by decide) (by decide)
  have hU := hU.step hz1 hk1
  have hP := mt_keepP hk1 hP
  have hS := hS1
  clear hS1
  obtain ⟨j, hj, rfl⟩ := mt_ver_nat hcn hpo
  have hans := mt_sum (tab j) a b
  refine lv_iload_n hx hb dXT_sum_5 rfl (lv_at hl 2 rfl) ?_
  refine lv_iload_n hx hb dXT_sum_6 rfl (lv_at hl 3 rfl) ?_
  refine lv_icmp_ge (tgt := 34) hx hb dXT_sum_7 (by decide) (fun c1 => ?_) (fun c1 => ?_)
  · refine lv_lconst (v := 0) hx hb dXT_sum_34 (by decide +kernel) ?_
    rw [if_neg (Int32.not_lt.mpr c1)] at hans
    refine vx_ret ?_
    refine W.widen (k := 1) (n := 6) (by decide) (by decide) ?_
    exact W.lret (v := 0) hx hb hr (fun t9 ht hW => ⟨⟨0, (), rfl, ⟨j, hj, rfl, hans⟩, trivial⟩, hU.F ht⟩) hS.2.2 dXT_sum_35
  · refine lv_aload_n hx hb dXT_sum_10 rfl (lv_at hl 0 rfl) ?_
    refine va_get (D := g.1) (ci := 1) (v := .ref ar) (C := RXT) (T := TXT) (N := 3) hx hb hts (fun w h => List.mem_cons_of_mem _ (in_XT w h)) hown hK hP qT hT rfl 0 (by decide) (hts _ (List.mem_cons_of_mem _ mw_53)) (fun _ h9 => h9) rfl dXT_sum_11 ?_
    refine lv_iload_n hx hb dXT_sum_14 rfl (lv_at hl 1 rfl) ?_
    refine va_aldq (D := g.1) (cl := vwCl) hx hb hK hP qR 1 hR rfl (vp_in_nI (n := j) (by omega) (by decide)) dXT_sum_15 ?_
    refine qa_q (y := fr j) (by rw [nI_clamp (by omega)]) ?_
    refine lv_iload_n hx hb dXT_sum_16 rfl (lv_at hl 3 rfl) ?_
    refine vp_callSl (W.runS (As := [va_rf (fr j), .int b]) (rest := []) ⟨hx, hb, hml, hown, hts⟩ (c_totalBelow l g ws LP nf hp (tab j) (fr j) (hrep j hj) b) (va_cwS 2 hts (mt_giS mw_354 mw_355 mw_1 (mt_gi mw_356)) rfl rfl rfl (by decide +kernel) ⟨by decide, by decide⟩) (mt_preS hE hz hS hP hD) rfl rfl hl.1 rfl (lv_room (Nat.le_of_ble_eq_true rfl)) dXT_sum_17 ⟨by decide, by decide⟩) (fun z e1 => ?_)
    subst e1
    refine lv_aload_n hx hb dXT_sum_20 rfl (lv_at hl 0 rfl) ?_
    refine va_get (D := g.1) (ci := 1) (v := .ref ar) (C := RXT) (T := TXT) (N := 3) hx hb hts (fun w h => List.mem_cons_of_mem _ (in_XT w h)) hown hK hP qT hT rfl 0 (by decide) (hts _ (List.mem_cons_of_mem _ mw_53)) (fun _ h9 => h9) rfl dXT_sum_21 ?_
    refine lv_iload_n hx hb dXT_sum_24 rfl (lv_at hl 1 rfl) ?_
    refine va_aldq (D := g.1) (cl := vwCl) hx hb hK hP qR 1 hR rfl (vp_in_nI (n := j) (by omega) (by decide)) dXT_sum_25 ?_
    refine qa_q (y := fr j) (by rw [nI_clamp (by omega)]) ?_
    refine lv_iload_n hx hb dXT_sum_26 rfl (lv_at hl 2 rfl) ?_
    refine vp_callSl (W.runS (As := [va_rf (fr j), .int a]) (rest := [.long (mt_s (tab j) 0 (mt_cl b))]) ⟨hx, hb, hml, hown, hts⟩ (c_totalBelow l g ws LP nf hp (tab j) (fr j) (hrep j hj) a) (va_cwS 2 hts (mt_giS mw_354 mw_355 mw_1 (mt_gi mw_356)) rfl rfl rfl (by decide +kernel) ⟨by decide, by decide⟩) (mt_preS hE hz hS hP hD) rfl rfl hl.1 rfl (lv_room (Nat.le_of_ble_eq_true rfl)) dXT_sum_27 ⟨by decide, by decide⟩) (fun z e1 => ?_)
    subst e1
    refine lv_lsub hx hb dXT_sum_30 ?_
    refine lv_goto (tgt := 35) hx hb dXT_sum_31 (by decide) ?_
    rw [if_pos (Int32.not_le.mp c1)] at hans
    refine vx_ret ?_
    refine W.widen (k := 1) (n := 6) (by decide) (by decide) ?_
    exact W.lret (v := ((mt_s (tab j) 0 (mt_cl b)) - (mt_s (tab j) 0 (mt_cl a)))) hx hb hr (fun t9 ht hW => ⟨⟨((mt_s (tab j) 0 (mt_cl b)) - (mt_s (tab j) 0 (mt_cl a))), (), rfl, ⟨j, hj, rfl, hans⟩, trivial⟩, hU.F ht⟩) hS.2.2 dXT_sum_35
set_option maxHeartbeats 4000000 in
set_option maxRecDepth 100000 in
/-- differ(v, w) -/
theorem c_differ (l : Launch) (hl0 : l.stackTraces = false) (g : mt_G) (ws : va_W) (qT qR x ar al cn : Nat) (fr : Nat → Option Nat) (hT : ws[qT]? = some (x, .inr (1, [.ref ar, .ref al, .int (nI cn)]))) (hR : ws[qR]? = some (ar, .inl (g.2.2.2 1, 600, .inr (.inr (.inr (.inr fr)))))) (hcn : cn ≤ 600) (LP : List Nat) (nf : Nat → mt_N) (hp : mt_pool ws LP nf) (tab : Nat → mt_T) (hrep : ∀ j, j < cn → mt_rep LP nf (tab j) 8 0 (fr j)) (v w : Int32) : vx_Met l yXT_differ wsXT_differ ({ frames := 12, cells := 2, slots := 12, locals := 400 }) (mt_Pc g ws [.ref x, .int v, .int w]) (va_Qi (fun r (_ : Unit) => ∃ j i, j < cn ∧ i < cn ∧ v = nI j ∧ w = nI i ∧ r = nI (mt_d (tab j) (tab i) 0 256)) (fun _ _ => True) (fun _ => False)) (vx_X (fun _ : Unit => True) (fun E _ _ => E = "java/lang/IndexOutOfBoundsException" ∧ ¬ (mt_ver v cn ∧ mt_ver w cn)) (fun _ => False)) (2) (12) (mt_A g) := by
  refine vx_ofW (cc := cXT_differ) (maxL := 3) (ret := (some .int)) (by decide) rfl ?_
  intro p e s m args below meth c s₁ B hml hnx hv
  obtain ⟨rfl, hE, hz, hP, hD⟩ := hv
  have hx := B.exec
  have hb := B.bytes
  have hr := B.returns
  have hts := atoms_spec (ws := wsXT_differ) B.pre
  have hown : s.vm.findClass RXT = some m.cls := findClass_of_methodNamed B.named
  have hlocks := B.notSynchronized
  have hK := hE.k
  have hA : ∀ q : Nat, s.heap.size ≤ q → mt_A g q := fun q h => Nat.le_trans hz h
  have hS : va_S (mt_A g) s.heap s.heap [] := va_S.rf
  have hl := lv_entry ([.ref x, .int v, .int w]) (n := 3) (Nat.le_of_ble_eq_true rfl)
  rw [lg_entry_eq]
  generalize (lg_sl ([.ref x, .int v, .int w]) ++ List.replicate (3 - (lg_sl ([.ref x, .int v, .int w])).length) Slot.unset).toArray = ls at hl ⊢
  have hl : lv_has ls 3 [(0, .ref x), (1, .int v), (2, .int w)] := hl
  have hH : s.heap = s.heap := rfl
  have hU : mt_same s s.heap := mt_same.rf
  refine lv_aload_n hx hb dXT_differ_0 rfl (lv_at hl 0 rfl) ?_
  refine lv_iload_n hx hb dXT_differ_1 rfl (lv_at hl 1 rfl) ?_
  refine vx_callv (vx_runV (As := [.int v]) (rest := []) ⟨hx, hb, hml, hown, hts⟩ (c_needVersion l hl0 g ws qT qR x ar al cn fr hT hR hcn v) (cwV 1 hts (mt_giV mw_116 mw_117 mw_464 mw_1 (mt_gi mw_118)) rfl rfl rfl (by decide +kernel) ⟨by decide, by decide⟩) (mt_preV hE hz hS hP hD (va_recv hK hP (q := (RXT, TXT, 3)) rfl hT)) rfl rfl hl.1 rfl (lv_room (Nat.le_of_ble_eq_true rfl)) dXT_differ_2 ⟨by decide, by decide⟩) hS (fun _ _ h => h.elim) (fun _ h => h) (fun _ _ h => h.elim) (fun E ce q9 u t H1 locs1 ht hvm hpx hBX hz1 hk1 hS1 hce hcv hcl => ?_) (fun u t H1 locs1 ht hvm hpo _ hz1 hk1 hS1 => ?_)
  · have hU1 := hU.step hz1 hk1
    subst hBX
    exact vx_out (fun x hx9 => (hnx x hx9).elim) hlocks hce hcv hcl (fun t ht9 _ => ⟨(), trivial, ⟨rfl, fun h9 => hpx h9.1⟩, hU1.F ht9⟩) (fun z hz9 => hS1.2.2 z hz9) (by decide) (by decide)
  have hU := hU.step hz1 hk1
  have hP := mt_keepP hk1 hP
  have hS := hS1
  clear hS1
  obtain ⟨j, hj, rfl⟩ := mt_ver_nat hcn hpo
  refine lv_aload_n hx hb dXT_differ_5 rfl (lv_at hl 0 rfl) ?_
  refine lv_iload_n hx hb dXT_differ_6 rfl (lv_at hl 2 rfl) ?_
  refine vx_callv (vx_runV (As := [.int w]) (rest := []) ⟨hx, hb, hml, hown, hts⟩ (c_needVersion l hl0 g ws qT qR x ar al cn fr hT hR hcn w) (cwV 1 hts (mt_giV mw_116 mw_117 mw_464 mw_1 (mt_gi mw_118)) rfl rfl rfl (by decide +kernel) ⟨by decide, by decide⟩) (mt_preV hE hz hS hP hD (va_recv hK hP (q := (RXT, TXT, 3)) rfl hT)) rfl rfl hl.1 rfl (lv_room (Nat.le_of_ble_eq_true rfl)) dXT_differ_7 ⟨by decide, by decide⟩) hS (fun _ _ h => h.elim) (fun _ h => h) (fun _ _ h => h.elim) (fun E ce q9 u t H1 locs1 ht hvm hpx hBX hz1 hk1 hS1 hce hcv hcl => ?_) (fun u t H1 locs1 ht hvm hpo _ hz1 hk1 hS1 => ?_)
  · have hU1 := hU.step hz1 hk1
    subst hBX
    exact vx_out (fun x hx9 => (hnx x hx9).elim) hlocks hce hcv hcl (fun t ht9 _ => ⟨(), trivial, ⟨rfl, fun h9 => hpx h9.2⟩, hU1.F ht9⟩) (fun z hz9 => hS1.2.2 z hz9) (by decide) (by decide)
  have hU := hU.step hz1 hk1
  have hP := mt_keepP hk1 hP
  have hS := hS1
  clear hS1
  obtain ⟨i, hi, rfl⟩ := mt_ver_nat hcn hpo
  refine lv_aload_n hx hb dXT_differ_10 rfl (lv_at hl 0 rfl) ?_
  refine va_get (D := g.1) (ci := 1) (v := .ref ar) (C := RXT) (T := TXT) (N := 3) hx hb hts (fun w h => List.mem_cons_of_mem _ (in_XT w h)) hown hK hP qT hT rfl 0 (by decide) (hts _ (List.mem_cons_of_mem _ mw_53)) (fun _ h9 => h9) rfl dXT_differ_11 ?_
  refine lv_iload_n hx hb dXT_differ_14 rfl (lv_at hl 1 rfl) ?_
  refine va_aldq (D := g.1) (cl := vwCl) hx hb hK hP qR 1 hR rfl (vp_in_nI (n := j) (by omega) (by decide)) dXT_differ_15 ?_
  refine qa_q (y := fr j) (by rw [nI_clamp (by omega)]) ?_
  refine lv_aload_n hx hb dXT_differ_16 rfl (lv_at hl 0 rfl) ?_
  refine va_get (D := g.1) (ci := 1) (v := .ref ar) (C := RXT) (T := TXT) (N := 3) hx hb hts (fun w h => List.mem_cons_of_mem _ (in_XT w h)) hown hK hP qT hT rfl 0 (by decide) (hts _ (List.mem_cons_of_mem _ mw_53)) (fun _ h9 => h9) rfl dXT_differ_17 ?_
  refine lv_iload_n hx hb dXT_differ_20 rfl (lv_at hl 2 rfl) ?_
  refine va_aldq (D := g.1) (cl := vwCl) hx hb hK hP qR 1 hR rfl (vp_in_nI (n := i) (by omega) (by decide)) dXT_differ_21 ?_
  refine qa_q (y := fr i) (by rw [nI_clamp (by omega)]) ?_
  refine lv_bipush (v := (nI 8)) hx hb dXT_differ_22 (by decide +kernel) ?_
  refine vp_callSi (W.runS (As := [va_rf (fr j), va_rf (fr i), .int (nI 8)]) (rest := []) ⟨hx, hb, hml, hown, hts⟩ (c_differences l g ws LP nf hp (tab j) (tab i) 8 (Nat.le_refl _) 0 (fr j) (fr i) (hrep j hj) (hrep i hi) (by decide)) (va_cwS 3 hts (mt_giS mw_364 mw_365 mw_1 (mt_gi mw_366)) rfl rfl rfl (by decide +kernel) ⟨by decide, by decide⟩) (mt_preS hE hz hS hP hD) rfl rfl hl.1 rfl (lv_room (Nat.le_of_ble_eq_true rfl)) dXT_differ_24 ⟨by decide, by decide⟩) (fun z e1 => ?_)
  subst e1
  refine vx_ret ?_
  refine W.widen (k := 2) (n := 12) (by decide) (by decide) ?_
  exact W.iret (v := (nI (mt_d (tab j) (tab i) 0 (2 ^ 8)))) hx hb hr (fun t9 ht hW => ⟨⟨(nI (mt_d (tab j) (tab i) 0 (2 ^ 8))), (), rfl, ⟨j, i, hj, hi, rfl, rfl, rfl⟩, trivial⟩, hU.F ht⟩) hS.2.2 dXT_differ_27
set_option maxHeartbeats 4000000 in
set_option maxRecDepth 100000 in
/-- digest(v) -/
theorem c_digest (l : Launch) (hl0 : l.stackTraces = false) (g : mt_G) (ws : va_W) (qT qR x ar al cn : Nat) (fr : Nat → Option Nat) (hT : ws[qT]? = some (x, .inr (1, [.ref ar, .ref al, .int (nI cn)]))) (hR : ws[qR]? = some (ar, .inl (g.2.2.2 1, 600, .inr (.inr (.inr (.inr fr)))))) (hcn : cn ≤ 600) (LP : List Nat) (nf : Nat → mt_N) (hp : mt_pool ws LP nf) (tab : Nat → mt_T) (hrep : ∀ j, j < cn → mt_rep LP nf (tab j) 8 0 (fr j)) (v : Int32) : vx_Met l yXT_digest wsXT_digest ({ frames := 12, cells := 1, slots := 6, locals := 400 }) (mt_Pc g ws [.ref x, .int v]) (va_Ql (fun r (_ : Unit) => ∃ j, j < cn ∧ v = nI j ∧ r = mt_g (tab j) 0 7 256) (fun _ _ => True) (fun _ => False)) (vx_X (fun _ : Unit => True) (fun E _ _ => E = "java/lang/IndexOutOfBoundsException" ∧ ¬ mt_ver v cn) (fun _ => False)) (1) (6) (mt_A g) := by
  refine vx_ofW (cc := cXT_digest) (maxL := 2) (ret := (some .long)) (by decide) rfl ?_
  intro p e s m args below meth c s₁ B hml hnx hv
  obtain ⟨rfl, hE, hz, hP, hD⟩ := hv
  have hx := B.exec
  have hb := B.bytes
  have hr := B.returns
  have hts := atoms_spec (ws := wsXT_digest) B.pre
  have hown : s.vm.findClass RXT = some m.cls := findClass_of_methodNamed B.named
  have hlocks := B.notSynchronized
  have hK := hE.k
  have hA : ∀ q : Nat, s.heap.size ≤ q → mt_A g q := fun q h => Nat.le_trans hz h
  have hS : va_S (mt_A g) s.heap s.heap [] := va_S.rf
  have hl := lv_entry ([.ref x, .int v]) (n := 2) (Nat.le_of_ble_eq_true rfl)
  rw [lg_entry_eq]
  generalize (lg_sl ([.ref x, .int v]) ++ List.replicate (2 - (lg_sl ([.ref x, .int v])).length) Slot.unset).toArray = ls at hl ⊢
  have hl : lv_has ls 2 [(0, .ref x), (1, .int v)] := hl
  have hH : s.heap = s.heap := rfl
  have hU : mt_same s s.heap := mt_same.rf
  refine lv_aload_n hx hb dXT_digest_0 rfl (lv_at hl 0 rfl) ?_
  refine lv_iload_n hx hb dXT_digest_1 rfl (lv_at hl 1 rfl) ?_
  refine vx_callv (vx_runV (As := [.int v]) (rest := []) ⟨hx, hb, hml, hown, hts⟩ (c_needVersion l hl0 g ws qT qR x ar al cn fr hT hR hcn v) (cwV 1 hts (mt_giV mw_116 mw_117 mw_464 mw_1 (mt_gi mw_118)) rfl rfl rfl (by decide +kernel) ⟨by decide, by decide⟩) (mt_preV hE hz hS hP hD (va_recv hK hP (q := (RXT, TXT, 3)) rfl hT)) rfl rfl hl.1 rfl (lv_room (Nat.le_of_ble_eq_true rfl)) dXT_digest_2 ⟨by decide, by decide⟩) hS (fun _ _ h => h.elim) (fun _ h => h) (fun _ _ h => h.elim) (fun E ce q9 u t H1 locs1 ht hvm hpx hBX hz1 hk1 hS1 hce hcv hcl => ?_) (fun u t H1 locs1 ht hvm hpo _ hz1 hk1 hS1 => ?_)
  · have hU1 := hU.step hz1 hk1
    subst hBX
    exact vx_out (fun x hx9 => (hnx x hx9).elim) hlocks hce hcv hcl (fun t ht9 _ => ⟨(), trivial, ⟨rfl, hpx⟩, hU1.F ht9⟩) (fun z hz9 => hS1.2.2 z hz9) (by decide) (by decide)
  have hU := hU.step hz1 hk1
  have hP := mt_keepP hk1 hP
  have hS := hS1
  clear hS1
  obtain ⟨j, hj, rfl⟩ := mt_ver_nat hcn hpo
  refine lv_ldc2 (v := 7) hx hb hown (hts _ (List.mem_cons_of_mem _ mw_374)) dXT_digest_5 ?_
  refine lv_aload_n hx hb dXT_digest_8 rfl (lv_at hl 0 rfl) ?_
  refine va_get (D := g.1) (ci := 1) (v := .ref ar) (C := RXT) (T := TXT) (N := 3) hx hb hts (fun w h => List.mem_cons_of_mem _ (in_XT w h)) hown hK hP qT hT rfl 0 (by decide) (hts _ (List.mem_cons_of_mem _ mw_53)) (fun _ h9 => h9) rfl dXT_digest_9 ?_
  refine lv_iload_n hx hb dXT_digest_12 rfl (lv_at hl 1 rfl) ?_
  refine va_aldq (D := g.1) (cl := vwCl) hx hb hK hP qR 1 hR rfl (vp_in_nI (n := j) (by omega) (by decide)) dXT_digest_13 ?_
  refine qa_q (y := fr j) (by rw [nI_clamp (by omega)]) ?_
  refine lv_bipush (v := (nI 8)) hx hb dXT_digest_14 (by decide +kernel) ?_
  refine vp_callSl (W.runS (As := [.long 7, va_rf (fr j), .int (nI 8)]) (rest := []) ⟨hx, hb, hml, hown, hts⟩ (c_digestOn l g ws LP nf hp (tab j) 8 (Nat.le_refl _) 0 7 (fr j) (hrep j hj) (by decide)) (va_cwS 3 hts (mt_giS mw_375 mw_376 mw_1 (mt_gi mw_377)) rfl rfl rfl (by decide +kernel) ⟨by decide, by decide⟩) (mt_preS hE hz hS hP hD) rfl rfl hl.1 rfl (lv_room (Nat.le_of_ble_eq_true rfl)) dXT_digest_16 ⟨by decide, by decide⟩) (fun z e1 => ?_)
  subst e1
  refine vx_ret ?_
  refine W.widen (k := 1) (n := 6) (by decide) (by decide) ?_
  exact W.lret (v := (mt_g (tab j) 0 7 (2 ^ 8))) hx hb hr (fun t9 ht hW => ⟨⟨(mt_g (tab j) 0 7 (2 ^ 8)), (), rfl, ⟨j, hj, rfl, rfl⟩, trivial⟩, hU.F ht⟩) hS.2.2 dXT_digest_19
set_option maxHeartbeats 4000000 in
set_option maxRecDepth 100000 in
/-- versions() -/
theorem c_versions (l : Launch) (g : mt_G) (ws : va_W) (qT qR x ar al cn : Nat) (fr : Nat → Option Nat) (hT : ws[qT]? = some (x, .inr (1, [.ref ar, .ref al, .int (nI cn)]))) (hR : ws[qR]? = some (ar, .inl (g.2.2.2 1, 600, .inr (.inr (.inr (.inr fr)))))) (hcn : cn ≤ 600) : Met l yXT_versions wsXT_versions ({ frames := 0, cells := 0, slots := 0, locals := 0 }) (mt_Pc g ws [.ref x]) (vp_Si (fun z => z = nI cn)) (0) (0) (fun _ => False) := by
  refine Met.ofW (cc := cXT_versions) (maxL := 1) (ret := (some .int)) (by decide) rfl ?_
  intro p e s m args below meth c s₁ B hml hv
  obtain ⟨rfl, hE, hz, hP, hD⟩ := hv
  have hx := B.exec
  have hb := B.bytes
  have hr := B.returns
  have hts := atoms_spec (ws := wsXT_versions) B.pre
  have hown : s.vm.findClass RXT = some m.cls := findClass_of_methodNamed B.named
  have hlocks := B.notSynchronized
  have hK := hE.k
  have hA : ∀ q : Nat, s.heap.size ≤ q → mt_A g q := fun q h => Nat.le_trans hz h
  have hS : va_S (mt_A g) s.heap s.heap [] := va_S.rf
  have hl := lv_entry ([.ref x]) (n := 1) (Nat.le_of_ble_eq_true rfl)
  rw [lg_entry_eq]
  generalize (lg_sl ([.ref x]) ++ List.replicate (1 - (lg_sl ([.ref x])).length) Slot.unset).toArray = ls at hl ⊢
  have hl : lv_has ls 1 [(0, .ref x)] := hl
  have hH : s.heap = s.heap := rfl
  refine lv_aload_n hx hb dXT_versions_0 rfl (lv_at hl 0 rfl) ?_
  refine va_get (D := g.1) (ci := 1) (v := .int (nI cn)) (C := RXT) (T := TXT) (N := 3) hx hb hts (fun w h => List.mem_cons_of_mem _ (in_XT w h)) hown hK hP qT hT rfl 2 (by decide) (hts _ (List.mem_cons_of_mem _ mw_55)) (fun _ h9 => h9) rfl dXT_versions_1 ?_
  exact W.iret (v := (nI cn)) hx hb hr (fun t9 ht hW => ⟨(nI cn), rfl, rfl, ht⟩) t_nil dXT_versions_4
end
section
theorem dXA_init_0 : decode cXA_init 0 = .ok (.aload_n 0, 1) := by decide +kernel
theorem dXA_init_1 : decode cXA_init 1 = .ok (.invokespecial 1, 3) := by decide +kernel
theorem dXA_init_4 : decode cXA_init 4 = .ok (.aload_n 0, 1) := by decide +kernel
theorem dXA_init_5 : decode cXA_init 5 = .ok (.getstatic 39, 3) := by decide +kernel
theorem dXA_init_8 : decode cXA_init 8 = .ok (.putfield 9, 3) := by decide +kernel
theorem dXA_init_11 : decode cXA_init 11 = .ok (.return_, 1) := by decide +kernel
theorem dXB_init_0 : decode cXB_init 0 = .ok (.aload_n 0, 1) := by decide +kernel
theorem dXB_init_1 : decode cXB_init 1 = .ok (.invokespecial 1, 3) := by decide +kernel
theorem dXB_init_4 : decode cXB_init 4 = .ok (.aload_n 0, 1) := by decide +kernel
theorem dXB_init_5 : decode cXB_init 5 = .ok (.iconst 0, 1) := by decide +kernel
theorem dXB_init_6 : decode cXB_init 6 = .ok (.putfield 7, 3) := by decide +kernel
theorem dXB_init_9 : decode cXB_init 9 = .ok (.return_, 1) := by decide +kernel
theorem dXC_init_0 : decode cXC_init 0 = .ok (.aload_n 0, 1) := by decide +kernel
theorem dXC_init_1 : decode cXC_init 1 = .ok (.invokespecial 1, 3) := by decide +kernel
theorem dXC_init_4 : decode cXC_init 4 = .ok (.return_, 1) := by decide +kernel
theorem dXA_size_0 : decode cXA_size 0 = .ok (.aload_n 0, 1) := by decide +kernel
theorem dXA_size_1 : decode cXA_size 1 = .ok (.getfield 48, 3) := by decide +kernel
theorem dXA_size_4 : decode cXA_size 4 = .ok (.ireturn, 1) := by decide +kernel
theorem dXA_get_0 : decode cXA_get 0 = .ok (.iload_n 1, 1) := by decide +kernel
theorem dXA_get_1 : decode cXA_get 1 = .ok (.aload_n 0, 1) := by decide +kernel
theorem dXA_get_2 : decode cXA_get 2 = .ok (.getfield 48, 3) := by decide +kernel
theorem dXA_get_5 : decode cXA_get 5 = .ok (.invokestatic 118, 3) := by decide +kernel
theorem dXA_get_8 : decode cXA_get 8 = .ok (.pop, 1) := by decide +kernel
theorem dXA_get_9 : decode cXA_get 9 = .ok (.aload_n 0, 1) := by decide +kernel
theorem dXA_get_10 : decode cXA_get 10 = .ok (.iload_n 1, 1) := by decide +kernel
theorem dXA_get_11 : decode cXA_get 11 = .ok (.invokevirtual 123, 3) := by decide +kernel
theorem dXA_get_14 : decode cXA_get 14 = .ok (.areturn, 1) := by decide +kernel
theorem dXO_checkIndex_0 : decode cXO_checkIndex 0 = .ok (.iload_n 0, 1) := by decide +kernel
theorem dXO_checkIndex_1 : decode cXO_checkIndex 1 = .ok (.iload_n 1, 1) := by decide +kernel
theorem dXO_checkIndex_2 : decode cXO_checkIndex 2 = .ok (.aconst_null, 1) := by decide +kernel
theorem dXO_checkIndex_3 : decode cXO_checkIndex 3 = .ok (.invokestatic 105, 3) := by decide +kernel
theorem dXO_checkIndex_6 : decode cXO_checkIndex 6 = .ok (.ireturn, 1) := by decide +kernel
theorem dXP_checkIndex_0 : decode cXP_checkIndex 0 = .ok (.iload_n 0, 1) := by decide +kernel
theorem dXP_checkIndex_1 : decode cXP_checkIndex 1 = .ok (.ifCond .lt 8, 3) := by decide +kernel
theorem dXP_checkIndex_4 : decode cXP_checkIndex 4 = .ok (.iload_n 0, 1) := by decide +kernel
theorem dXP_checkIndex_5 : decode cXP_checkIndex 5 = .ok (.iload_n 1, 1) := by decide +kernel
theorem dXP_checkIndex_6 : decode cXP_checkIndex 6 = .ok (.if_icmp .lt 10, 3) := by decide +kernel
theorem dXP_checkIndex_9 : decode cXP_checkIndex 9 = .ok (.aload_n 2, 1) := by decide +kernel
theorem dXP_checkIndex_10 : decode cXP_checkIndex 10 = .ok (.iload_n 0, 1) := by decide +kernel
theorem dXP_checkIndex_11 : decode cXP_checkIndex 11 = .ok (.iload_n 1, 1) := by decide +kernel
theorem dXP_checkIndex_12 : decode cXP_checkIndex 12 = .ok (.invokestatic 95, 3) := by decide +kernel
theorem dXP_checkIndex_15 : decode cXP_checkIndex 15 = .ok (.athrow, 1) := by decide +kernel
theorem dXP_checkIndex_16 : decode cXP_checkIndex 16 = .ok (.iload_n 0, 1) := by decide +kernel
theorem dXP_checkIndex_17 : decode cXP_checkIndex 17 = .ok (.ireturn, 1) := by decide +kernel
theorem dXA_elementData_0 : decode cXA_elementData 0 = .ok (.aload_n 0, 1) := by decide +kernel
theorem dXA_elementData_1 : decode cXA_elementData 1 = .ok (.getfield 9, 3) := by decide +kernel
theorem dXA_elementData_4 : decode cXA_elementData 4 = .ok (.iload_n 1, 1) := by decide +kernel
theorem dXA_elementData_5 : decode cXA_elementData 5 = .ok (.aaload, 1) := by decide +kernel
theorem dXA_elementData_6 : decode cXA_elementData 6 = .ok (.areturn, 1) := by decide +kernel
theorem dXA_add_0 : decode cXA_add 0 = .ok (.aload_n 0, 1) := by decide +kernel
theorem dXA_add_1 : decode cXA_add 1 = .ok (.dup, 1) := by decide +kernel
theorem dXA_add_2 : decode cXA_add 2 = .ok (.getfield 63, 3) := by decide +kernel
theorem dXA_add_5 : decode cXA_add 5 = .ok (.iconst 1, 1) := by decide +kernel
theorem dXA_add_6 : decode cXA_add 6 = .ok (.iadd, 1) := by decide +kernel
theorem dXA_add_7 : decode cXA_add 7 = .ok (.putfield 63, 3) := by decide +kernel
theorem dXA_add_10 : decode cXA_add 10 = .ok (.aload_n 0, 1) := by decide +kernel
theorem dXA_add_11 : decode cXA_add 11 = .ok (.aload_n 1, 1) := by decide +kernel
theorem dXA_add_12 : decode cXA_add 12 = .ok (.aload_n 0, 1) := by decide +kernel
theorem dXA_add_13 : decode cXA_add 13 = .ok (.getfield 9, 3) := by decide +kernel
theorem dXA_add_16 : decode cXA_add 16 = .ok (.aload_n 0, 1) := by decide +kernel
theorem dXA_add_17 : decode cXA_add 17 = .ok (.getfield 48, 3) := by decide +kernel
theorem dXA_add_20 : decode cXA_add 20 = .ok (.invokevirtual 131, 3) := by decide +kernel
theorem dXA_add_23 : decode cXA_add 23 = .ok (.iconst 1, 1) := by decide +kernel
theorem dXA_add_24 : decode cXA_add 24 = .ok (.ireturn, 1) := by decide +kernel
theorem dXA_add_2_0 : decode cXA_add_2 0 = .ok (.iload_n 3, 1) := by decide +kernel
theorem dXA_add_2_1 : decode cXA_add_2 1 = .ok (.aload_n 2, 1) := by decide +kernel
theorem dXA_add_2_2 : decode cXA_add_2 2 = .ok (.arraylength, 1) := by decide +kernel
theorem dXA_add_2_3 : decode cXA_add_2 3 = .ok (.if_icmp .ne 8, 3) := by decide +kernel
theorem dXA_add_2_6 : decode cXA_add_2 6 = .ok (.aload_n 0, 1) := by decide +kernel
theorem dXA_add_2_7 : decode cXA_add_2 7 = .ok (.invokevirtual 129, 3) := by decide +kernel
theorem dXA_add_2_10 : decode cXA_add_2 10 = .ok (.astore_n 2, 1) := by decide +kernel
theorem dXA_add_2_11 : decode cXA_add_2 11 = .ok (.aload_n 2, 1) := by decide +kernel
theorem dXA_add_2_12 : decode cXA_add_2 12 = .ok (.iload_n 3, 1) := by decide +kernel
theorem dXA_add_2_13 : decode cXA_add_2 13 = .ok (.aload_n 1, 1) := by decide +kernel
theorem dXA_add_2_14 : decode cXA_add_2 14 = .ok (.aastore, 1) := by decide +kernel
theorem dXA_add_2_15 : decode cXA_add_2 15 = .ok (.aload_n 0, 1) := by decide +kernel
theorem dXA_add_2_16 : decode cXA_add_2 16 = .ok (.iload_n 3, 1) := by decide +kernel
theorem dXA_add_2_17 : decode cXA_add_2 17 = .ok (.iconst 1, 1) := by decide +kernel
theorem dXA_add_2_18 : decode cXA_add_2 18 = .ok (.iadd, 1) := by decide +kernel
theorem dXA_add_2_19 : decode cXA_add_2 19 = .ok (.putfield 48, 3) := by decide +kernel
theorem dXA_add_2_22 : decode cXA_add_2 22 = .ok (.return_, 1) := by decide +kernel
theorem dXA_grow_0 : decode cXA_grow 0 = .ok (.aload_n 0, 1) := by decide +kernel
theorem dXA_grow_1 : decode cXA_grow 1 = .ok (.aload_n 0, 1) := by decide +kernel
theorem dXA_grow_2 : decode cXA_grow 2 = .ok (.getfield 48, 3) := by decide +kernel
theorem dXA_grow_5 : decode cXA_grow 5 = .ok (.iconst 1, 1) := by decide +kernel
theorem dXA_grow_6 : decode cXA_grow 6 = .ok (.iadd, 1) := by decide +kernel
theorem dXA_grow_7 : decode cXA_grow 7 = .ok (.invokevirtual 69, 3) := by decide +kernel
theorem dXA_grow_10 : decode cXA_grow 10 = .ok (.areturn, 1) := by decide +kernel
theorem dXA_grow_2_0 : decode cXA_grow_2 0 = .ok (.aload_n 0, 1) := by decide +kernel
theorem dXA_grow_2_1 : decode cXA_grow_2 1 = .ok (.getfield 9, 3) := by decide +kernel
theorem dXA_grow_2_4 : decode cXA_grow_2 4 = .ok (.arraylength, 1) := by decide +kernel
theorem dXA_grow_2_5 : decode cXA_grow_2 5 = .ok (.istore_n 2, 1) := by decide +kernel
theorem dXA_grow_2_6 : decode cXA_grow_2 6 = .ok (.iload_n 2, 1) := by decide +kernel
theorem dXA_grow_2_7 : decode cXA_grow_2 7 = .ok (.ifCond .gt 13, 3) := by decide +kernel
theorem dXA_grow_2_10 : decode cXA_grow_2 10 = .ok (.aload_n 0, 1) := by decide +kernel
theorem dXA_grow_2_11 : decode cXA_grow_2 11 = .ok (.getfield 9, 3) := by decide +kernel
theorem dXA_grow_2_14 : decode cXA_grow_2 14 = .ok (.getstatic 39, 3) := by decide +kernel
theorem dXA_grow_2_17 : decode cXA_grow_2 17 = .ok (.if_acmp .eq 28, 3) := by decide +kernel
theorem dXA_grow_2_20 : decode cXA_grow_2 20 = .ok (.iload_n 2, 1) := by decide +kernel
theorem dXA_grow_2_21 : decode cXA_grow_2 21 = .ok (.iload_n 1, 1) := by decide +kernel
theorem dXA_grow_2_22 : decode cXA_grow_2 22 = .ok (.iload_n 2, 1) := by decide +kernel
theorem dXA_grow_2_23 : decode cXA_grow_2 23 = .ok (.isub, 1) := by decide +kernel
theorem dXA_grow_2_24 : decode cXA_grow_2 24 = .ok (.iload_n 2, 1) := by decide +kernel
theorem dXA_grow_2_25 : decode cXA_grow_2 25 = .ok (.iconst 1, 1) := by decide +kernel
theorem dXA_grow_2_26 : decode cXA_grow_2 26 = .ok (.ishr, 1) := by decide +kernel
theorem dXA_grow_2_27 : decode cXA_grow_2 27 = .ok (.invokestatic 73, 3) := by decide +kernel
theorem dXA_grow_2_30 : decode cXA_grow_2 30 = .ok (.istore_n 3, 1) := by decide +kernel
theorem dXA_grow_2_31 : decode cXA_grow_2 31 = .ok (.aload_n 0, 1) := by decide +kernel
theorem dXA_grow_2_32 : decode cXA_grow_2 32 = .ok (.aload_n 0, 1) := by decide +kernel
theorem dXA_grow_2_33 : decode cXA_grow_2 33 = .ok (.getfield 9, 3) := by decide +kernel
theorem dXA_grow_2_36 : decode cXA_grow_2 36 = .ok (.iload_n 3, 1) := by decide +kernel
theorem dXA_grow_2_37 : decode cXA_grow_2 37 = .ok (.invokestatic 66, 3) := by decide +kernel
theorem dXA_grow_2_40 : decode cXA_grow_2 40 = .ok (.dup_x1, 1) := by decide +kernel
theorem dXA_grow_2_41 : decode cXA_grow_2 41 = .ok (.putfield 9, 3) := by decide +kernel
theorem dXA_grow_2_44 : decode cXA_grow_2 44 = .ok (.areturn, 1) := by decide +kernel
theorem dXA_grow_2_45 : decode cXA_grow_2 45 = .ok (.aload_n 0, 1) := by decide +kernel
theorem dXA_grow_2_46 : decode cXA_grow_2 46 = .ok (.bipush 10, 2) := by decide +kernel
theorem dXA_grow_2_48 : decode cXA_grow_2 48 = .ok (.iload_n 1, 1) := by decide +kernel
theorem dXA_grow_2_49 : decode cXA_grow_2 49 = .ok (.invokestatic 79, 3) := by decide +kernel
theorem dXA_grow_2_52 : decode cXA_grow_2 52 = .ok (.anewarray 7, 3) := by decide +kernel
theorem dXA_grow_2_55 : decode cXA_grow_2 55 = .ok (.dup_x1, 1) := by decide +kernel
theorem dXA_grow_2_56 : decode cXA_grow_2 56 = .ok (.putfield 9, 3) := by decide +kernel
theorem dXA_grow_2_59 : decode cXA_grow_2 59 = .ok (.areturn, 1) := by decide +kernel
theorem dXS_newLength_0 : decode cXS_newLength 0 = .ok (.iload_n 0, 1) := by decide +kernel
theorem dXS_newLength_1 : decode cXS_newLength 1 = .ok (.iload_n 1, 1) := by decide +kernel
theorem dXS_newLength_2 : decode cXS_newLength 2 = .ok (.iload_n 2, 1) := by decide +kernel
theorem dXS_newLength_3 : decode cXS_newLength 3 = .ok (.invokestatic 194, 3) := by decide +kernel
theorem dXS_newLength_6 : decode cXS_newLength 6 = .ok (.iadd, 1) := by decide +kernel
theorem dXS_newLength_7 : decode cXS_newLength 7 = .ok (.istore_n 3, 1) := by decide +kernel
theorem dXS_newLength_8 : decode cXS_newLength 8 = .ok (.iconst 0, 1) := by decide +kernel
theorem dXS_newLength_9 : decode cXS_newLength 9 = .ok (.iload_n 3, 1) := by decide +kernel
theorem dXS_newLength_10 : decode cXS_newLength 10 = .ok (.if_icmp .ge 11, 3) := by decide +kernel
theorem dXS_newLength_13 : decode cXS_newLength 13 = .ok (.iload_n 3, 1) := by decide +kernel
theorem dXS_newLength_14 : decode cXS_newLength 14 = .ok (.ldc 200, 2) := by decide +kernel
theorem dXS_newLength_16 : decode cXS_newLength 16 = .ok (.if_icmp .gt 5, 3) := by decide +kernel
theorem dXS_newLength_19 : decode cXS_newLength 19 = .ok (.iload_n 3, 1) := by decide +kernel
theorem dXS_newLength_20 : decode cXS_newLength 20 = .ok (.ireturn, 1) := by decide +kernel
theorem dXS_newLength_21 : decode cXS_newLength 21 = .ok (.iload_n 0, 1) := by decide +kernel
theorem dXS_newLength_22 : decode cXS_newLength 22 = .ok (.iload_n 1, 1) := by decide +kernel
theorem dXS_newLength_23 : decode cXS_newLength 23 = .ok (.invokestatic 201, 3) := by decide +kernel
theorem dXS_newLength_26 : decode cXS_newLength 26 = .ok (.ireturn, 1) := by decide +kernel
theorem dXS_hugeLength_0 : decode cXS_hugeLength 0 = .ok (.iload_n 0, 1) := by decide +kernel
theorem dXS_hugeLength_1 : decode cXS_hugeLength 1 = .ok (.iload_n 1, 1) := by decide +kernel
theorem dXS_hugeLength_2 : decode cXS_hugeLength 2 = .ok (.iadd, 1) := by decide +kernel
theorem dXS_hugeLength_3 : decode cXS_hugeLength 3 = .ok (.istore_n 2, 1) := by decide +kernel
theorem dXS_hugeLength_4 : decode cXS_hugeLength 4 = .ok (.iload_n 2, 1) := by decide +kernel
theorem dXS_hugeLength_5 : decode cXS_hugeLength 5 = .ok (.ifCond .ge 44, 3) := by decide +kernel
theorem dXS_hugeLength_8 : decode cXS_hugeLength 8 = .ok (.new 204, 3) := by decide +kernel
theorem dXS_hugeLength_11 : decode cXS_hugeLength 11 = .ok (.dup, 1) := by decide +kernel
theorem dXS_hugeLength_12 : decode cXS_hugeLength 12 = .ok (.new 89, 3) := by decide +kernel
theorem dXS_hugeLength_15 : decode cXS_hugeLength 15 = .ok (.dup, 1) := by decide +kernel
theorem dXS_hugeLength_16 : decode cXS_hugeLength 16 = .ok (.invokespecial 91, 3) := by decide +kernel
theorem dXS_hugeLength_19 : decode cXS_hugeLength 19 = .ok (.ldc 206, 2) := by decide +kernel
theorem dXS_hugeLength_21 : decode cXS_hugeLength 21 = .ok (.invokevirtual 94, 3) := by decide +kernel
theorem dXS_hugeLength_24 : decode cXS_hugeLength 24 = .ok (.iload_n 0, 1) := by decide +kernel
theorem dXS_hugeLength_25 : decode cXS_hugeLength 25 = .ok (.invokevirtual 98, 3) := by decide +kernel
theorem dXS_hugeLength_28 : decode cXS_hugeLength 28 = .ok (.ldc 208, 2) := by decide +kernel
theorem dXS_hugeLength_30 : decode cXS_hugeLength 30 = .ok (.invokevirtual 94, 3) := by decide +kernel
theorem dXS_hugeLength_33 : decode cXS_hugeLength 33 = .ok (.iload_n 1, 1) := by decide +kernel
theorem dXS_hugeLength_34 : decode cXS_hugeLength 34 = .ok (.invokevirtual 98, 3) := by decide +kernel
theorem dXS_hugeLength_37 : decode cXS_hugeLength 37 = .ok (.ldc 210, 2) := by decide +kernel
theorem dXS_hugeLength_39 : decode cXS_hugeLength 39 = .ok (.invokevirtual 94, 3) := by decide +kernel
theorem dXS_hugeLength_42 : decode cXS_hugeLength 42 = .ok (.invokevirtual 101, 3) := by decide +kernel
theorem dXS_hugeLength_45 : decode cXS_hugeLength 45 = .ok (.invokespecial 212, 3) := by decide +kernel
theorem dXS_hugeLength_48 : decode cXS_hugeLength 48 = .ok (.athrow, 1) := by decide +kernel
theorem dXS_hugeLength_49 : decode cXS_hugeLength 49 = .ok (.iload_n 2, 1) := by decide +kernel
theorem dXS_hugeLength_50 : decode cXS_hugeLength 50 = .ok (.ldc 200, 2) := by decide +kernel
theorem dXS_hugeLength_52 : decode cXS_hugeLength 52 = .ok (.if_icmp .gt 6, 3) := by decide +kernel
theorem dXS_hugeLength_55 : decode cXS_hugeLength 55 = .ok (.ldc 200, 2) := by decide +kernel
theorem dXS_hugeLength_57 : decode cXS_hugeLength 57 = .ok (.ireturn, 1) := by decide +kernel
theorem dXS_hugeLength_58 : decode cXS_hugeLength 58 = .ok (.iload_n 2, 1) := by decide +kernel
theorem dXS_hugeLength_59 : decode cXS_hugeLength 59 = .ok (.ireturn, 1) := by decide +kernel
theorem dXR_copyOf_0 : decode cXR_copyOf 0 = .ok (.aload_n 0, 1) := by decide +kernel
theorem dXR_copyOf_1 : decode cXR_copyOf 1 = .ok (.iload_n 1, 1) := by decide +kernel
theorem dXR_copyOf_2 : decode cXR_copyOf 2 = .ok (.aload_n 0, 1) := by decide +kernel
theorem dXR_copyOf_3 : decode cXR_copyOf 3 = .ok (.invokevirtual 86, 3) := by decide +kernel
theorem dXR_copyOf_6 : decode cXR_copyOf 6 = .ok (.invokestatic 300, 3) := by decide +kernel
theorem dXR_copyOf_9 : decode cXR_copyOf 9 = .ok (.areturn, 1) := by decide +kernel
theorem dXR_copyOf_2_0 : decode cXR_copyOf_2 0 = .ok (.aload_n 2, 1) := by decide +kernel
theorem dXR_copyOf_2_1 : decode cXR_copyOf_2 1 = .ok (.ldc 110, 2) := by decide +kernel
theorem dXR_copyOf_2_3 : decode cXR_copyOf_2 3 = .ok (.if_acmp .ne 10, 3) := by decide +kernel
theorem dXR_copyOf_2_6 : decode cXR_copyOf_2 6 = .ok (.iload_n 1, 1) := by decide +kernel
theorem dXR_copyOf_2_7 : decode cXR_copyOf_2 7 = .ok (.anewarray 2, 3) := by decide +kernel
theorem dXR_copyOf_2_10 : decode cXR_copyOf_2 10 = .ok (.goto 14, 3) := by decide +kernel
theorem dXR_copyOf_2_13 : decode cXR_copyOf_2 13 = .ok (.aload_n 2, 1) := by decide +kernel
theorem dXR_copyOf_2_14 : decode cXR_copyOf_2 14 = .ok (.invokevirtual 90, 3) := by decide +kernel
theorem dXR_copyOf_2_17 : decode cXR_copyOf_2 17 = .ok (.iload_n 1, 1) := by decide +kernel
theorem dXR_copyOf_2_18 : decode cXR_copyOf_2 18 = .ok (.invokestatic 95, 3) := by decide +kernel
theorem dXR_copyOf_2_21 : decode cXR_copyOf_2 21 = .ok (.checkcast 110, 3) := by decide +kernel
theorem dXR_copyOf_2_24 : decode cXR_copyOf_2 24 = .ok (.astore_n 3, 1) := by decide +kernel
theorem dXR_copyOf_2_25 : decode cXR_copyOf_2 25 = .ok (.aload_n 0, 1) := by decide +kernel
theorem dXR_copyOf_2_26 : decode cXR_copyOf_2 26 = .ok (.iconst 0, 1) := by decide +kernel
theorem dXR_copyOf_2_27 : decode cXR_copyOf_2 27 = .ok (.aload_n 3, 1) := by decide +kernel
theorem dXR_copyOf_2_28 : decode cXR_copyOf_2 28 = .ok (.iconst 0, 1) := by decide +kernel
theorem dXR_copyOf_2_29 : decode cXR_copyOf_2 29 = .ok (.aload_n 0, 1) := by decide +kernel
theorem dXR_copyOf_2_30 : decode cXR_copyOf_2 30 = .ok (.arraylength, 1) := by decide +kernel
theorem dXR_copyOf_2_31 : decode cXR_copyOf_2 31 = .ok (.iload_n 1, 1) := by decide +kernel
theorem dXR_copyOf_2_32 : decode cXR_copyOf_2 32 = .ok (.invokestatic 304, 3) := by decide +kernel
theorem dXR_copyOf_2_35 : decode cXR_copyOf_2 35 = .ok (.invokestatic 150, 3) := by decide +kernel
theorem dXR_copyOf_2_38 : decode cXR_copyOf_2 38 = .ok (.aload_n 3, 1) := by decide +kernel
theorem dXR_copyOf_2_39 : decode cXR_copyOf_2 39 = .ok (.areturn, 1) := by decide +kernel
end
section
/-! the list: its first cell, worlds in another order -/
theorem mt_LL_at {g : mt_G} {al : Nat} {LP : List Nat} {n cap : Nat} {LL : va_W} (h : mt_LL g al LP n cap LL) : ∃ (mo : Int32) (ea : Nat) (r : va_W), LL = (al, .inr (3, [.int mo, .ref ea, .int (nI n)])) :: r := by
  rcases h with ⟨rfl, -, mo, h⟩ | ⟨mo, ae, fe, h1, -⟩
  · exact ⟨mo, _, _, h⟩
  · exact ⟨mo, _, _, h1⟩
theorem qa_perm {D : va_G} {cl : List vw_C} {A : Nat → Prop} {ws ws' : va_W} {H : Heap} (h : ws'.Perm ws) (hP : va_P D cl ws H) (hD : va_D A ws) : va_P D cl ws' H ∧ va_D A ws' := by
  refine ⟨qa_P hP (fun q hq => h.mem_iff.mp hq), qa_D_iff.mpr ?_⟩
  obtain ⟨h1, h2⟩ := qa_D_iff.mp hD
  exact ⟨(h.map Prod.fst).nodup_iff.mpr h1, fun q hq => h2 q (h.mem_iff.mp hq)⟩
theorem qa_tail {D : va_G} {cl : List vw_C} {A : Nat → Prop} {e : Nat × va_E} {ws : va_W} {H : Heap} (hP : va_P D cl (e :: ws) H) (hD : va_D A (e :: ws)) : va_P D cl ws H ∧ va_D A ws := by
  refine ⟨qa_P hP (fun q hq => List.mem_cons_of_mem _ hq), qa_D_iff.mpr ?_⟩
  obtain ⟨h1, h2⟩ := qa_D_iff.mp hD
  exact ⟨(List.nodup_cons.mp h1).2, fun q hq => h2 q (List.mem_cons_of_mem _ hq)⟩
theorem qa_mid {α : Type} (X Y : List α) (e : α) : (X ++ e :: Y).Perm ((X ++ Y) ++ [e]) := List.perm_middle.trans (List.perm_append_singleton e (X ++ Y)).symm
theorem qa_swap {α : Type} (X Y : List α) (e f : α) : (e :: (X ++ f :: Y)).Perm ((X ++ e :: Y) ++ [f]) :=
  ((List.Perm.cons e List.perm_middle).trans ((List.Perm.swap f e (X ++ Y)).trans (List.Perm.cons f List.perm_middle.symm))).trans (List.perm_append_singleton f (X ++ e :: Y)).symm
set_option maxHeartbeats 4000000 in
set_option maxRecDepth 100000 in
/-- Preconditions.checkIndex -/
theorem c_check3 (l : Launch) (g : mt_G) (ws : va_W) (i n : Nat) (hi : i < n) (hn : n < 2 ^ 31) : Met l yXP_checkIndex wsXP_checkIndex ({ frames := 0, cells := 0, slots := 0, locals := 0 }) (mt_Pc g ws [.int (nI i), .int (nI n), .null]) (vp_Si (fun z => z = nI i)) (0) (0) (fun _ => False) := by
  refine Met.ofW (cc := cXP_checkIndex) (maxL := 3) (ret := (some .int)) (by decide) rfl ?_
  intro p e s m args below meth c s₁ B hml hv
  obtain ⟨rfl, hE, hz, hP, hD⟩ := hv
  have hx := B.exec
  have hb := B.bytes
  have hr := B.returns
  have hts := atoms_spec (ws := wsXP_checkIndex) B.pre
  have hown : s.vm.findClass RXP = some m.cls := findClass_of_methodNamed B.named
  have hlocks := B.notSynchronized
  have hK := hE.k
  have hA : ∀ q : Nat, s.heap.size ≤ q → mt_A g q := fun q h => Nat.le_trans hz h
  have hS : va_S (mt_A g) s.heap s.heap [] := va_S.rf
  have hl := lv_entry ([.int (nI i), .int (nI n), .null]) (n := 3) (Nat.le_of_ble_eq_true rfl)
  rw [lg_entry_eq]
  generalize (lg_sl ([.int (nI i), .int (nI n), .null]) ++ List.replicate (3 - (lg_sl ([.int (nI i), .int (nI n), .null])).length) Slot.unset).toArray = ls at hl ⊢
  have hl : lv_has ls 3 [(0, .int (nI i)), (1, .int (nI n)), (2, .null)] := hl
  have hH : s.heap = s.heap := rfl
  refine lv_iload_n hx hb dXP_checkIndex_0 rfl (lv_at hl 0 rfl) ?_
  refine lv_if_lt (tgt := 9) hx hb dXP_checkIndex_1 (by decide) (fun z => absurd z (nI_pos (by omega))) (fun _ => ?_)
  refine lv_iload_n hx hb dXP_checkIndex_4 rfl (lv_at hl 0 rfl) ?_
  refine lv_iload_n hx hb dXP_checkIndex_5 rfl (lv_at hl 1 rfl) ?_
  refine lv_icmp_lt (tgt := 16) hx hb dXP_checkIndex_6 (by decide) (fun _ => ?_) (fun z => absurd (nI_lt hi hn) z)
  refine lv_iload_n hx hb dXP_checkIndex_16 rfl (lv_at hl 0 rfl) ?_
  exact W.iret (v := (nI i)) hx hb hr (fun t9 ht hW => ⟨(nI i), rfl, rfl, ht⟩) t_nil dXP_checkIndex_17
set_option maxHeartbeats 4000000 in
set_option maxRecDepth 100000 in
/-- Objects.checkIndex -/
theorem c_check2 (l : Launch) (g : mt_G) (ws : va_W) (i n : Nat) (hi : i < n) (hn : n < 2 ^ 31) : Met l yXO_checkIndex wsXO_checkIndex ({ frames := 1, cells := 0, slots := 0, locals := 22 }) (mt_Pc g ws [.int (nI i), .int (nI n)]) (vp_Si (fun z => z = nI i)) (0) (0) (fun _ => False) := by
  refine Met.ofW (cc := cXO_checkIndex) (maxL := 2) (ret := (some .int)) (by decide) rfl ?_
  intro p e s m args below meth c s₁ B hml hv
  obtain ⟨rfl, hE, hz, hP, hD⟩ := hv
  have hx := B.exec
  have hb := B.bytes
  have hr := B.returns
  have hts := atoms_spec (ws := wsXO_checkIndex) B.pre
  have hown : s.vm.findClass RXO = some m.cls := findClass_of_methodNamed B.named
  have hlocks := B.notSynchronized
  have hK := hE.k
  have hA : ∀ q : Nat, s.heap.size ≤ q → mt_A g q := fun q h => Nat.le_trans hz h
  have hS : va_S (mt_A g) s.heap s.heap [] := va_S.rf
  have hl := lv_entry ([.int (nI i), .int (nI n)]) (n := 2) (Nat.le_of_ble_eq_true rfl)
  rw [lg_entry_eq]
  generalize (lg_sl ([.int (nI i), .int (nI n)]) ++ List.replicate (2 - (lg_sl ([.int (nI i), .int (nI n)])).length) Slot.unset).toArray = ls at hl ⊢
  have hl : lv_has ls 2 [(0, .int (nI i)), (1, .int (nI n))] := hl
  have hH : s.heap = s.heap := rfl
  refine lv_iload_n hx hb dXO_checkIndex_0 rfl (lv_at hl 0 rfl) ?_
  refine lv_iload_n hx hb dXO_checkIndex_1 rfl (lv_at hl 1 rfl) ?_
  refine lv_null hx hb dXO_checkIndex_2 ?_
  refine vp_callSi (W.runS (As := [.int (nI i), .int (nI n), .null]) (rest := []) ⟨hx, hb, hml, hown, hts⟩ (c_check3 l g ws i n hi hn) (va_cwS 3 hts (mt_giS mw_85 mw_86 mw_18 (mt_gi mw_87)) rfl rfl rfl (by decide +kernel) ⟨Nat.le_of_ble_eq_true rfl, Nat.le_of_ble_eq_true rfl⟩) (mt_preS hE hz hS hP hD) rfl rfl hl.1 rfl (lv_room (Nat.le_of_ble_eq_true rfl)) dXO_checkIndex_3 ⟨Nat.zero_le _, Nat.zero_le _⟩) (fun z1 e1 => ?_)
  subst e1
  exact W.iret (v := (nI i)) hx hb hr (fun t9 ht hW => ⟨(nI i), rfl, rfl, ht⟩) t_nil dXO_checkIndex_6
set_option maxHeartbeats 4000000 in
set_option maxRecDepth 100000 in
/-- ArrayList.size -/
theorem c_size (l : Launch) (g : mt_G) (c0 c1 c2 c3 c4 c5 : Nat × va_E) (al n cap : Nat) (LL : va_W) (LP : List Nat) (nf : Nat → mt_N) (hLL : mt_LL g al LP n cap LL) (hlc : mt_lc n cap) (hn5 : n < 5000) : Met l yXA_size wsXA_size ({ frames := 0, cells := 0, slots := 0, locals := 0 }) (mt_Pc g (mt_LW c0 c1 c2 c3 c4 c5 LL LP nf) [.ref al]) (vp_Si (fun z => z = nI n)) (0) (0) (fun _ => False) := by
  refine Met.ofW (cc := cXA_size) (maxL := 1) (ret := (some .int)) (by decide) rfl ?_
  intro p e s m args below meth c s₁ B hml hv
  obtain ⟨rfl, hE, hz, hP, hD⟩ := hv
  have hx := B.exec
  have hb := B.bytes
  have hr := B.returns
  have hts := atoms_spec (ws := wsXA_size) B.pre
  have hown : s.vm.findClass RXA = some m.cls := findClass_of_methodNamed B.named
  have hlocks := B.notSynchronized
  have hK := hE.k
  have hA : ∀ q : Nat, s.heap.size ≤ q → mt_A g q := fun q h => Nat.le_trans hz h
  have hS : va_S (mt_A g) s.heap s.heap [] := va_S.rf
  have hl := lv_entry ([.ref al]) (n := 1) (Nat.le_of_ble_eq_true rfl)
  rw [lg_entry_eq]
  generalize (lg_sl ([.ref al]) ++ List.replicate (1 - (lg_sl ([.ref al])).length) Slot.unset).toArray = ls at hl ⊢
  have hl : lv_has ls 1 [(0, .ref al)] := hl
  have hH : s.heap = s.heap := rfl
  obtain ⟨mo, ea, r, rfl⟩ := mt_LL_at hLL
  refine lv_aload_n hx hb dXA_size_0 rfl (lv_at hl 0 rfl) ?_
  refine va_get (D := g.1) (ci := 3) (v := .int (nI n)) (C := RXA) (T := TXA) (N := 3) hx hb hts (fun w h => List.mem_cons_of_mem _ (in_XA w h)) hown hK hP 6 rfl rfl 2 (by decide) (hts _ (List.mem_cons_of_mem _ mw_42)) (fun _ h9 => h9) rfl dXA_size_1 ?_
  exact W.iret (v := (nI n)) hx hb hr (fun t9 ht hW => ⟨(nI n), rfl, rfl, ht⟩) t_nil dXA_size_4
set_option maxHeartbeats 4000000 in
set_option maxRecDepth 100000 in
/-- ArrayList.elementData -/
theorem c_elementData (l : Launch) (g : mt_G) (c0 c1 c2 c3 c4 c5 : Nat × va_E) (al n cap : Nat) (LL : va_W) (LP : List Nat) (nf : Nat → mt_N) (hLL : mt_LL g al LP n cap LL) (hlc : mt_lc n cap) (hn5 : n < 5000) (v : Nat) (hv : v < n) : Met l yXA_elementData wsXA_elementData ({ frames := 0, cells := 0, slots := 0, locals := 0 }) (mt_Pc g (mt_LW c0 c1 c2 c3 c4 c5 LL LP nf) [.ref al, .int (nI v)]) (va_Sq (fun z => ∃ a, z = some a ∧ a ∈ LP)) (0) (0) (fun _ => False) := by
  refine Met.ofW (cc := cXA_elementData) (maxL := 2) (ret := (some (.object "java/lang/Object"))) (by decide) rfl ?_
  intro p e s m args below meth c s₁ B hml hv
  obtain ⟨rfl, hE, hz, hP, hD⟩ := hv
  have hx := B.exec
  have hb := B.bytes
  have hr := B.returns
  have hts := atoms_spec (ws := wsXA_elementData) B.pre
  have hown : s.vm.findClass RXA = some m.cls := findClass_of_methodNamed B.named
  have hlocks := B.notSynchronized
  have hK := hE.k
  have hA : ∀ q : Nat, s.heap.size ≤ q → mt_A g q := fun q h => Nat.le_trans hz h
  have hS : va_S (mt_A g) s.heap s.heap [] := va_S.rf
  have hl := lv_entry ([.ref al, .int (nI v)]) (n := 2) (Nat.le_of_ble_eq_true rfl)
  rw [lg_entry_eq]
  generalize (lg_sl ([.ref al, .int (nI v)]) ++ List.replicate (2 - (lg_sl ([.ref al, .int (nI v)])).length) Slot.unset).toArray = ls at hl ⊢
  have hl : lv_has ls 2 [(0, .ref al), (1, .int (nI v))] := hl
  have hH : s.heap = s.heap := rfl
  rcases id hLL with ⟨h0, -, -⟩ | ⟨mo, ae, fe, rfl, hcap0, hnc, hel⟩
  · omega
  obtain ⟨a, ea, ha⟩ := hel v hv
  refine lv_aload_n hx hb dXA_elementData_0 rfl (lv_at hl 0 rfl) ?_
  refine va_get (D := g.1) (ci := 3) (v := .ref ae) (C := RXA) (T := TXA) (N := 3) hx hb hts (fun w h => List.mem_cons_of_mem _ (in_XA w h)) hown hK hP 6 rfl rfl 1 (by decide) (hts _ (List.mem_cons_of_mem _ mw_41)) (fun _ h9 => h9) rfl dXA_elementData_1 ?_
  refine lv_iload_n hx hb dXA_elementData_4 rfl (lv_at hl 1 rfl) ?_
  refine va_aldq (D := g.1) (cl := vwCl) hx hb hK hP 7 0 rfl rfl (vp_in_nI (n := v) (by omega) (by have := mt_lc_max hlc; omega)) dXA_elementData_5 ?_
  refine qa_q (y := some a) (by rw [nI_clamp (by omega)]; exact ea) ?_
  exact W.aret (v := va_rf (some a)) hx hb hr (Or.inl ⟨_, rfl⟩) (va_rf_or _) (fun t9 ht hW => ⟨some a, rfl, ⟨a, rfl, ha⟩, ht⟩) t_nil dXA_elementData_6
set_option maxHeartbeats 4000000 in
set_option maxRecDepth 100000 in
/-- ArrayList.get -/
theorem c_lget (l : Launch) (g : mt_G) (c0 c1 c2 c3 c4 c5 : Nat × va_E) (al n cap : Nat) (LL : va_W) (LP : List Nat) (nf : Nat → mt_N) (hLL : mt_LL g al LP n cap LL) (hlc : mt_lc n cap) (hn5 : n < 5000) (v : Nat) (hv : v < n) : Met l yXA_get wsXA_get ({ frames := 3, cells := 0, slots := 0, locals := 70 }) (mt_Pc g (mt_LW c0 c1 c2 c3 c4 c5 LL LP nf) [.ref al, .int (nI v)]) (va_Sq (fun z => ∃ a, z = some a ∧ a ∈ LP)) (0) (0) (fun _ => False) := by
  refine Met.ofW (cc := cXA_get) (maxL := 2) (ret := (some (.object "java/lang/Object"))) (by decide) rfl ?_
  intro p e s m args below meth c s₁ B hml hv
  obtain ⟨rfl, hE, hz, hP, hD⟩ := hv
  have hx := B.exec
  have hb := B.bytes
  have hr := B.returns
  have hts := atoms_spec (ws := wsXA_get) B.pre
  have hown : s.vm.findClass RXA = some m.cls := findClass_of_methodNamed B.named
  have hlocks := B.notSynchronized
  have hK := hE.k
  have hA : ∀ q : Nat, s.heap.size ≤ q → mt_A g q := fun q h => Nat.le_trans hz h
  have hS : va_S (mt_A g) s.heap s.heap [] := va_S.rf
  have hl := lv_entry ([.ref al, .int (nI v)]) (n := 2) (Nat.le_of_ble_eq_true rfl)
  rw [lg_entry_eq]
  generalize (lg_sl ([.ref al, .int (nI v)]) ++ List.replicate (2 - (lg_sl ([.ref al, .int (nI v)])).length) Slot.unset).toArray = ls at hl ⊢
  have hl : lv_has ls 2 [(0, .ref al), (1, .int (nI v))] := hl
  have hH : s.heap = s.heap := rfl
  have hrcv := mt_LL_recv hLL hK hP
  obtain ⟨mo, ea, r, hLr⟩ := mt_LL_at hLL
  refine lv_iload_n hx hb dXA_get_0 rfl (lv_at hl 1 rfl) ?_
  refine lv_aload_n hx hb dXA_get_1 rfl (lv_at hl 0 rfl) ?_
  have hP2 : va_P g.1 vwCl (c0 :: c1 :: c2 :: c3 :: c4 :: c5 :: ((al, .inr (3, [.int mo, .ref ea, .int (nI n)])) :: r ++ va_pl LP (fun a => mt_nE (nf a)))) s.heap := by rw [← hLr]; exact hP
  refine va_get (D := g.1) (ci := 3) (v := .int (nI n)) (C := RXA) (T := TXA) (N := 3) hx hb hts (fun w h => List.mem_cons_of_mem _ (in_XA w h)) hown hK hP2 6 rfl rfl 2 (by decide) (hts _ (List.mem_cons_of_mem _ mw_42)) (fun _ h9 => h9) rfl dXA_get_2 ?_
  refine vp_callSi (W.runS (As := [.int (nI v), .int (nI n)]) (rest := []) ⟨hx, hb, hml, hown, hts⟩ (c_check2 l g _ v n hv (by omega)) (va_cwS 2 hts (mt_giS mw_82 mw_83 mw_17 (mt_gi mw_84)) rfl rfl rfl (by decide +kernel) ⟨Nat.le_of_ble_eq_true rfl, Nat.le_of_ble_eq_true rfl⟩) (mt_preS hE hz hS hP hD) rfl rfl hl.1 rfl (lv_room (Nat.le_of_ble_eq_true rfl)) dXA_get_5 ⟨Nat.zero_le _, Nat.zero_le _⟩) (fun z1 e1 => ?_)
  subst e1
  refine lv_pop hx hb dXA_get_8 rfl ?_
  refine lv_aload_n hx hb dXA_get_9 rfl (lv_at hl 0 rfl) ?_
  refine lv_iload_n hx hb dXA_get_10 rfl (lv_at hl 1 rfl) ?_
  refine va_csq (W.runV (As := [.int (nI v)]) (rest := []) ⟨hx, hb, hml, hown, hts⟩ (c_elementData l g c0 c1 c2 c3 c4 c5 al n cap LL LP nf hLL hlc hn5 v hv) (cwV 1 hts (mt_giV mw_88 mw_89 mw_90 mw_4 (mt_gi mw_91)) rfl rfl rfl (by decide +kernel) ⟨Nat.le_of_ble_eq_true rfl, Nat.le_of_ble_eq_true rfl⟩) (mt_preV hE hz hS hP hD hrcv) rfl rfl hl.1 rfl (lv_room (Nat.le_of_ble_eq_true rfl)) dXA_get_11 ⟨Nat.zero_le _, Nat.zero_le _⟩) (fun z2 e2 => ?_)
  exact W.aret (v := va_rf z2) hx hb hr (Or.inl ⟨_, rfl⟩) (va_rf_or _) (fun t9 ht hW => ⟨z2, rfl, e2, ht⟩) t_nil dXA_get_14
set_option maxHeartbeats 4000000 in
set_option maxRecDepth 100000 in
/-- ArraysSupport.newLength -/
theorem c_newLength (l : Launch) (g : mt_G) (ws : va_W) (k : Nat) (h10 : 10 ≤ k) (hk : k < 10000) : Met l yXS_newLength wsXS_newLength ({ frames := 1, cells := 0, slots := 0, locals := 40 }) (mt_Pc g ws [.int (nI k), .int 1, .int (nI (k / 2))]) (vp_Si (fun z => z = nI (k + k / 2))) (0) (0) (fun _ => False) := by
  refine Met.ofW (cc := cXS_newLength) (maxL := 4) (ret := (some .int)) (by decide) rfl ?_
  intro p e s m args below meth c s₁ B hml hv
  obtain ⟨rfl, hE, hz, hP, hD⟩ := hv
  have hx := B.exec
  have hb := B.bytes
  have hr := B.returns
  have hts := atoms_spec (ws := wsXS_newLength) B.pre
  have hown : s.vm.findClass RXS = some m.cls := findClass_of_methodNamed B.named
  have hlocks := B.notSynchronized
  have hK := hE.k
  have hA : ∀ q : Nat, s.heap.size ≤ q → mt_A g q := fun q h => Nat.le_trans hz h
  have hS : va_S (mt_A g) s.heap s.heap [] := va_S.rf
  have hl := lv_entry ([.int (nI k), .int 1, .int (nI (k / 2))]) (n := 4) (Nat.le_of_ble_eq_true rfl)
  rw [lg_entry_eq]
  generalize (lg_sl ([.int (nI k), .int 1, .int (nI (k / 2))]) ++ List.replicate (4 - (lg_sl ([.int (nI k), .int 1, .int (nI (k / 2))])).length) Slot.unset).toArray = ls at hl ⊢
  have hl : lv_has ls 4 [(0, .int (nI k)), (1, .int 1), (2, .int (nI (k / 2)))] := hl
  have hH : s.heap = s.heap := rfl
  refine lv_iload_n hx hb dXS_newLength_0 rfl (lv_at hl 0 rfl) ?_
  refine lv_iload_n hx hb dXS_newLength_1 rfl (lv_at hl 1 rfl) ?_
  refine lv_iload_n hx hb dXS_newLength_2 rfl (lv_at hl 2 rfl) ?_
  refine va_mmax (rest := [.int (nI k)]) hx hb (by rw [hml]; exact hl.1.symm) hown (hts _ (List.mem_cons_of_mem _ mw_237)) (hts _ (List.mem_cons_of_mem _ mw_238)) (hts _ (List.mem_cons_of_mem _ mw_13)) (hts _ (List.mem_cons_of_mem _ mw_239)) (Nat.le_of_ble_eq_true rfl) (Nat.le_of_ble_eq_true rfl) (Nat.zero_le _) (Nat.zero_le _) dXS_newLength_3 ?_
  refine qa_i (y := (nI (k / 2))) (if_pos (show nI 1 < nI (k / 2) from nI_lt (by omega) (by omega))) ?_
  refine lv_iadd hx hb dXS_newLength_6 ?_
  refine qa_i (y := (nI (k + k / 2))) (nI_add k (k / 2)) ?_
  refine lv_istore_n (i := 3) (lv' := [(3, .int (nI (k + k / 2))), (0, .int (nI k)), (1, .int 1), (2, .int (nI (k / 2)))]) hx hb dXS_newLength_7 rfl hl (by decide) rfl (fun ls hl => ?_)
  refine lv_iconst (v := 0) hx hb dXS_newLength_8 (by decide +kernel) ?_
  refine lv_iload_n hx hb dXS_newLength_9 rfl (lv_at hl 0 rfl) ?_
  refine lv_icmp_ge (tgt := 21) hx hb dXS_newLength_10 (by decide) (fun z => absurd z (fun h9 => absurd ((nI_leI (b := 0) (by omega) (by omega)).mp h9) (by omega))) (fun _ => ?_)
  refine lv_iload_n hx hb dXS_newLength_13 rfl (lv_at hl 0 rfl) ?_
  refine lv_ldc (v := 2147483639) hx hb hown (hts _ (List.mem_cons_of_mem _ mw_240)) dXS_newLength_14 ?_
  refine lv_icmp_gt (tgt := 21) hx hb dXS_newLength_16 (by decide) (fun z => absurd z (nI_nlt (a := 2147483639) (b := k + k / 2) (by omega) (by omega))) (fun _ => ?_)
  refine lv_iload_n hx hb dXS_newLength_19 rfl (lv_at hl 0 rfl) ?_
  exact W.iret (v := (nI (k + k / 2))) hx hb hr (fun t9 ht hW => ⟨(nI (k + k / 2)), rfl, rfl, ht⟩) t_nil dXS_newLength_20
end
section
set_option maxHeartbeats 4000000 in
set_option maxRecDepth 100000 in
/-- Arrays.copyOf, three arguments -/
theorem c_copy3 (l : Launch) (g : mt_G) (c0 c1 c2 c3 c4 c5 c6 : Nat × va_E) (Z : va_W) (ae n mm : Nat) (fe : Nat → Option Nat) (hnm : n ≤ mm) (hm : mm < 20000) (hel : ∀ i, i < n → ∀ y, fe i = some y → ∃ (k : Nat) (vs : List Value), (c0 :: c1 :: c2 :: c3 :: c4 :: c5 :: c6 :: (ae, .inl (g.2.2.2 0, n, .inr (.inr (.inr (.inr fe))))) :: Z)[k]? = some (y, .inr (0, vs))) : Met l yXR_copyOf_2 wsXR_copyOf_2 ({ frames := 2, cells := 1, slots := mm, locals := 60 }) (mt_Pc g (c0 :: c1 :: c2 :: c3 :: c4 :: c5 :: c6 :: (ae, .inl (g.2.2.2 0, n, .inr (.inr (.inr (.inr fe))))) :: Z) [.ref ae, .int (nI mm), .ref (g.2.2.2 5)]) (va_Qq (fun r (u : Nat) => r = some u) (fun u t => mt_B g ((c0 :: c1 :: c2 :: c3 :: c4 :: c5 :: c6 :: (ae, .inl (g.2.2.2 0, n, .inr (.inr (.inr (.inr fe))))) :: Z) ++ [(u, .inl (g.2.2.2 0, mm, .inr (.inr (.inr (.inr (va_cpy fe (fun _ => none) 0 0 n))))))]) t) (mt_A g)) (1) (mm) (mt_A g) := by
  refine Met.ofW (cc := cXR_copyOf_2) (maxL := 4) (ret := (some (.array (.object "java/lang/Object")))) (by decide) rfl ?_
  intro p e s m args below meth c s₁ B hml hv
  obtain ⟨rfl, hE, hz, hP, hD⟩ := hv
  have hx := B.exec
  have hb := B.bytes
  have hr := B.returns
  have hts := atoms_spec (ws := wsXR_copyOf_2) B.pre
  have hown : s.vm.findClass RXR = some m.cls := findClass_of_methodNamed B.named
  have hlocks := B.notSynchronized
  have hK := hE.k
  have hA : ∀ q : Nat, s.heap.size ≤ q → mt_A g q := fun q h => Nat.le_trans hz h
  have hS : va_S (mt_A g) s.heap s.heap [] := va_S.rf
  have hl := lv_entry ([.ref ae, .int (nI mm), .ref (g.2.2.2 5)]) (n := 4) (Nat.le_of_ble_eq_true rfl)
  rw [lg_entry_eq]
  generalize (lg_sl ([.ref ae, .int (nI mm), .ref (g.2.2.2 5)]) ++ List.replicate (4 - (lg_sl ([.ref ae, .int (nI mm), .ref (g.2.2.2 5)])).length) Slot.unset).toArray = ls at hl ⊢
  have hl : lv_has ls 4 [(0, .ref ae), (1, .int (nI mm)), (2, .ref (g.2.2.2 5))] := hl
  have hH : s.heap = s.heap := rfl
  refine lv_aload_n hx hb dXR_copyOf_2_0 rfl (lv_at hl 2 rfl) ?_
  refine va_ldcM hx hb hown (hts _ (List.mem_cons_of_mem _ mw_261)) hE.mi dXR_copyOf_2_1 ?_
  refine lv_acmp_ne (rx := some (g.2.2.2 5)) (ry := some (g.2.2.2 5)) (tgt := 13) hx hb dXR_copyOf_2_3 (by decide) (fun z => absurd rfl z) (fun _ => ?_)
  refine lv_iload_n hx hb dXR_copyOf_2_6 rfl (lv_at hl 1 rfl) ?_
  refine va_newq hx hb hown (hts _ (List.mem_cons_of_mem _ mw_262)) hE.ao hK hP hD hS hA (n := nI mm) (N' := mm) (nI_pos (by omega)) (nI_clamp (by omega)) (by omega) (by show 0 + 1 ≤ 1; omega) (by show 0 + mm ≤ mm; omega) dXR_copyOf_2_7 (fun q cA H hK9 hP hD hS => ?_)
  have hcA := qa_ty1 (i := 5) (j := 0) hK9 hK rfl rfl
  subst hcA
  refine lv_goto (tgt := 24) hx hb dXR_copyOf_2_10 (by decide) ?_
  refine lv_astore_n (i := 3) (lv' := [(3, .ref q), (0, .ref ae), (1, .int (nI mm)), (2, .ref (g.2.2.2 5))]) hx hb dXR_copyOf_2_24 rfl hl (by decide) rfl (fun ls hl => ?_)
  refine lv_aload_n hx hb dXR_copyOf_2_25 rfl (lv_at hl 1 rfl) ?_
  refine lv_iconst (v := 0) hx hb dXR_copyOf_2_26 (by decide +kernel) ?_
  refine lv_aload_n hx hb dXR_copyOf_2_27 rfl (lv_at hl 0 rfl) ?_
  refine lv_iconst (v := 0) hx hb dXR_copyOf_2_28 (by decide +kernel) ?_
  refine lv_aload_n hx hb dXR_copyOf_2_29 rfl (lv_at hl 1 rfl) ?_
  refine va_alen (D := g.1) (cl := vwCl) (ty := .object "java/lang/Object") (v := nI n) hx hb hK hP 7 0 rfl rfl rfl dXR_copyOf_2_30 ?_
  refine lv_iload_n hx hb dXR_copyOf_2_31 rfl (lv_at hl 2 rfl) ?_
  refine va_mmin (rest := [.int 0, .ref q, .int 0, .ref ae]) hx hb (by rw [hml]; exact hl.1.symm) hown (hts _ (List.mem_cons_of_mem _ mw_263)) (hts _ (List.mem_cons_of_mem _ mw_264)) (hts _ (List.mem_cons_of_mem _ mw_13)) (hts _ (List.mem_cons_of_mem _ mw_265)) (Nat.le_of_ble_eq_true rfl) (Nat.le_of_ble_eq_true rfl) (by show 0 + 1 ≤ 1; omega) (by show 0 + mm ≤ mm; omega) dXR_copyOf_2_32 ?_
  refine qa_i (y := (nI n)) (if_neg (nI_nlt (a := mm) (b := n) (by omega) (by omega))) ?_
  refine va_copyM (D := g.1) (cl := vwCl) (E0 := "java/lang/Object") (E1 := "java/lang/Object") (rest := []) hx hb (by rw [hml]; exact hl.1.symm) hown (hts _ (List.mem_cons_of_mem _ mw_266)) (hts _ (List.mem_cons_of_mem _ mw_268)) (hts _ (List.mem_cons_of_mem _ mw_267)) (hts _ (List.mem_cons_of_mem _ mw_15)) hK hP hD hS 7 (c0 :: c1 :: c2 :: c3 :: c4 :: c5 :: c6 :: (ae, .inl (g.2.2.2 0, n, .inr (.inr (.inr (.inr fe))))) :: Z).length 0 0 rfl (qa_lastg _ _) rfl rfl (sp := 0) (dp := 0) (n := nI n) (by decide) (by decide) (nI_pos (by omega)) (by rw [nI_clamp (by omega), sb_cl0]; omega) (by rw [nI_clamp (by omega), sb_cl0]; omega) (fun i hi y hy => ?_) (Nat.le_of_ble_eq_true rfl) (Nat.le_of_ble_eq_true rfl) dXR_copyOf_2_35 (fun H locs hP hD hS => ?_)
  · rw [nI_clamp (by omega)] at hi
    rw [sb_cl0, Nat.zero_add] at hy
    obtain ⟨k9, vs9, hk9⟩ := hel i hi y hy
    have hk10 : ((c0 :: c1 :: c2 :: c3 :: c4 :: c5 :: c6 :: (ae, .inl (g.2.2.2 0, n, .inr (.inr (.inr (.inr fe))))) :: Z) ++ [(q, .inl (g.2.2.2 0, mm, .inr (.inr (.inr (.inr (fun _ => none))))))])[k9]? = some (y, .inr (0, vs9)) := by rw [List.getElem?_append_left (List.getElem?_eq_some_iff.mp hk9).1]; exact hk9
    exact va_rAny (r := (RXN, TXN, 7)) hK hP hk10 rfl (fun comp c0 f1 f2 => by
      obtain ⟨c3, t3, w1, w2, w3⟩ := Cond.castable_spec (va_Nw.use (A := #[]) rfl (hE.w (.castable RXN "java/lang/Object") (by decide +kernel)))
      cases f2.symm.trans w1
      cases f1.symm.trans w2
      exact w3)
  rw [qa_lasts] at hP hD
  rw [nI_clamp (by omega), sb_cl0] at hP hD
  refine lv_aload_n hx hb dXR_copyOf_2_38 rfl (lv_at hl 0 rfl) ?_
  refine W.cs (Nat.zero_add 1) (Nat.zero_add mm) ?_
  exact W.aret (v := va_rf (some q)) hx hb hr (Or.inr ⟨_, rfl⟩) (va_rf_or _) (fun t9 ht hW => ⟨⟨some q, q, rfl, rfl, by rw [ht]; exact hP, hD⟩, hS.F ht⟩) hS.2.2 dXR_copyOf_2_39
set_option maxHeartbeats 4000000 in
set_option maxRecDepth 100000 in
/-- Arrays.copyOf, two arguments -/
theorem c_copy2 (l : Launch) (g : mt_G) (c0 c1 c2 c3 c4 c5 c6 : Nat × va_E) (Z : va_W) (ae n mm : Nat) (fe : Nat → Option Nat) (hnm : n ≤ mm) (hm : mm < 20000) (hel : ∀ i, i < n → ∀ y, fe i = some y → ∃ (k : Nat) (vs : List Value), (c0 :: c1 :: c2 :: c3 :: c4 :: c5 :: c6 :: (ae, .inl (g.2.2.2 0, n, .inr (.inr (.inr (.inr fe))))) :: Z)[k]? = some (y, .inr (0, vs))) : Met l yXR_copyOf wsXR_copyOf ({ frames := 3, cells := 1, slots := mm, locals := 90 }) (mt_Pc g (c0 :: c1 :: c2 :: c3 :: c4 :: c5 :: c6 :: (ae, .inl (g.2.2.2 0, n, .inr (.inr (.inr (.inr fe))))) :: Z) [.ref ae, .int (nI mm)]) (va_Qq (fun r (u : Nat) => r = some u) (fun u t => mt_B g ((c0 :: c1 :: c2 :: c3 :: c4 :: c5 :: c6 :: (ae, .inl (g.2.2.2 0, n, .inr (.inr (.inr (.inr fe))))) :: Z) ++ [(u, .inl (g.2.2.2 0, mm, .inr (.inr (.inr (.inr (va_cpy fe (fun _ => none) 0 0 n))))))]) t) (mt_A g)) (1) (mm) (mt_A g) := by
  refine Met.ofW (cc := cXR_copyOf) (maxL := 2) (ret := (some (.array (.object "java/lang/Object")))) (by decide) rfl ?_
  intro p e s m args below meth c s₁ B hml hv
  obtain ⟨rfl, hE, hz, hP, hD⟩ := hv
  have hx := B.exec
  have hb := B.bytes
  have hr := B.returns
  have hts := atoms_spec (ws := wsXR_copyOf) B.pre
  have hown : s.vm.findClass RXR = some m.cls := findClass_of_methodNamed B.named
  have hlocks := B.notSynchronized
  have hK := hE.k
  have hA : ∀ q : Nat, s.heap.size ≤ q → mt_A g q := fun q h => Nat.le_trans hz h
  have hS : va_S (mt_A g) s.heap s.heap [] := va_S.rf
  have hl := lv_entry ([.ref ae, .int (nI mm)]) (n := 2) (Nat.le_of_ble_eq_true rfl)
  rw [lg_entry_eq]
  generalize (lg_sl ([.ref ae, .int (nI mm)]) ++ List.replicate (2 - (lg_sl ([.ref ae, .int (nI mm)])).length) Slot.unset).toArray = ls at hl ⊢
  have hl : lv_has ls 2 [(0, .ref ae), (1, .int (nI mm))] := hl
  have hH : s.heap = s.heap := rfl
  refine lv_aload_n hx hb dXR_copyOf_0 rfl (lv_at hl 0 rfl) ?_
  refine lv_iload_n hx hb dXR_copyOf_1 rfl (lv_at hl 1 rfl) ?_
  refine lv_aload_n hx hb dXR_copyOf_2 rfl (lv_at hl 0 rfl) ?_
  have hrc : ∃ cell : Cell, s.heap[ae]? = some cell ∧ cell.vm.isStatics = false ∧ s.vm.findClass "[Ljava/lang/Object;" = some cell.cls := ⟨_, hP 7 _ rfl, rfl, by obtain ⟨kA, comp, -, -, -, f4⟩ := (hK.2 0 _ rfl).2; exact f4⟩
  refine va_getC (rest := [.int (nI mm), .ref ae]) hx hb (by rw [hml]; exact hl.1.symm) hown (hts _ (List.mem_cons_of_mem _ mw_247)) (va_Dc.use hE.dc) (hts _ (List.mem_cons_of_mem _ mw_463)) (hts _ (List.mem_cons_of_mem _ mw_248)) (hts _ (List.mem_cons_of_mem _ mw_257)) hE.mi hrc (Nat.le_of_ble_eq_true rfl) (Nat.le_of_ble_eq_true rfl) dXR_copyOf_3 ?_
  refine va_callq (va_runS (As := [.ref ae, .int (nI mm), .ref (g.2.2.2 5)]) (rest := []) ⟨hx, hb, hml, hown, hts⟩ (c_copy3 l g c0 c1 c2 c3 c4 c5 c6 Z ae n mm fe hnm hm hel) (va_cwS 3 hts (mt_giS mw_258 mw_259 mw_14 (mt_gi mw_260)) rfl rfl rfl (by decide +kernel) ⟨Nat.le_of_ble_eq_true rfl, Nat.le_of_ble_eq_true rfl⟩) (mt_preS hE hz hS hP hD) rfl rfl hl.1 rfl (lv_room (Nat.le_of_ble_eq_true rfl)) dXR_copyOf_6 ⟨by show 0 + 1 ≤ 1; omega, by show 0 + mm ≤ mm; omega⟩) hS (fun _ _ h9 => h9) (fun _ h9 => h9) (fun r1 u1 t1 H locs ht1 hvm1 hpo1 hB1 hz1 hk1 hS => ?_)
  subst hpo1
  obtain ⟨hP, hD⟩ := hB1
  rw [ht1] at hP
  refine W.cs (Nat.zero_add 1) (Nat.zero_add mm) ?_
  exact W.aret (v := va_rf (some u1)) hx hb hr (Or.inr ⟨_, rfl⟩) (va_rf_or _) (fun t9 ht hW => ⟨⟨some u1, u1, rfl, rfl, by rw [ht]; exact hP, hD⟩, hS.F ht⟩) hS.2.2 dXR_copyOf_9
end
section
set_option maxHeartbeats 4000000 in
set_option maxRecDepth 100000 in
/-- ArrayList.grow, the first time -/
theorem c_growI0 (l : Launch) (g : mt_G) (c0 c1 c2 c3 c4 c5 : Nat × va_E) (al : Nat) (mo : Int32) (LP : List Nat) (nf : Nat → mt_N) : Met l yXA_grow_2 wsXA_grow_2 ({ frames := 1, cells := 1, slots := 10, locals := 40 }) (mt_Pc g (c0 :: c1 :: c2 :: c3 :: c4 :: c5 :: ((al, .inr (3, [.int mo, .ref g.2.2.1, .int 0])) :: va_pl LP (fun a => mt_nE (nf a)))) [.ref al, .int 1]) (va_Qq (fun r (u : Nat) => r = some u) (fun u t => mt_B g (c0 :: c1 :: c2 :: c3 :: c4 :: c5 :: ((al, .inr (3, [.int mo, .ref u, .int 0])) :: (u, .inl (g.2.2.2 0, 10, .inr (.inr (.inr (.inr (fun _ => none)))))) :: va_pl LP (fun a => mt_nE (nf a)))) t) (mt_A g)) (1) (10) (mt_A g) := by
  refine Met.ofW (cc := cXA_grow_2) (maxL := 4) (ret := (some (.array (.object "java/lang/Object")))) (by decide) rfl ?_
  intro p e s m args below meth c s₁ B hml hv
  obtain ⟨rfl, hE, hz, hP, hD⟩ := hv
  have hx := B.exec
  have hb := B.bytes
  have hr := B.returns
  have hts := atoms_spec (ws := wsXA_grow_2) B.pre
  have hown : s.vm.findClass RXA = some m.cls := findClass_of_methodNamed B.named
  have hlocks := B.notSynchronized
  have hK := hE.k
  have hA : ∀ q : Nat, s.heap.size ≤ q → mt_A g q := fun q h => Nat.le_trans hz h
  have hS : va_S (mt_A g) s.heap s.heap [] := va_S.rf
  have hl := lv_entry ([.ref al, .int 1]) (n := 4) (Nat.le_of_ble_eq_true rfl)
  rw [lg_entry_eq]
  generalize (lg_sl ([.ref al, .int 1]) ++ List.replicate (4 - (lg_sl ([.ref al, .int 1])).length) Slot.unset).toArray = ls at hl ⊢
  have hl : lv_has ls 4 [(0, .ref al), (1, .int 1)] := hl
  have hH : s.heap = s.heap := rfl
  obtain ⟨ft, hft⟩ := hE.t
  refine lv_aload_n hx hb dXA_grow_2_0 rfl (lv_at hl 0 rfl) ?_
  refine va_get (D := g.1) (ci := 3) (v := .ref g.2.2.1) (C := RXA) (T := TXA) (N := 3) hx hb hts (fun w h => List.mem_cons_of_mem _ (in_XA w h)) hown hK hP 6 rfl rfl 1 (by decide) (hts _ (List.mem_cons_of_mem _ mw_41)) (fun _ h9 => h9) rfl dXA_grow_2_1 ?_
  refine va_tlen (v := 0) hx hb hft hS rfl dXA_grow_2_4 ?_
  refine lv_istore_n (i := 2) (lv' := [(2, .int 0), (0, .ref al), (1, .int 1)]) hx hb dXA_grow_2_5 rfl hl (by decide) rfl (fun ls hl => ?_)
  refine lv_iload_n hx hb dXA_grow_2_6 rfl (lv_at hl 0 rfl) ?_
  refine lv_if_gt (tgt := 20) hx hb dXA_grow_2_7 (by decide) (fun z => absurd z (show ¬ (0 : Int32) < 0 by decide)) (fun _ => ?_)
  refine lv_aload_n hx hb dXA_grow_2_10 rfl (lv_at hl 1 rfl) ?_
  refine va_get (D := g.1) (ci := 3) (v := .ref g.2.2.1) (C := RXA) (T := TXA) (N := 3) hx hb hts (fun w h => List.mem_cons_of_mem _ (in_XA w h)) hown hK hP 6 rfl rfl 1 (by decide) (hts _ (List.mem_cons_of_mem _ mw_41)) (fun _ h9 => h9) rfl dXA_grow_2_11 ?_
  refine va_gets hx hb hE.z hS hown (hts _ (List.mem_cons_of_mem _ mw_40)) (fun _ h9 => h9) dXA_grow_2_14 ?_
  refine lv_acmp_eq (rx := some g.2.2.1) (ry := some g.2.2.1) (tgt := 45) hx hb dXA_grow_2_17 (by decide) (fun _ => ?_) (fun z => absurd rfl z)
  refine lv_aload_n hx hb dXA_grow_2_45 rfl (lv_at hl 1 rfl) ?_
  refine lv_bipush (v := (nI 10)) hx hb dXA_grow_2_46 (by decide +kernel) ?_
  refine lv_iload_n hx hb dXA_grow_2_48 rfl (lv_at hl 2 rfl) ?_
  refine va_mmax (rest := [.ref al]) hx hb (by rw [hml]; exact hl.1.symm) hown (hts _ (List.mem_cons_of_mem _ mw_269)) (hts _ (List.mem_cons_of_mem _ mw_238)) (hts _ (List.mem_cons_of_mem _ mw_13)) (hts _ (List.mem_cons_of_mem _ mw_239)) (Nat.le_of_ble_eq_true rfl) (Nat.le_of_ble_eq_true rfl) (Nat.zero_le _) (Nat.zero_le _) dXA_grow_2_49 ?_
  refine qa_i (y := (nI 10)) (if_neg (show ¬ nI 10 < 1 by decide)) ?_
  refine va_newq hx hb hown (hts _ (List.mem_cons_of_mem _ mw_270)) hE.ao hK hP hD hS hA (n := nI 10) (N' := 10) (by decide) (by decide) (by decide) (by decide) (by decide) dXA_grow_2_52 (fun q cA H hK9 hP hD hS => ?_)
  have hcA := qa_ty1 (i := 5) (j := 0) hK9 hK rfl rfl
  subst hcA
  refine lv_dup_x1 hx hb dXA_grow_2_55 rfl rfl ?_
  refine va_put (D := g.1) (ci := 3) (v := .ref q) (ty := .array (.object "java/lang/Object")) (C := RXA) (T := TXA) (N := 3) hx hb hts (fun w h => List.mem_cons_of_mem _ (in_XA w h)) tyXA tyXA_ok nmXA hown hK hP hD hS 6 rfl rfl 1 (by decide) (hts _ (List.mem_cons_of_mem _ mw_41)) (fun _ h9 => h9) rfl (by decide +kernel) rfl rfl (Nat.le_of_ble_eq_true rfl) dXA_grow_2_56 (fun H locs hP hD hS => ?_)
  have hP : va_P g.1 vwCl ((c0 :: c1 :: c2 :: c3 :: c4 :: c5 :: ((al, .inr (3, [.int mo, .ref q, .int 0])) :: va_pl LP (fun a => mt_nE (nf a)))) ++ [(q, .inl (g.2.2.2 0, 10, .inr (.inr (.inr (.inr (fun _ => none))))))]) H := hP
  have hD : va_D (mt_A g) ((c0 :: c1 :: c2 :: c3 :: c4 :: c5 :: ((al, .inr (3, [.int mo, .ref q, .int 0])) :: va_pl LP (fun a => mt_nE (nf a)))) ++ [(q, .inl (g.2.2.2 0, 10, .inr (.inr (.inr (.inr (fun _ => none))))))]) := hD
  obtain ⟨hP, hD⟩ := qa_perm (qa_mid (c0 :: c1 :: c2 :: c3 :: c4 :: c5 :: (al, .inr (3, [.int mo, .ref q, .int 0])) :: []) (va_pl LP (fun a => mt_nE (nf a))) (q, .inl (g.2.2.2 0, 10, .inr (.inr (.inr (.inr (fun _ => none))))))) hP hD
  exact W.aret (v := va_rf (some q)) hx hb hr (Or.inr ⟨_, rfl⟩) (va_rf_or _) (fun t9 ht hW => ⟨⟨some q, q, rfl, rfl, by rw [ht]; exact hP, hD⟩, hS.F ht⟩) hS.2.2 dXA_grow_2_59
set_option maxHeartbeats 4000000 in
set_option maxRecDepth 100000 in
/-- ArrayList.grow, the first time -/
theorem c_grow0 (l : Launch) (g : mt_G) (c0 c1 c2 c3 c4 c5 : Nat × va_E) (al : Nat) (mo : Int32) (LP : List Nat) (nf : Nat → mt_N) : Met l yXA_grow wsXA_grow ({ frames := 2, cells := 1, slots := 10, locals := 80 }) (mt_Pc g (c0 :: c1 :: c2 :: c3 :: c4 :: c5 :: ((al, .inr (3, [.int mo, .ref g.2.2.1, .int 0])) :: va_pl LP (fun a => mt_nE (nf a)))) [.ref al]) (va_Qq (fun r (u : Nat) => r = some u) (fun u t => mt_B g (c0 :: c1 :: c2 :: c3 :: c4 :: c5 :: ((al, .inr (3, [.int mo, .ref u, .int 0])) :: (u, .inl (g.2.2.2 0, 10, .inr (.inr (.inr (.inr (fun _ => none)))))) :: va_pl LP (fun a => mt_nE (nf a)))) t) (mt_A g)) (1) (10) (mt_A g) := by
  refine Met.ofW (cc := cXA_grow) (maxL := 1) (ret := (some (.array (.object "java/lang/Object")))) (by decide) rfl ?_
  intro p e s m args below meth c s₁ B hml hv
  obtain ⟨rfl, hE, hz, hP, hD⟩ := hv
  have hx := B.exec
  have hb := B.bytes
  have hr := B.returns
  have hts := atoms_spec (ws := wsXA_grow) B.pre
  have hown : s.vm.findClass RXA = some m.cls := findClass_of_methodNamed B.named
  have hlocks := B.notSynchronized
  have hK := hE.k
  have hA : ∀ q : Nat, s.heap.size ≤ q → mt_A g q := fun q h => Nat.le_trans hz h
  have hS : va_S (mt_A g) s.heap s.heap [] := va_S.rf
  have hl := lv_entry ([.ref al]) (n := 1) (Nat.le_of_ble_eq_true rfl)
  rw [lg_entry_eq]
  generalize (lg_sl ([.ref al]) ++ List.replicate (1 - (lg_sl ([.ref al])).length) Slot.unset).toArray = ls at hl ⊢
  have hl : lv_has ls 1 [(0, .ref al)] := hl
  have hH : s.heap = s.heap := rfl
  refine lv_aload_n hx hb dXA_grow_0 rfl (lv_at hl 0 rfl) ?_
  refine lv_aload_n hx hb dXA_grow_1 rfl (lv_at hl 0 rfl) ?_
  refine va_get (D := g.1) (ci := 3) (v := .int 0) (C := RXA) (T := TXA) (N := 3) hx hb hts (fun w h => List.mem_cons_of_mem _ (in_XA w h)) hown hK hP 6 rfl rfl 2 (by decide) (hts _ (List.mem_cons_of_mem _ mw_42)) (fun _ h9 => h9) rfl dXA_grow_2 ?_
  refine lv_iconst (v := 1) hx hb dXA_grow_5 (by decide +kernel) ?_
  refine lv_iadd hx hb dXA_grow_6 ?_
  refine qa_i (y := 1) (by decide) ?_
  refine va_callq (va_runV (As := [.int 1]) (rest := []) ⟨hx, hb, hml, hown, hts⟩ (c_growI0 l g c0 c1 c2 c3 c4 c5 al mo LP nf) (cwV 1 hts (mt_giV mw_231 mw_232 mw_469 mw_4 (mt_gi mw_233)) rfl rfl rfl (by decide +kernel) ⟨Nat.le_of_ble_eq_true rfl, Nat.le_of_ble_eq_true rfl⟩) (mt_preV hE hz hS hP hD (va_recv hK hP (q := (RXA, TXA, 3)) (q0 := 6) rfl rfl)) rfl rfl hl.1 rfl (lv_room (Nat.le_of_ble_eq_true rfl)) dXA_grow_7 ⟨Nat.le_of_ble_eq_true rfl, Nat.le_of_ble_eq_true rfl⟩) hS (fun _ _ h9 => h9) (fun _ h9 => h9) (fun r1 u1 t1 H locs ht1 hvm1 hpo1 hB1 hz1 hk1 hS => ?_)
  subst hpo1
  obtain ⟨hP, hD⟩ := hB1
  rw [ht1] at hP
  exact W.aret (v := va_rf (some u1)) hx hb hr (Or.inr ⟨_, rfl⟩) (va_rf_or _) (fun t9 ht hW => ⟨⟨some u1, u1, rfl, rfl, by rw [ht]; exact hP, hD⟩, hS.F ht⟩) hS.2.2 dXA_grow_10
set_option maxHeartbeats 4000000 in
set_option maxRecDepth 100000 in
/-- ArrayList.grow, where it is full -/
theorem c_growI1 (l : Launch) (g : mt_G) (c0 c1 c2 c3 c4 c5 : Nat × va_E) (al : Nat) (mo : Int32) (LP : List Nat) (nf : Nat → mt_N) (n ae : Nat) (fe : Nat → Option Nat) (hn0 : 10 ≤ n) (hn5 : n < 9000) (hel : ∀ i, i < n → ∃ a, fe i = some a ∧ a ∈ LP) : Met l yXA_grow_2 wsXA_grow_2 ({ frames := 4, cells := 1, slots := n + n / 2, locals := 130 }) (mt_Pc g (c0 :: c1 :: c2 :: c3 :: c4 :: c5 :: ((al, .inr (3, [.int mo, .ref ae, .int (nI n)])) :: (ae, .inl (g.2.2.2 0, n, .inr (.inr (.inr (.inr fe))))) :: va_pl LP (fun a => mt_nE (nf a)))) [.ref al, .int (nI (n + 1))]) (va_Qq (fun r (u : Nat) => r = some u) (fun u t => mt_B g (c0 :: c1 :: c2 :: c3 :: c4 :: c5 :: ((al, .inr (3, [.int mo, .ref u, .int (nI n)])) :: (u, .inl (g.2.2.2 0, (n + n / 2), .inr (.inr (.inr (.inr (va_cpy fe (fun _ => none) 0 0 n)))))) :: va_pl LP (fun a => mt_nE (nf a)))) t) (mt_A g)) (1) (n + n / 2) (mt_A g) := by
  refine Met.ofW (cc := cXA_grow_2) (maxL := 4) (ret := (some (.array (.object "java/lang/Object")))) (by decide) rfl ?_
  intro p e s m args below meth c s₁ B hml hv
  obtain ⟨rfl, hE, hz, hP, hD⟩ := hv
  have hx := B.exec
  have hb := B.bytes
  have hr := B.returns
  have hts := atoms_spec (ws := wsXA_grow_2) B.pre
  have hown : s.vm.findClass RXA = some m.cls := findClass_of_methodNamed B.named
  have hlocks := B.notSynchronized
  have hK := hE.k
  have hA : ∀ q : Nat, s.heap.size ≤ q → mt_A g q := fun q h => Nat.le_trans hz h
  have hS : va_S (mt_A g) s.heap s.heap [] := va_S.rf
  have hl := lv_entry ([.ref al, .int (nI (n + 1))]) (n := 4) (Nat.le_of_ble_eq_true rfl)
  rw [lg_entry_eq]
  generalize (lg_sl ([.ref al, .int (nI (n + 1))]) ++ List.replicate (4 - (lg_sl ([.ref al, .int (nI (n + 1))])).length) Slot.unset).toArray = ls at hl ⊢
  have hl : lv_has ls 4 [(0, .ref al), (1, .int (nI (n + 1)))] := hl
  have hH : s.heap = s.heap := rfl
  refine lv_aload_n hx hb dXA_grow_2_0 rfl (lv_at hl 0 rfl) ?_
  refine va_get (D := g.1) (ci := 3) (v := .ref ae) (C := RXA) (T := TXA) (N := 3) hx hb hts (fun w h => List.mem_cons_of_mem _ (in_XA w h)) hown hK hP 6 rfl rfl 1 (by decide) (hts _ (List.mem_cons_of_mem _ mw_41)) (fun _ h9 => h9) rfl dXA_grow_2_1 ?_
  refine va_alen (D := g.1) (cl := vwCl) (ty := .object "java/lang/Object") (v := nI n) hx hb hK hP 7 0 rfl rfl rfl dXA_grow_2_4 ?_
  refine lv_istore_n (i := 2) (lv' := [(2, .int (nI n)), (0, .ref al), (1, .int (nI (n + 1)))]) hx hb dXA_grow_2_5 rfl hl (by decide) rfl (fun ls hl => ?_)
  refine lv_iload_n hx hb dXA_grow_2_6 rfl (lv_at hl 0 rfl) ?_
  refine lv_if_gt (tgt := 20) hx hb dXA_grow_2_7 (by decide) (fun _ => ?_) (fun z => absurd (show 0 < nI n from nI_lt (a := 0) (by omega) (by omega)) z)
  refine lv_iload_n hx hb dXA_grow_2_20 rfl (lv_at hl 0 rfl) ?_
  refine lv_iload_n hx hb dXA_grow_2_21 rfl (lv_at hl 2 rfl) ?_
  refine lv_iload_n hx hb dXA_grow_2_22 rfl (lv_at hl 0 rfl) ?_
  refine lv_isub hx hb dXA_grow_2_23 ?_
  refine qa_i (y := 1) (by rw [pk_sub (by omega), show n + 1 - n = 1 by omega]; rfl) ?_
  refine lv_iload_n hx hb dXA_grow_2_24 rfl (lv_at hl 0 rfl) ?_
  refine lv_iconst (v := 1) hx hb dXA_grow_2_25 (by decide +kernel) ?_
  refine lv_ishr hx hb dXA_grow_2_26 ?_
  refine qa_i (y := (nI (n / 2))) (by have k := pk_shrN (n := n) (by omega) ((1 : Int32) &&& 31) 1 (by decide); rw [Nat.pow_one] at k; exact k) ?_
  refine vp_callSi (W.runS (As := [.int (nI n), .int 1, .int (nI (n / 2))]) (rest := []) ⟨hx, hb, hml, hown, hts⟩ (c_newLength l g _ n hn0 (by omega)) (va_cwS 3 hts (mt_giS mw_234 mw_235 mw_12 (mt_gi mw_236)) rfl rfl rfl (by decide +kernel) ⟨Nat.le_of_ble_eq_true rfl, Nat.le_of_ble_eq_true rfl⟩) (mt_preS hE hz hS hP hD) rfl rfl hl.1 rfl (lv_room (Nat.le_of_ble_eq_true rfl)) dXA_grow_2_27 ⟨Nat.zero_le _, Nat.zero_le _⟩) (fun z1 e1 => ?_)
  subst e1
  refine lv_istore_n (i := 3) (lv' := [(3, .int (nI (n + n / 2))), (2, .int (nI n)), (0, .ref al), (1, .int (nI (n + 1)))]) hx hb dXA_grow_2_30 rfl hl (by decide) rfl (fun ls hl => ?_)
  refine lv_aload_n hx hb dXA_grow_2_31 rfl (lv_at hl 2 rfl) ?_
  refine lv_aload_n hx hb dXA_grow_2_32 rfl (lv_at hl 2 rfl) ?_
  refine va_get (D := g.1) (ci := 3) (v := .ref ae) (C := RXA) (T := TXA) (N := 3) hx hb hts (fun w h => List.mem_cons_of_mem _ (in_XA w h)) hown hK hP 6 rfl rfl 1 (by decide) (hts _ (List.mem_cons_of_mem _ mw_41)) (fun _ h9 => h9) rfl dXA_grow_2_33 ?_
  refine lv_iload_n hx hb dXA_grow_2_36 rfl (lv_at hl 0 rfl) ?_
  refine va_callq (va_runS (As := [.ref ae, .int (nI (n + n / 2))]) (rest := [.ref al]) ⟨hx, hb, hml, hown, hts⟩ (c_copy2 l g c0 c1 c2 c3 c4 c5 (al, .inr (3, [.int mo, .ref ae, .int (nI n)])) (va_pl LP (fun a => mt_nE (nf a))) ae n (n + n / 2) fe (by omega) (by omega) (fun i hi y hy => ?_)) (va_cwS 2 hts (mt_giS mw_244 mw_245 mw_14 (mt_gi mw_246)) rfl rfl rfl (by decide +kernel) ⟨Nat.le_of_ble_eq_true rfl, Nat.le_of_ble_eq_true rfl⟩) (mt_preS hE hz hS hP hD) rfl rfl hl.1 rfl (lv_room (Nat.le_of_ble_eq_true rfl)) dXA_grow_2_37 ⟨by show 0 + 1 ≤ 1; omega, by show 0 + (n + n / 2) ≤ n + n / 2; omega⟩) hS (fun _ _ h9 => h9) (fun _ h9 => h9) (fun r1 q t1 H locs ht1 hvm1 hpo1 hB1 hz1 hk1 hS => ?_)
  · obtain ⟨a9, e9, m9⟩ := hel i hi
    rw [e9] at hy
    cases hy
    obtain ⟨k9, hk9⟩ := va_pl_get (X := (c0 :: c1 :: c2 :: c3 :: c4 :: c5 :: (al, .inr (3, [.int mo, .ref ae, .int (nI n)])) :: (ae, .inl (g.2.2.2 0, n, .inr (.inr (.inr (.inr fe))))) :: [])) (f := fun a => mt_nE (nf a)) m9
    exact ⟨k9, _, hk9⟩
  subst hpo1
  obtain ⟨hP, hD⟩ := hB1
  rw [ht1] at hP
  refine lv_dup_x1 hx hb dXA_grow_2_40 rfl rfl ?_
  refine va_put (D := g.1) (ci := 3) (v := .ref q) (ty := .array (.object "java/lang/Object")) (C := RXA) (T := TXA) (N := 3) hx hb hts (fun w h => List.mem_cons_of_mem _ (in_XA w h)) tyXA tyXA_ok nmXA hown hK hP hD hS 6 rfl rfl 1 (by decide) (hts _ (List.mem_cons_of_mem _ mw_41)) (fun _ h9 => h9) rfl (by decide +kernel) rfl rfl (Nat.le_of_ble_eq_true rfl) dXA_grow_2_41 (fun H locs hP hD hS => ?_)
  have hP : va_P g.1 vwCl ((c0 :: c1 :: c2 :: c3 :: c4 :: c5 :: ((al, .inr (3, [.int mo, .ref q, .int (nI n)])) :: (ae, .inl (g.2.2.2 0, n, .inr (.inr (.inr (.inr fe))))) :: va_pl LP (fun a => mt_nE (nf a)))) ++ [(q, .inl (g.2.2.2 0, (n + n / 2), .inr (.inr (.inr (.inr (va_cpy fe (fun _ => none) 0 0 n))))))]) H := hP
  have hD : va_D (mt_A g) ((c0 :: c1 :: c2 :: c3 :: c4 :: c5 :: ((al, .inr (3, [.int mo, .ref q, .int (nI n)])) :: (ae, .inl (g.2.2.2 0, n, .inr (.inr (.inr (.inr fe))))) :: va_pl LP (fun a => mt_nE (nf a)))) ++ [(q, .inl (g.2.2.2 0, (n + n / 2), .inr (.inr (.inr (.inr (va_cpy fe (fun _ => none) 0 0 n))))))]) := hD
  obtain ⟨hP, hD⟩ := qa_perm (qa_swap (c0 :: c1 :: c2 :: c3 :: c4 :: c5 :: (al, .inr (3, [.int mo, .ref q, .int (nI n)])) :: []) (va_pl LP (fun a => mt_nE (nf a))) (ae, .inl (g.2.2.2 0, n, .inr (.inr (.inr (.inr fe))))) (q, .inl (g.2.2.2 0, (n + n / 2), .inr (.inr (.inr (.inr (va_cpy fe (fun _ => none) 0 0 n))))))) hP hD
  obtain ⟨hP, hD⟩ := qa_tail hP hD
  refine W.cs (Nat.zero_add 1) (Nat.zero_add (n + n / 2)) ?_
  exact W.aret (v := va_rf (some q)) hx hb hr (Or.inr ⟨_, rfl⟩) (va_rf_or _) (fun t9 ht hW => ⟨⟨some q, q, rfl, rfl, by rw [ht]; exact hP, hD⟩, hS.F ht⟩) hS.2.2 dXA_grow_2_44
set_option maxHeartbeats 4000000 in
set_option maxRecDepth 100000 in
/-- ArrayList.grow, where it is full -/
theorem c_grow1 (l : Launch) (g : mt_G) (c0 c1 c2 c3 c4 c5 : Nat × va_E) (al : Nat) (mo : Int32) (LP : List Nat) (nf : Nat → mt_N) (n ae : Nat) (fe : Nat → Option Nat) (hn0 : 10 ≤ n) (hn5 : n < 9000) (hel : ∀ i, i < n → ∃ a, fe i = some a ∧ a ∈ LP) : Met l yXA_grow wsXA_grow ({ frames := 5, cells := 1, slots := n + n / 2, locals := 180 }) (mt_Pc g (c0 :: c1 :: c2 :: c3 :: c4 :: c5 :: ((al, .inr (3, [.int mo, .ref ae, .int (nI n)])) :: (ae, .inl (g.2.2.2 0, n, .inr (.inr (.inr (.inr fe))))) :: va_pl LP (fun a => mt_nE (nf a)))) [.ref al]) (va_Qq (fun r (u : Nat) => r = some u) (fun u t => mt_B g (c0 :: c1 :: c2 :: c3 :: c4 :: c5 :: ((al, .inr (3, [.int mo, .ref u, .int (nI n)])) :: (u, .inl (g.2.2.2 0, (n + n / 2), .inr (.inr (.inr (.inr (va_cpy fe (fun _ => none) 0 0 n)))))) :: va_pl LP (fun a => mt_nE (nf a)))) t) (mt_A g)) (1) (n + n / 2) (mt_A g) := by
  refine Met.ofW (cc := cXA_grow) (maxL := 1) (ret := (some (.array (.object "java/lang/Object")))) (by decide) rfl ?_
  intro p e s m args below meth c s₁ B hml hv
  obtain ⟨rfl, hE, hz, hP, hD⟩ := hv
  have hx := B.exec
  have hb := B.bytes
  have hr := B.returns
  have hts := atoms_spec (ws := wsXA_grow) B.pre
  have hown : s.vm.findClass RXA = some m.cls := findClass_of_methodNamed B.named
  have hlocks := B.notSynchronized
  have hK := hE.k
  have hA : ∀ q : Nat, s.heap.size ≤ q → mt_A g q := fun q h => Nat.le_trans hz h
  have hS : va_S (mt_A g) s.heap s.heap [] := va_S.rf
  have hl := lv_entry ([.ref al]) (n := 1) (Nat.le_of_ble_eq_true rfl)
  rw [lg_entry_eq]
  generalize (lg_sl ([.ref al]) ++ List.replicate (1 - (lg_sl ([.ref al])).length) Slot.unset).toArray = ls at hl ⊢
  have hl : lv_has ls 1 [(0, .ref al)] := hl
  have hH : s.heap = s.heap := rfl
  refine lv_aload_n hx hb dXA_grow_0 rfl (lv_at hl 0 rfl) ?_
  refine lv_aload_n hx hb dXA_grow_1 rfl (lv_at hl 0 rfl) ?_
  refine va_get (D := g.1) (ci := 3) (v := .int (nI n)) (C := RXA) (T := TXA) (N := 3) hx hb hts (fun w h => List.mem_cons_of_mem _ (in_XA w h)) hown hK hP 6 rfl rfl 2 (by decide) (hts _ (List.mem_cons_of_mem _ mw_42)) (fun _ h9 => h9) rfl dXA_grow_2 ?_
  refine lv_iconst (v := 1) hx hb dXA_grow_5 (by decide +kernel) ?_
  refine lv_iadd hx hb dXA_grow_6 ?_
  refine qa_i (y := (nI (n + 1))) (nI_1 n) ?_
  refine va_callq (va_runV (As := [.int (nI (n + 1))]) (rest := []) ⟨hx, hb, hml, hown, hts⟩ (c_growI1 l g c0 c1 c2 c3 c4 c5 al mo LP nf n ae fe hn0 hn5 hel) (cwV 1 hts (mt_giV mw_231 mw_232 mw_469 mw_4 (mt_gi mw_233)) rfl rfl rfl (by decide +kernel) ⟨Nat.le_of_ble_eq_true rfl, Nat.le_of_ble_eq_true rfl⟩) (mt_preV hE hz hS hP hD (va_recv hK hP (q := (RXA, TXA, 3)) (q0 := 6) rfl rfl)) rfl rfl hl.1 rfl (lv_room (Nat.le_of_ble_eq_true rfl)) dXA_grow_7 ⟨by show 0 + 1 ≤ 1; omega, by show 0 + (n + n / 2) ≤ n + n / 2; omega⟩) hS (fun _ _ h9 => h9) (fun _ h9 => h9) (fun r1 u1 t1 H locs ht1 hvm1 hpo1 hB1 hz1 hk1 hS => ?_)
  subst hpo1
  obtain ⟨hP, hD⟩ := hB1
  rw [ht1] at hP
  refine W.cs (Nat.zero_add 1) (Nat.zero_add (n + n / 2)) ?_
  exact W.aret (v := va_rf (some u1)) hx hb hr (Or.inr ⟨_, rfl⟩) (va_rf_or _) (fun t9 ht hW => ⟨⟨some u1, u1, rfl, rfl, by rw [ht]; exact hP, hD⟩, hS.F ht⟩) hS.2.2 dXA_grow_10
end
section
set_option maxHeartbeats 4000000 in
set_option maxRecDepth 100000 in
/-- ArrayList.add, its helper -/
theorem c_add2_0 (l : Launch) (g : mt_G) (c0 c1 c2 c3 c4 c5 : Nat × va_E) (al : Nat) (mo : Int32) (LP : List Nat) (nf : Nat → mt_N) (a : Nat) (ha : a ∈ LP) : Met l yXA_add_2 wsXA_add_2 ({ frames := 7, cells := 1, slots := mt_gr1 0 0, locals := 240 }) (mt_Pc g (c0 :: c1 :: c2 :: c3 :: c4 :: c5 :: ((al, .inr (3, [.int mo, .ref g.2.2.1, .int 0])) :: va_pl LP (fun a => mt_nE (nf a)))) [.ref al, .ref a, .ref g.2.2.1, .int 0]) (va_Qv (fun (LL1 : va_W) => mt_LL g al LP (0 + 1) (mt_cap1 0 0) LL1) (fun LL1 t => mt_B g (mt_LW c0 c1 c2 c3 c4 c5 LL1 LP nf) t) (mt_A g)) (1) (mt_gr1 0 0) (mt_A g) := by
  refine Met.ofW (cc := cXA_add_2) (maxL := 4) (ret := none) (by decide) rfl ?_
  intro p e s m args below meth c s₁ B hml hv
  obtain ⟨rfl, hE, hz, hP, hD⟩ := hv
  have hx := B.exec
  have hb := B.bytes
  have hr := B.returns
  have hts := atoms_spec (ws := wsXA_add_2) B.pre
  have hown : s.vm.findClass RXA = some m.cls := findClass_of_methodNamed B.named
  have hlocks := B.notSynchronized
  have hK := hE.k
  have hA : ∀ q : Nat, s.heap.size ≤ q → mt_A g q := fun q h => Nat.le_trans hz h
  have hS : va_S (mt_A g) s.heap s.heap [] := va_S.rf
  have hl := lv_entry ([.ref al, .ref a, .ref g.2.2.1, .int 0]) (n := 4) (Nat.le_of_ble_eq_true rfl)
  rw [lg_entry_eq]
  generalize (lg_sl ([.ref al, .ref a, .ref g.2.2.1, .int 0]) ++ List.replicate (4 - (lg_sl ([.ref al, .ref a, .ref g.2.2.1, .int 0])).length) Slot.unset).toArray = ls at hl ⊢
  have hl : lv_has ls 4 [(0, .ref al), (1, .ref a), (2, .ref g.2.2.1), (3, .int 0)] := hl
  have hH : s.heap = s.heap := rfl
  obtain ⟨ft, hft⟩ := hE.t
  refine lv_iload_n hx hb dXA_add_2_0 rfl (lv_at hl 3 rfl) ?_
  refine lv_aload_n hx hb dXA_add_2_1 rfl (lv_at hl 2 rfl) ?_
  refine va_tlen (v := 0) hx hb hft hS rfl dXA_add_2_2 ?_
  refine lv_icmp_ne (tgt := 11) hx hb dXA_add_2_3 (by decide) (fun z => absurd rfl z) (fun _ => ?_)
  have e10 : mt_gr1 0 0 = 10 := by decide
  have ec : mt_cap1 0 0 = 10 := by decide
  refine lv_aload_n hx hb dXA_add_2_6 rfl (lv_at hl 0 rfl) ?_
  refine va_callq (va_runV (As := []) (rest := []) ⟨hx, hb, hml, hown, hts⟩ (c_grow0 l g c0 c1 c2 c3 c4 c5 al mo LP nf) (cwV 0 hts (mt_giV mw_228 mw_229 mw_468 mw_4 (mt_gi mw_230)) rfl rfl rfl (by decide +kernel) ⟨Nat.le_of_ble_eq_true rfl, Nat.le_of_ble_eq_true rfl⟩) (mt_preV hE hz hS hP hD (va_recv hK hP (q := (RXA, TXA, 3)) (q0 := 6) rfl rfl)) rfl rfl hl.1 rfl (lv_room (Nat.le_of_ble_eq_true rfl)) dXA_add_2_7 ⟨by show 0 + 1 ≤ 1; omega, by show 0 + 10 ≤ mt_gr1 0 0; omega⟩) hS (fun _ _ h9 => h9) (fun _ h9 => h9) (fun r1 u t1 H locs ht1 hvm1 hpo1 hB1 hz1 hk1 hS => ?_)
  subst hpo1
  obtain ⟨hP, hD⟩ := hB1
  rw [ht1] at hP
  refine lv_astore_n (i := 2) (lv' := [(2, .ref u), (0, .ref al), (1, .ref a), (3, .int 0)]) hx hb dXA_add_2_10 rfl hl (by decide) rfl (fun ls hl => ?_)
  refine lv_aload_n hx hb dXA_add_2_11 rfl (lv_at hl 0 rfl) ?_
  refine lv_iload_n hx hb dXA_add_2_12 rfl (lv_at hl 3 rfl) ?_
  refine lv_aload_n hx hb dXA_add_2_13 rfl (lv_at hl 2 rfl) ?_
  obtain ⟨kp, hkp⟩ := va_pl_get (X := (c0 :: c1 :: c2 :: c3 :: c4 :: c5 :: (al, .inr (3, [.int mo, .ref u, .int 0])) :: (u, .inl (g.2.2.2 0, 10, .inr (.inr (.inr (.inr (fun _ => none)))))) :: [])) (f := fun a => mt_nE (nf a)) ha
  refine va_astqO (D := g.1) (cl := vwCl) (E := "java/lang/Object") (r := (RXN, TXN, 7)) hx hb hK hP hD hS 7 0 kp 0 rfl rfl (hE.w (.castable RXN "java/lang/Object") (by decide +kernel)) hkp rfl (show vp_in 0 10 by unfold vp_in; decide) dXA_add_2_14 (fun H locs hP hD hS => ?_)
  rw [sb_cl0] at hP hD
  have hP : va_P g.1 vwCl (c0 :: c1 :: c2 :: c3 :: c4 :: c5 :: ((al, .inr (3, [.int mo, .ref u, .int 0])) :: (u, .inl (g.2.2.2 0, 10, .inr (.inr (.inr (.inr (va_up (fun _ => none) 0 (some a))))))) :: va_pl LP (fun a => mt_nE (nf a)))) H := hP
  have hD : va_D (mt_A g) (c0 :: c1 :: c2 :: c3 :: c4 :: c5 :: ((al, .inr (3, [.int mo, .ref u, .int 0])) :: (u, .inl (g.2.2.2 0, 10, .inr (.inr (.inr (.inr (va_up (fun _ => none) 0 (some a))))))) :: va_pl LP (fun a => mt_nE (nf a)))) := hD
  refine lv_aload_n hx hb dXA_add_2_15 rfl (lv_at hl 1 rfl) ?_
  refine lv_iload_n hx hb dXA_add_2_16 rfl (lv_at hl 3 rfl) ?_
  refine lv_iconst (v := 1) hx hb dXA_add_2_17 (by decide +kernel) ?_
  refine lv_iadd hx hb dXA_add_2_18 ?_
  refine qa_i (y := (nI (0 + 1))) (by decide) ?_
  refine va_put (D := g.1) (ci := 3) (v := .int (nI (0 + 1))) (ty := .int) (C := RXA) (T := TXA) (N := 3) hx hb hts (fun w h => List.mem_cons_of_mem _ (in_XA w h)) tyXA tyXA_ok nmXA hown hK hP hD hS 6 rfl rfl 2 (by decide) (hts _ (List.mem_cons_of_mem _ mw_42)) (fun _ h9 => h9) rfl (by decide +kernel) rfl rfl (Nat.le_of_ble_eq_true rfl) dXA_add_2_19 (fun H locs hP hD hS => ?_)
  have hP : va_P g.1 vwCl (c0 :: c1 :: c2 :: c3 :: c4 :: c5 :: ((al, .inr (3, [.int mo, .ref u, .int (nI (0 + 1))])) :: (u, .inl (g.2.2.2 0, 10, .inr (.inr (.inr (.inr (va_up (fun _ => none) 0 (some a))))))) :: va_pl LP (fun a => mt_nE (nf a)))) H := hP
  have hD : va_D (mt_A g) (c0 :: c1 :: c2 :: c3 :: c4 :: c5 :: ((al, .inr (3, [.int mo, .ref u, .int (nI (0 + 1))])) :: (u, .inl (g.2.2.2 0, 10, .inr (.inr (.inr (.inr (va_up (fun _ => none) 0 (some a))))))) :: va_pl LP (fun a => mt_nE (nf a)))) := hD
  refine W.widen (k := 1) (n := mt_gr1 0 0) (by omega) (by omega) ?_
  exact W.vret hx hb hr (fun t9 ht hW => ⟨⟨[(al, .inr (3, [.int mo, .ref u, .int (nI (0 + 1))])), (u, .inl (g.2.2.2 0, 10, .inr (.inr (.inr (.inr (va_up (fun _ => none) 0 (some a)))))))], rfl, Or.inr ⟨mo, u, (va_up (fun _ => none) 0 (some a)), by rw [ec], by omega, by omega, fun i hi => ⟨a, by rw [show i = 0 by omega]; exact va_up_self _ _ _, ha⟩⟩, by rw [ht]; exact hP, hD⟩, hS.F ht⟩) hS.2.2 dXA_add_2_22
set_option maxHeartbeats 4000000 in
set_option maxRecDepth 100000 in
/-- ArrayList.add -/
theorem c_add_0 (l : Launch) (g : mt_G) (c0 c1 c2 c3 c4 c5 : Nat × va_E) (al : Nat) (mo : Int32) (LP : List Nat) (nf : Nat → mt_N) (a : Nat) (ha : a ∈ LP) : Met l yXA_add wsXA_add ({ frames := 10, cells := 1, slots := mt_gr1 0 0, locals := 300 }) (mt_Pc g (c0 :: c1 :: c2 :: c3 :: c4 :: c5 :: ((al, .inr (3, [.int mo, .ref g.2.2.1, .int 0])) :: va_pl LP (fun a => mt_nE (nf a)))) [.ref al, .ref a]) (va_Qi (fun r (LL1 : va_W) => r = 1 ∧ mt_LL g al LP (0 + 1) (mt_cap1 0 0) LL1) (fun LL1 t => mt_B g (mt_LW c0 c1 c2 c3 c4 c5 LL1 LP nf) t) (mt_A g)) (1) (mt_gr1 0 0) (mt_A g) := by
  refine Met.ofW (cc := cXA_add) (maxL := 2) (ret := (some .boolean)) (by decide) rfl ?_
  intro p e s m args below meth c s₁ B hml hv
  obtain ⟨rfl, hE, hz, hP, hD⟩ := hv
  have hx := B.exec
  have hb := B.bytes
  have hr := B.returns
  have hts := atoms_spec (ws := wsXA_add) B.pre
  have hown : s.vm.findClass RXA = some m.cls := findClass_of_methodNamed B.named
  have hlocks := B.notSynchronized
  have hK := hE.k
  have hA : ∀ q : Nat, s.heap.size ≤ q → mt_A g q := fun q h => Nat.le_trans hz h
  have hS : va_S (mt_A g) s.heap s.heap [] := va_S.rf
  have hl := lv_entry ([.ref al, .ref a]) (n := 2) (Nat.le_of_ble_eq_true rfl)
  rw [lg_entry_eq]
  generalize (lg_sl ([.ref al, .ref a]) ++ List.replicate (2 - (lg_sl ([.ref al, .ref a])).length) Slot.unset).toArray = ls at hl ⊢
  have hl : lv_has ls 2 [(0, .ref al), (1, .ref a)] := hl
  have hH : s.heap = s.heap := rfl
  refine lv_aload_n hx hb dXA_add_0 rfl (lv_at hl 0 rfl) ?_
  refine lv_dup hx hb dXA_add_1 rfl ?_
  refine va_get (D := g.1) (ci := 3) (v := .int mo) (C := RXA) (T := TXA) (N := 3) hx hb hts (fun w h => List.mem_cons_of_mem _ (in_XA w h)) hown hK hP 6 rfl rfl 0 (by decide) (hts _ (List.mem_cons_of_mem _ mw_44)) (fun x9 h9 => u_same (hts _ (List.mem_cons_of_mem _ mw_45)) x9 h9) rfl dXA_add_2 ?_
  refine lv_iconst (v := 1) hx hb dXA_add_5 (by decide +kernel) ?_
  refine lv_iadd hx hb dXA_add_6 ?_
  refine va_put (D := g.1) (ci := 3) (v := .int (mo + 1)) (ty := .int) (C := RXA) (T := TXA) (N := 3) hx hb hts (fun w h => List.mem_cons_of_mem _ (in_XA w h)) tyXA tyXA_ok nmXA hown hK hP hD hS 6 rfl rfl 0 (by decide) (hts _ (List.mem_cons_of_mem _ mw_44)) (fun x9 h9 => u_same (hts _ (List.mem_cons_of_mem _ mw_45)) x9 h9) rfl (by decide +kernel) rfl rfl (Nat.le_of_ble_eq_true rfl) dXA_add_7 (fun H locs hP hD hS => ?_)
  have hP : va_P g.1 vwCl (c0 :: c1 :: c2 :: c3 :: c4 :: c5 :: ((al, .inr (3, [.int (mo + 1), .ref g.2.2.1, .int 0])) :: va_pl LP (fun a => mt_nE (nf a)))) H := hP
  have hD : va_D (mt_A g) (c0 :: c1 :: c2 :: c3 :: c4 :: c5 :: ((al, .inr (3, [.int (mo + 1), .ref g.2.2.1, .int 0])) :: va_pl LP (fun a => mt_nE (nf a)))) := hD
  refine lv_aload_n hx hb dXA_add_10 rfl (lv_at hl 0 rfl) ?_
  refine lv_aload_n hx hb dXA_add_11 rfl (lv_at hl 1 rfl) ?_
  refine lv_aload_n hx hb dXA_add_12 rfl (lv_at hl 0 rfl) ?_
  refine va_get (D := g.1) (ci := 3) (v := .ref g.2.2.1) (C := RXA) (T := TXA) (N := 3) hx hb hts (fun w h => List.mem_cons_of_mem _ (in_XA w h)) hown hK hP 6 rfl rfl 1 (by decide) (hts _ (List.mem_cons_of_mem _ mw_41)) (fun _ h9 => h9) rfl dXA_add_13 ?_
  refine lv_aload_n hx hb dXA_add_16 rfl (lv_at hl 0 rfl) ?_
  refine va_get (D := g.1) (ci := 3) (v := .int 0) (C := RXA) (T := TXA) (N := 3) hx hb hts (fun w h => List.mem_cons_of_mem _ (in_XA w h)) hown hK hP 6 rfl rfl 2 (by decide) (hts _ (List.mem_cons_of_mem _ mw_42)) (fun _ h9 => h9) rfl dXA_add_17 ?_
  refine va_callv (va_runV (As := [.ref a, .ref g.2.2.1, .int 0]) (rest := []) ⟨hx, hb, hml, hown, hts⟩ (c_add2_0 l g c0 c1 c2 c3 c4 c5 al (mo + 1) LP nf a ha) (cwV 3 hts (mt_giV mw_225 mw_226 mw_467 mw_4 (mt_gi mw_227)) rfl rfl rfl (by decide +kernel) ⟨Nat.le_of_ble_eq_true rfl, Nat.le_of_ble_eq_true rfl⟩) (mt_preV hE hz hS hP hD (va_recv hK hP (q := (RXA, TXA, 3)) (q0 := 6) rfl rfl)) rfl rfl hl.1 rfl (lv_room (Nat.le_of_ble_eq_true rfl)) dXA_add_20 ⟨by show 0 + 1 ≤ 1; omega, by show 0 + mt_gr1 0 0 ≤ mt_gr1 0 0; omega⟩) hS (fun _ _ h9 => h9) (fun _ h9 => h9) (fun LL1 t1 H locs ht1 hvm1 hpo1 hB1 hz1 hk1 hS => ?_)
  obtain ⟨hP, hD⟩ := hB1
  rw [ht1] at hP
  refine lv_iconst (v := 1) hx hb dXA_add_23 (by decide +kernel) ?_
  refine W.cs (Nat.zero_add 1) (Nat.zero_add (mt_gr1 0 0)) ?_
  exact W.zret (v := 1) hx hb hr rfl (fun t9 ht hW => ⟨⟨1, LL1, rfl, ⟨rfl, hpo1⟩, by rw [ht]; exact hP, hD⟩, hS.F ht⟩) hS.2.2 dXA_add_24
set_option maxHeartbeats 4000000 in
set_option maxRecDepth 100000 in
/-- ArrayList.add, its helper -/
theorem c_add2_r (l : Launch) (g : mt_G) (c0 c1 c2 c3 c4 c5 : Nat × va_E) (al : Nat) (mo : Int32) (LP : List Nat) (nf : Nat → mt_N) (a : Nat) (ha : a ∈ LP) (n cap ae : Nat) (fe : Nat → Option Nat) (hnc : n < cap) (hcap : cap < 20000) (hel : ∀ i, i < n → ∃ a, fe i = some a ∧ a ∈ LP) : Met l yXA_add_2 wsXA_add_2 ({ frames := 7, cells := 1, slots := mt_gr1 n cap, locals := 240 }) (mt_Pc g (c0 :: c1 :: c2 :: c3 :: c4 :: c5 :: ((al, .inr (3, [.int mo, .ref ae, .int (nI n)])) :: (ae, .inl (g.2.2.2 0, cap, .inr (.inr (.inr (.inr fe))))) :: va_pl LP (fun a => mt_nE (nf a)))) [.ref al, .ref a, .ref ae, .int (nI n)]) (va_Qv (fun (LL1 : va_W) => mt_LL g al LP (n + 1) (mt_cap1 n cap) LL1) (fun LL1 t => mt_B g (mt_LW c0 c1 c2 c3 c4 c5 LL1 LP nf) t) (mt_A g)) (1) (mt_gr1 n cap) (mt_A g) := by
  refine Met.ofW (cc := cXA_add_2) (maxL := 4) (ret := none) (by decide) rfl ?_
  intro p e s m args below meth c s₁ B hml hv
  obtain ⟨rfl, hE, hz, hP, hD⟩ := hv
  have hx := B.exec
  have hb := B.bytes
  have hr := B.returns
  have hts := atoms_spec (ws := wsXA_add_2) B.pre
  have hown : s.vm.findClass RXA = some m.cls := findClass_of_methodNamed B.named
  have hlocks := B.notSynchronized
  have hK := hE.k
  have hA : ∀ q : Nat, s.heap.size ≤ q → mt_A g q := fun q h => Nat.le_trans hz h
  have hS : va_S (mt_A g) s.heap s.heap [] := va_S.rf
  have hl := lv_entry ([.ref al, .ref a, .ref ae, .int (nI n)]) (n := 4) (Nat.le_of_ble_eq_true rfl)
  rw [lg_entry_eq]
  generalize (lg_sl ([.ref al, .ref a, .ref ae, .int (nI n)]) ++ List.replicate (4 - (lg_sl ([.ref al, .ref a, .ref ae, .int (nI n)])).length) Slot.unset).toArray = ls at hl ⊢
  have hl : lv_has ls 4 [(0, .ref al), (1, .ref a), (2, .ref ae), (3, .int (nI n))] := hl
  have hH : s.heap = s.heap := rfl
  refine lv_iload_n hx hb dXA_add_2_0 rfl (lv_at hl 3 rfl) ?_
  refine lv_aload_n hx hb dXA_add_2_1 rfl (lv_at hl 2 rfl) ?_
  refine va_alen (D := g.1) (cl := vwCl) (ty := .object "java/lang/Object") (v := nI cap) hx hb hK hP 7 0 rfl rfl rfl dXA_add_2_2 ?_
  refine lv_icmp_ne (tgt := 11) hx hb dXA_add_2_3 (by decide) (fun _ => ?_) (fun z => absurd z (fun e9 => absurd ((nI_eq (by omega) (by omega)).mp e9) (by omega)))
  have ec : mt_cap1 n cap = cap := if_pos hnc
  refine lv_aload_n hx hb dXA_add_2_11 rfl (lv_at hl 2 rfl) ?_
  refine lv_iload_n hx hb dXA_add_2_12 rfl (lv_at hl 3 rfl) ?_
  refine lv_aload_n hx hb dXA_add_2_13 rfl (lv_at hl 1 rfl) ?_
  obtain ⟨kp, hkp⟩ := va_pl_get (X := (c0 :: c1 :: c2 :: c3 :: c4 :: c5 :: (al, .inr (3, [.int mo, .ref ae, .int (nI n)])) :: (ae, .inl (g.2.2.2 0, cap, .inr (.inr (.inr (.inr fe))))) :: [])) (f := fun a => mt_nE (nf a)) ha
  refine va_astqO (D := g.1) (cl := vwCl) (E := "java/lang/Object") (r := (RXN, TXN, 7)) hx hb hK hP hD hS 7 0 kp 0 rfl rfl (hE.w (.castable RXN "java/lang/Object") (by decide +kernel)) hkp rfl (vp_in_nI (n := n) (by omega) (by omega)) dXA_add_2_14 (fun H locs hP hD hS => ?_)
  rw [nI_clamp (by omega)] at hP hD
  have hP : va_P g.1 vwCl (c0 :: c1 :: c2 :: c3 :: c4 :: c5 :: ((al, .inr (3, [.int mo, .ref ae, .int (nI n)])) :: (ae, .inl (g.2.2.2 0, cap, .inr (.inr (.inr (.inr (va_up (fe) n (some a))))))) :: va_pl LP (fun a => mt_nE (nf a)))) H := hP
  have hD : va_D (mt_A g) (c0 :: c1 :: c2 :: c3 :: c4 :: c5 :: ((al, .inr (3, [.int mo, .ref ae, .int (nI n)])) :: (ae, .inl (g.2.2.2 0, cap, .inr (.inr (.inr (.inr (va_up (fe) n (some a))))))) :: va_pl LP (fun a => mt_nE (nf a)))) := hD
  refine lv_aload_n hx hb dXA_add_2_15 rfl (lv_at hl 0 rfl) ?_
  refine lv_iload_n hx hb dXA_add_2_16 rfl (lv_at hl 3 rfl) ?_
  refine lv_iconst (v := 1) hx hb dXA_add_2_17 (by decide +kernel) ?_
  refine lv_iadd hx hb dXA_add_2_18 ?_
  refine qa_i (y := (nI (n + 1))) (nI_1 n) ?_
  refine va_put (D := g.1) (ci := 3) (v := .int (nI (n + 1))) (ty := .int) (C := RXA) (T := TXA) (N := 3) hx hb hts (fun w h => List.mem_cons_of_mem _ (in_XA w h)) tyXA tyXA_ok nmXA hown hK hP hD hS 6 rfl rfl 2 (by decide) (hts _ (List.mem_cons_of_mem _ mw_42)) (fun _ h9 => h9) rfl (by decide +kernel) rfl rfl (Nat.le_of_ble_eq_true rfl) dXA_add_2_19 (fun H locs hP hD hS => ?_)
  have hP : va_P g.1 vwCl (c0 :: c1 :: c2 :: c3 :: c4 :: c5 :: ((al, .inr (3, [.int mo, .ref ae, .int (nI (n + 1))])) :: (ae, .inl (g.2.2.2 0, cap, .inr (.inr (.inr (.inr (va_up (fe) n (some a))))))) :: va_pl LP (fun a => mt_nE (nf a)))) H := hP
  have hD : va_D (mt_A g) (c0 :: c1 :: c2 :: c3 :: c4 :: c5 :: ((al, .inr (3, [.int mo, .ref ae, .int (nI (n + 1))])) :: (ae, .inl (g.2.2.2 0, cap, .inr (.inr (.inr (.inr (va_up (fe) n (some a))))))) :: va_pl LP (fun a => mt_nE (nf a)))) := hD
  refine W.widen (k := 1) (n := mt_gr1 n cap) (by omega) (by omega) ?_
  exact W.vret hx hb hr (fun t9 ht hW => ⟨⟨[(al, .inr (3, [.int mo, .ref ae, .int (nI (n + 1))])), (ae, .inl (g.2.2.2 0, cap, .inr (.inr (.inr (.inr (va_up (fe) n (some a)))))))], rfl, Or.inr ⟨mo, ae, (va_up (fe) n (some a)), by rw [ec], by omega, by omega, fun i hi => by by_cases e9 : i = n; (subst e9; exact ⟨a, va_up_self _ _ _, ha⟩); (rw [va_up_ne _ _ e9]; exact (hel i (by omega)))⟩, by rw [ht]; exact hP, hD⟩, hS.F ht⟩) hS.2.2 dXA_add_2_22
set_option maxHeartbeats 4000000 in
set_option maxRecDepth 100000 in
/-- ArrayList.add -/
theorem c_add_r (l : Launch) (g : mt_G) (c0 c1 c2 c3 c4 c5 : Nat × va_E) (al : Nat) (mo : Int32) (LP : List Nat) (nf : Nat → mt_N) (a : Nat) (ha : a ∈ LP) (n cap ae : Nat) (fe : Nat → Option Nat) (hnc : n < cap) (hcap : cap < 20000) (hel : ∀ i, i < n → ∃ a, fe i = some a ∧ a ∈ LP) : Met l yXA_add wsXA_add ({ frames := 10, cells := 1, slots := mt_gr1 n cap, locals := 300 }) (mt_Pc g (c0 :: c1 :: c2 :: c3 :: c4 :: c5 :: ((al, .inr (3, [.int mo, .ref ae, .int (nI n)])) :: (ae, .inl (g.2.2.2 0, cap, .inr (.inr (.inr (.inr fe))))) :: va_pl LP (fun a => mt_nE (nf a)))) [.ref al, .ref a]) (va_Qi (fun r (LL1 : va_W) => r = 1 ∧ mt_LL g al LP (n + 1) (mt_cap1 n cap) LL1) (fun LL1 t => mt_B g (mt_LW c0 c1 c2 c3 c4 c5 LL1 LP nf) t) (mt_A g)) (1) (mt_gr1 n cap) (mt_A g) := by
  refine Met.ofW (cc := cXA_add) (maxL := 2) (ret := (some .boolean)) (by decide) rfl ?_
  intro p e s m args below meth c s₁ B hml hv
  obtain ⟨rfl, hE, hz, hP, hD⟩ := hv
  have hx := B.exec
  have hb := B.bytes
  have hr := B.returns
  have hts := atoms_spec (ws := wsXA_add) B.pre
  have hown : s.vm.findClass RXA = some m.cls := findClass_of_methodNamed B.named
  have hlocks := B.notSynchronized
  have hK := hE.k
  have hA : ∀ q : Nat, s.heap.size ≤ q → mt_A g q := fun q h => Nat.le_trans hz h
  have hS : va_S (mt_A g) s.heap s.heap [] := va_S.rf
  have hl := lv_entry ([.ref al, .ref a]) (n := 2) (Nat.le_of_ble_eq_true rfl)
  rw [lg_entry_eq]
  generalize (lg_sl ([.ref al, .ref a]) ++ List.replicate (2 - (lg_sl ([.ref al, .ref a])).length) Slot.unset).toArray = ls at hl ⊢
  have hl : lv_has ls 2 [(0, .ref al), (1, .ref a)] := hl
  have hH : s.heap = s.heap := rfl
  refine lv_aload_n hx hb dXA_add_0 rfl (lv_at hl 0 rfl) ?_
  refine lv_dup hx hb dXA_add_1 rfl ?_
  refine va_get (D := g.1) (ci := 3) (v := .int mo) (C := RXA) (T := TXA) (N := 3) hx hb hts (fun w h => List.mem_cons_of_mem _ (in_XA w h)) hown hK hP 6 rfl rfl 0 (by decide) (hts _ (List.mem_cons_of_mem _ mw_44)) (fun x9 h9 => u_same (hts _ (List.mem_cons_of_mem _ mw_45)) x9 h9) rfl dXA_add_2 ?_
  refine lv_iconst (v := 1) hx hb dXA_add_5 (by decide +kernel) ?_
  refine lv_iadd hx hb dXA_add_6 ?_
  refine va_put (D := g.1) (ci := 3) (v := .int (mo + 1)) (ty := .int) (C := RXA) (T := TXA) (N := 3) hx hb hts (fun w h => List.mem_cons_of_mem _ (in_XA w h)) tyXA tyXA_ok nmXA hown hK hP hD hS 6 rfl rfl 0 (by decide) (hts _ (List.mem_cons_of_mem _ mw_44)) (fun x9 h9 => u_same (hts _ (List.mem_cons_of_mem _ mw_45)) x9 h9) rfl (by decide +kernel) rfl rfl (Nat.le_of_ble_eq_true rfl) dXA_add_7 (fun H locs hP hD hS => ?_)
  have hP : va_P g.1 vwCl (c0 :: c1 :: c2 :: c3 :: c4 :: c5 :: ((al, .inr (3, [.int (mo + 1), .ref ae, .int (nI n)])) :: (ae, .inl (g.2.2.2 0, cap, .inr (.inr (.inr (.inr fe))))) :: va_pl LP (fun a => mt_nE (nf a)))) H := hP
  have hD : va_D (mt_A g) (c0 :: c1 :: c2 :: c3 :: c4 :: c5 :: ((al, .inr (3, [.int (mo + 1), .ref ae, .int (nI n)])) :: (ae, .inl (g.2.2.2 0, cap, .inr (.inr (.inr (.inr fe))))) :: va_pl LP (fun a => mt_nE (nf a)))) := hD
  refine lv_aload_n hx hb dXA_add_10 rfl (lv_at hl 0 rfl) ?_
  refine lv_aload_n hx hb dXA_add_11 rfl (lv_at hl 1 rfl) ?_
  refine lv_aload_n hx hb dXA_add_12 rfl (lv_at hl 0 rfl) ?_
  refine va_get (D := g.1) (ci := 3) (v := .ref ae) (C := RXA) (T := TXA) (N := 3) hx hb hts (fun w h => List.mem_cons_of_mem _ (in_XA w h)) hown hK hP 6 rfl rfl 1 (by decide) (hts _ (List.mem_cons_of_mem _ mw_41)) (fun _ h9 => h9) rfl dXA_add_13 ?_
  refine lv_aload_n hx hb dXA_add_16 rfl (lv_at hl 0 rfl) ?_
  refine va_get (D := g.1) (ci := 3) (v := .int (nI n)) (C := RXA) (T := TXA) (N := 3) hx hb hts (fun w h => List.mem_cons_of_mem _ (in_XA w h)) hown hK hP 6 rfl rfl 2 (by decide) (hts _ (List.mem_cons_of_mem _ mw_42)) (fun _ h9 => h9) rfl dXA_add_17 ?_
  refine va_callv (va_runV (As := [.ref a, .ref ae, .int (nI n)]) (rest := []) ⟨hx, hb, hml, hown, hts⟩ (c_add2_r l g c0 c1 c2 c3 c4 c5 al (mo + 1) LP nf a ha n cap ae fe hnc hcap hel) (cwV 3 hts (mt_giV mw_225 mw_226 mw_467 mw_4 (mt_gi mw_227)) rfl rfl rfl (by decide +kernel) ⟨Nat.le_of_ble_eq_true rfl, Nat.le_of_ble_eq_true rfl⟩) (mt_preV hE hz hS hP hD (va_recv hK hP (q := (RXA, TXA, 3)) (q0 := 6) rfl rfl)) rfl rfl hl.1 rfl (lv_room (Nat.le_of_ble_eq_true rfl)) dXA_add_20 ⟨by show 0 + 1 ≤ 1; omega, by show 0 + mt_gr1 n cap ≤ mt_gr1 n cap; omega⟩) hS (fun _ _ h9 => h9) (fun _ h9 => h9) (fun LL1 t1 H locs ht1 hvm1 hpo1 hB1 hz1 hk1 hS => ?_)
  obtain ⟨hP, hD⟩ := hB1
  rw [ht1] at hP
  refine lv_iconst (v := 1) hx hb dXA_add_23 (by decide +kernel) ?_
  refine W.cs (Nat.zero_add 1) (Nat.zero_add (mt_gr1 n cap)) ?_
  exact W.zret (v := 1) hx hb hr rfl (fun t9 ht hW => ⟨⟨1, LL1, rfl, ⟨rfl, hpo1⟩, by rw [ht]; exact hP, hD⟩, hS.F ht⟩) hS.2.2 dXA_add_24
set_option maxHeartbeats 4000000 in
set_option maxRecDepth 100000 in
/-- ArrayList.add, its helper -/
theorem c_add2_f (l : Launch) (g : mt_G) (c0 c1 c2 c3 c4 c5 : Nat × va_E) (al : Nat) (mo : Int32) (LP : List Nat) (nf : Nat → mt_N) (a : Nat) (ha : a ∈ LP) (n ae : Nat) (fe : Nat → Option Nat) (hn0 : 10 ≤ n) (hn5 : n < 9000) (hel : ∀ i, i < n → ∃ a, fe i = some a ∧ a ∈ LP) : Met l yXA_add_2 wsXA_add_2 ({ frames := 7, cells := 1, slots := mt_gr1 n n, locals := 240 }) (mt_Pc g (c0 :: c1 :: c2 :: c3 :: c4 :: c5 :: ((al, .inr (3, [.int mo, .ref ae, .int (nI n)])) :: (ae, .inl (g.2.2.2 0, n, .inr (.inr (.inr (.inr fe))))) :: va_pl LP (fun a => mt_nE (nf a)))) [.ref al, .ref a, .ref ae, .int (nI n)]) (va_Qv (fun (LL1 : va_W) => mt_LL g al LP (n + 1) (mt_cap1 n n) LL1) (fun LL1 t => mt_B g (mt_LW c0 c1 c2 c3 c4 c5 LL1 LP nf) t) (mt_A g)) (1) (mt_gr1 n n) (mt_A g) := by
  refine Met.ofW (cc := cXA_add_2) (maxL := 4) (ret := none) (by decide) rfl ?_
  intro p e s m args below meth c s₁ B hml hv
  obtain ⟨rfl, hE, hz, hP, hD⟩ := hv
  have hx := B.exec
  have hb := B.bytes
  have hr := B.returns
  have hts := atoms_spec (ws := wsXA_add_2) B.pre
  have hown : s.vm.findClass RXA = some m.cls := findClass_of_methodNamed B.named
  have hlocks := B.notSynchronized
  have hK := hE.k
  have hA : ∀ q : Nat, s.heap.size ≤ q → mt_A g q := fun q h => Nat.le_trans hz h
  have hS : va_S (mt_A g) s.heap s.heap [] := va_S.rf
  have hl := lv_entry ([.ref al, .ref a, .ref ae, .int (nI n)]) (n := 4) (Nat.le_of_ble_eq_true rfl)
  rw [lg_entry_eq]
  generalize (lg_sl ([.ref al, .ref a, .ref ae, .int (nI n)]) ++ List.replicate (4 - (lg_sl ([.ref al, .ref a, .ref ae, .int (nI n)])).length) Slot.unset).toArray = ls at hl ⊢
  have hl : lv_has ls 4 [(0, .ref al), (1, .ref a), (2, .ref ae), (3, .int (nI n))] := hl
  have hH : s.heap = s.heap := rfl
  refine lv_iload_n hx hb dXA_add_2_0 rfl (lv_at hl 3 rfl) ?_
  refine lv_aload_n hx hb dXA_add_2_1 rfl (lv_at hl 2 rfl) ?_
  refine va_alen (D := g.1) (cl := vwCl) (ty := .object "java/lang/Object") (v := nI n) hx hb hK hP 7 0 rfl rfl rfl dXA_add_2_2 ?_
  refine lv_icmp_ne (tgt := 11) hx hb dXA_add_2_3 (by decide) (fun z => absurd rfl z) (fun _ => ?_)
  have ec : mt_cap1 n n = n + n / 2 := by unfold mt_cap1; rw [if_neg (Nat.lt_irrefl n), if_neg (by omega)]
  have e10 : mt_gr1 n n = n + n / 2 := by unfold mt_gr1; rw [if_neg (Nat.lt_irrefl n)]; exact ec
  refine lv_aload_n hx hb dXA_add_2_6 rfl (lv_at hl 0 rfl) ?_
  refine va_callq (va_runV (As := []) (rest := []) ⟨hx, hb, hml, hown, hts⟩ (c_grow1 l g c0 c1 c2 c3 c4 c5 al mo LP nf n ae fe hn0 (by omega) hel) (cwV 0 hts (mt_giV mw_228 mw_229 mw_468 mw_4 (mt_gi mw_230)) rfl rfl rfl (by decide +kernel) ⟨Nat.le_of_ble_eq_true rfl, Nat.le_of_ble_eq_true rfl⟩) (mt_preV hE hz hS hP hD (va_recv hK hP (q := (RXA, TXA, 3)) (q0 := 6) rfl rfl)) rfl rfl hl.1 rfl (lv_room (Nat.le_of_ble_eq_true rfl)) dXA_add_2_7 ⟨by show 0 + 1 ≤ 1; omega, by show 0 + (n + n / 2) ≤ mt_gr1 n n; omega⟩) hS (fun _ _ h9 => h9) (fun _ h9 => h9) (fun r1 u t1 H locs ht1 hvm1 hpo1 hB1 hz1 hk1 hS => ?_)
  subst hpo1
  obtain ⟨hP, hD⟩ := hB1
  rw [ht1] at hP
  refine lv_astore_n (i := 2) (lv' := [(2, .ref u), (0, .ref al), (1, .ref a), (3, .int (nI n))]) hx hb dXA_add_2_10 rfl hl (by decide) rfl (fun ls hl => ?_)
  refine lv_aload_n hx hb dXA_add_2_11 rfl (lv_at hl 0 rfl) ?_
  refine lv_iload_n hx hb dXA_add_2_12 rfl (lv_at hl 3 rfl) ?_
  refine lv_aload_n hx hb dXA_add_2_13 rfl (lv_at hl 2 rfl) ?_
  obtain ⟨kp, hkp⟩ := va_pl_get (X := (c0 :: c1 :: c2 :: c3 :: c4 :: c5 :: (al, .inr (3, [.int mo, .ref u, .int (nI n)])) :: (u, .inl (g.2.2.2 0, (n + n / 2), .inr (.inr (.inr (.inr (va_cpy fe (fun _ => none) 0 0 n)))))) :: [])) (f := fun a => mt_nE (nf a)) ha
  refine va_astqO (D := g.1) (cl := vwCl) (E := "java/lang/Object") (r := (RXN, TXN, 7)) hx hb hK hP hD hS 7 0 kp 0 rfl rfl (hE.w (.castable RXN "java/lang/Object") (by decide +kernel)) hkp rfl (vp_in_nI (n := n) (by omega) (by omega)) dXA_add_2_14 (fun H locs hP hD hS => ?_)
  rw [nI_clamp (by omega)] at hP hD
  have hP : va_P g.1 vwCl (c0 :: c1 :: c2 :: c3 :: c4 :: c5 :: ((al, .inr (3, [.int mo, .ref u, .int (nI n)])) :: (u, .inl (g.2.2.2 0, (n + n / 2), .inr (.inr (.inr (.inr (va_up (va_cpy fe (fun _ => none) 0 0 n) n (some a))))))) :: va_pl LP (fun a => mt_nE (nf a)))) H := hP
  have hD : va_D (mt_A g) (c0 :: c1 :: c2 :: c3 :: c4 :: c5 :: ((al, .inr (3, [.int mo, .ref u, .int (nI n)])) :: (u, .inl (g.2.2.2 0, (n + n / 2), .inr (.inr (.inr (.inr (va_up (va_cpy fe (fun _ => none) 0 0 n) n (some a))))))) :: va_pl LP (fun a => mt_nE (nf a)))) := hD
  refine lv_aload_n hx hb dXA_add_2_15 rfl (lv_at hl 1 rfl) ?_
  refine lv_iload_n hx hb dXA_add_2_16 rfl (lv_at hl 3 rfl) ?_
  refine lv_iconst (v := 1) hx hb dXA_add_2_17 (by decide +kernel) ?_
  refine lv_iadd hx hb dXA_add_2_18 ?_
  refine qa_i (y := (nI (n + 1))) (nI_1 n) ?_
  refine va_put (D := g.1) (ci := 3) (v := .int (nI (n + 1))) (ty := .int) (C := RXA) (T := TXA) (N := 3) hx hb hts (fun w h => List.mem_cons_of_mem _ (in_XA w h)) tyXA tyXA_ok nmXA hown hK hP hD hS 6 rfl rfl 2 (by decide) (hts _ (List.mem_cons_of_mem _ mw_42)) (fun _ h9 => h9) rfl (by decide +kernel) rfl rfl (Nat.le_of_ble_eq_true rfl) dXA_add_2_19 (fun H locs hP hD hS => ?_)
  have hP : va_P g.1 vwCl (c0 :: c1 :: c2 :: c3 :: c4 :: c5 :: ((al, .inr (3, [.int mo, .ref u, .int (nI (n + 1))])) :: (u, .inl (g.2.2.2 0, (n + n / 2), .inr (.inr (.inr (.inr (va_up (va_cpy fe (fun _ => none) 0 0 n) n (some a))))))) :: va_pl LP (fun a => mt_nE (nf a)))) H := hP
  have hD : va_D (mt_A g) (c0 :: c1 :: c2 :: c3 :: c4 :: c5 :: ((al, .inr (3, [.int mo, .ref u, .int (nI (n + 1))])) :: (u, .inl (g.2.2.2 0, (n + n / 2), .inr (.inr (.inr (.inr (va_up (va_cpy fe (fun _ => none) 0 0 n) n (some a))))))) :: va_pl LP (fun a => mt_nE (nf a)))) := hD
  refine W.widen (k := 1) (n := mt_gr1 n n) (by omega) (by omega) ?_
  exact W.vret hx hb hr (fun t9 ht hW => ⟨⟨[(al, .inr (3, [.int mo, .ref u, .int (nI (n + 1))])), (u, .inl (g.2.2.2 0, (n + n / 2), .inr (.inr (.inr (.inr (va_up (va_cpy fe (fun _ => none) 0 0 n) n (some a)))))))], rfl, Or.inr ⟨mo, u, (va_up (va_cpy fe (fun _ => none) 0 0 n) n (some a)), by rw [ec], by omega, by omega, fun i hi => by by_cases e9 : i = n; (subst e9; exact ⟨a, va_up_self _ _ _, ha⟩); (rw [va_up_ne _ _ e9]; exact (by rw [pk_cpy_in (by omega) (by omega), Nat.zero_add, Nat.sub_zero]; exact hel i (by omega)))⟩, by rw [ht]; exact hP, hD⟩, hS.F ht⟩) hS.2.2 dXA_add_2_22
set_option maxHeartbeats 4000000 in
set_option maxRecDepth 100000 in
/-- ArrayList.add -/
theorem c_add_f (l : Launch) (g : mt_G) (c0 c1 c2 c3 c4 c5 : Nat × va_E) (al : Nat) (mo : Int32) (LP : List Nat) (nf : Nat → mt_N) (a : Nat) (ha : a ∈ LP) (n ae : Nat) (fe : Nat → Option Nat) (hn0 : 10 ≤ n) (hn5 : n < 9000) (hel : ∀ i, i < n → ∃ a, fe i = some a ∧ a ∈ LP) : Met l yXA_add wsXA_add ({ frames := 10, cells := 1, slots := mt_gr1 n n, locals := 300 }) (mt_Pc g (c0 :: c1 :: c2 :: c3 :: c4 :: c5 :: ((al, .inr (3, [.int mo, .ref ae, .int (nI n)])) :: (ae, .inl (g.2.2.2 0, n, .inr (.inr (.inr (.inr fe))))) :: va_pl LP (fun a => mt_nE (nf a)))) [.ref al, .ref a]) (va_Qi (fun r (LL1 : va_W) => r = 1 ∧ mt_LL g al LP (n + 1) (mt_cap1 n n) LL1) (fun LL1 t => mt_B g (mt_LW c0 c1 c2 c3 c4 c5 LL1 LP nf) t) (mt_A g)) (1) (mt_gr1 n n) (mt_A g) := by
  refine Met.ofW (cc := cXA_add) (maxL := 2) (ret := (some .boolean)) (by decide) rfl ?_
  intro p e s m args below meth c s₁ B hml hv
  obtain ⟨rfl, hE, hz, hP, hD⟩ := hv
  have hx := B.exec
  have hb := B.bytes
  have hr := B.returns
  have hts := atoms_spec (ws := wsXA_add) B.pre
  have hown : s.vm.findClass RXA = some m.cls := findClass_of_methodNamed B.named
  have hlocks := B.notSynchronized
  have hK := hE.k
  have hA : ∀ q : Nat, s.heap.size ≤ q → mt_A g q := fun q h => Nat.le_trans hz h
  have hS : va_S (mt_A g) s.heap s.heap [] := va_S.rf
  have hl := lv_entry ([.ref al, .ref a]) (n := 2) (Nat.le_of_ble_eq_true rfl)
  rw [lg_entry_eq]
  generalize (lg_sl ([.ref al, .ref a]) ++ List.replicate (2 - (lg_sl ([.ref al, .ref a])).length) Slot.unset).toArray = ls at hl ⊢
  have hl : lv_has ls 2 [(0, .ref al), (1, .ref a)] := hl
  have hH : s.heap = s.heap := rfl
  refine lv_aload_n hx hb dXA_add_0 rfl (lv_at hl 0 rfl) ?_
  refine lv_dup hx hb dXA_add_1 rfl ?_
  refine va_get (D := g.1) (ci := 3) (v := .int mo) (C := RXA) (T := TXA) (N := 3) hx hb hts (fun w h => List.mem_cons_of_mem _ (in_XA w h)) hown hK hP 6 rfl rfl 0 (by decide) (hts _ (List.mem_cons_of_mem _ mw_44)) (fun x9 h9 => u_same (hts _ (List.mem_cons_of_mem _ mw_45)) x9 h9) rfl dXA_add_2 ?_
  refine lv_iconst (v := 1) hx hb dXA_add_5 (by decide +kernel) ?_
  refine lv_iadd hx hb dXA_add_6 ?_
  refine va_put (D := g.1) (ci := 3) (v := .int (mo + 1)) (ty := .int) (C := RXA) (T := TXA) (N := 3) hx hb hts (fun w h => List.mem_cons_of_mem _ (in_XA w h)) tyXA tyXA_ok nmXA hown hK hP hD hS 6 rfl rfl 0 (by decide) (hts _ (List.mem_cons_of_mem _ mw_44)) (fun x9 h9 => u_same (hts _ (List.mem_cons_of_mem _ mw_45)) x9 h9) rfl (by decide +kernel) rfl rfl (Nat.le_of_ble_eq_true rfl) dXA_add_7 (fun H locs hP hD hS => ?_)
  have hP : va_P g.1 vwCl (c0 :: c1 :: c2 :: c3 :: c4 :: c5 :: ((al, .inr (3, [.int (mo + 1), .ref ae, .int (nI n)])) :: (ae, .inl (g.2.2.2 0, n, .inr (.inr (.inr (.inr fe))))) :: va_pl LP (fun a => mt_nE (nf a)))) H := hP
  have hD : va_D (mt_A g) (c0 :: c1 :: c2 :: c3 :: c4 :: c5 :: ((al, .inr (3, [.int (mo + 1), .ref ae, .int (nI n)])) :: (ae, .inl (g.2.2.2 0, n, .inr (.inr (.inr (.inr fe))))) :: va_pl LP (fun a => mt_nE (nf a)))) := hD
  refine lv_aload_n hx hb dXA_add_10 rfl (lv_at hl 0 rfl) ?_
  refine lv_aload_n hx hb dXA_add_11 rfl (lv_at hl 1 rfl) ?_
  refine lv_aload_n hx hb dXA_add_12 rfl (lv_at hl 0 rfl) ?_
  refine va_get (D := g.1) (ci := 3) (v := .ref ae) (C := RXA) (T := TXA) (N := 3) hx hb hts (fun w h => List.mem_cons_of_mem _ (in_XA w h)) hown hK hP 6 rfl rfl 1 (by decide) (hts _ (List.mem_cons_of_mem _ mw_41)) (fun _ h9 => h9) rfl dXA_add_13 ?_
  refine lv_aload_n hx hb dXA_add_16 rfl (lv_at hl 0 rfl) ?_
  refine va_get (D := g.1) (ci := 3) (v := .int (nI n)) (C := RXA) (T := TXA) (N := 3) hx hb hts (fun w h => List.mem_cons_of_mem _ (in_XA w h)) hown hK hP 6 rfl rfl 2 (by decide) (hts _ (List.mem_cons_of_mem _ mw_42)) (fun _ h9 => h9) rfl dXA_add_17 ?_
  refine va_callv (va_runV (As := [.ref a, .ref ae, .int (nI n)]) (rest := []) ⟨hx, hb, hml, hown, hts⟩ (c_add2_f l g c0 c1 c2 c3 c4 c5 al (mo + 1) LP nf a ha n ae fe hn0 hn5 hel) (cwV 3 hts (mt_giV mw_225 mw_226 mw_467 mw_4 (mt_gi mw_227)) rfl rfl rfl (by decide +kernel) ⟨Nat.le_of_ble_eq_true rfl, Nat.le_of_ble_eq_true rfl⟩) (mt_preV hE hz hS hP hD (va_recv hK hP (q := (RXA, TXA, 3)) (q0 := 6) rfl rfl)) rfl rfl hl.1 rfl (lv_room (Nat.le_of_ble_eq_true rfl)) dXA_add_20 ⟨by show 0 + 1 ≤ 1; omega, by show 0 + mt_gr1 n n ≤ mt_gr1 n n; omega⟩) hS (fun _ _ h9 => h9) (fun _ h9 => h9) (fun LL1 t1 H locs ht1 hvm1 hpo1 hB1 hz1 hk1 hS => ?_)
  obtain ⟨hP, hD⟩ := hB1
  rw [ht1] at hP
  refine lv_iconst (v := 1) hx hb dXA_add_23 (by decide +kernel) ?_
  refine W.cs (Nat.zero_add 1) (Nat.zero_add (mt_gr1 n n)) ?_
  exact W.zret (v := 1) hx hb hr rfl (fun t9 ht hW => ⟨⟨1, LL1, rfl, ⟨rfl, hpo1⟩, by rw [ht]; exact hP, hD⟩, hS.F ht⟩) hS.2.2 dXA_add_24
theorem c_add (l : Launch) (g : mt_G) (c0 c1 c2 c3 c4 c5 : Nat × va_E) (al n cap : Nat) (LL : va_W) (LP : List Nat) (nf : Nat → mt_N) (hLL : mt_LL g al LP n cap LL) (hlc : mt_lc n cap) (hn5 : n < 5000) (a : Nat) (ha : a ∈ LP) : Met l yXA_add wsXA_add ({ frames := 10, cells := 1, slots := mt_gr1 n cap, locals := 300 }) (mt_Pc g (mt_LW c0 c1 c2 c3 c4 c5 LL LP nf) [.ref al, .ref a]) (va_Qi (fun r (LL1 : va_W) => r = 1 ∧ mt_LL g al LP (n + 1) (mt_cap1 n cap) LL1) (fun LL1 t => mt_B g (mt_LW c0 c1 c2 c3 c4 c5 LL1 LP nf) t) (mt_A g)) 1 (mt_gr1 n cap) (mt_A g) := by
  have hmx := mt_lc_max hlc
  rcases hLL with ⟨rfl, rfl, mo, rfl⟩ | ⟨mo, ae, fe, rfl, hcap, hnc, hel⟩
  · exact c_add_0 l g c0 c1 c2 c3 c4 c5 al mo LP nf a ha
  · by_cases hlt : n < cap
    · exact c_add_r l g c0 c1 c2 c3 c4 c5 al mo LP nf a ha n cap ae fe hlt (by omega) hel
    · have e : cap = n := by omega
      subst e
      have h10 : 10 ≤ cap := by
        unfold mt_lc at hlc
        omega
      exact c_add_f l g c0 c1 c2 c3 c4 c5 al mo LP nf a ha cap ae fe h10 (by omega) hel
end
section
set_option maxHeartbeats 4000000 in
set_option maxRecDepth 100000 in
/-- meld at height 0 -/
theorem c_meld0 (l : Launch) (g : mt_G) (c0 c1 c2 c3 c4 c5 : Nat × va_E) (al n cap : Nat) (LL : va_W) (LP : List Nat) (nf : Nat → mt_N) (hLL : mt_LL g al LP n cap LL) (hlc : mt_lc n cap) (hn5 : n < 4980) (hok : ∀ a, a ∈ LP → mt_ok LP nf a) (k : Nat) (hk : k < 256) (lf : Option Nat) (t tv tw : mt_T) (v w : Option Nat) (hv0 : mt_rep LP nf tv 0 (k / 2 ^ 0 * 2 ^ 0) v) (hw0 : mt_rep LP nf tw 0 (k / 2 ^ 0 * 2 ^ 0) w) (hlo : ∀ j, k / 2 ^ 0 * 2 ^ 0 ≤ j → j < k → t j = tv j) (hhi : ∀ j, k < j → j < k / 2 ^ 0 * 2 ^ 0 + 2 ^ 0 → t j = tw j) (hlf : mt_rep LP nf t 0 k lf) : Met l yXT_meld wsXT_meld ({ frames := 0 + 12, cells := 2 * mt_na t k 0, slots := 7 * mt_na t k 0 + mt_gr n cap (mt_na t k 0), locals := 28 * 0 + 400 }) (mt_Pc g (mt_LW c0 c1 c2 c3 c4 c5 LL LP nf) [va_rf v, va_rf w, .int (nI 0), .int (nI k), va_rf lf, .ref al]) (va_Qq (fun r (q : va_W × List Nat × (Nat → mt_N)) => mt_LL g al q.2.1 (n + mt_na t k 0) (mt_cap n cap (mt_na t k 0)) q.1 ∧ (∀ a, a ∈ LP → a ∈ q.2.1 ∧ q.2.2 a = nf a) ∧ (∀ a, a ∈ q.2.1 → mt_ok q.2.1 q.2.2 a) ∧ mt_rep q.2.1 q.2.2 t 0 (k / 2 ^ 0 * 2 ^ 0) r) (fun q t => mt_B g (mt_LW c0 c1 c2 c3 c4 c5 q.1 q.2.1 q.2.2) t) (mt_A g)) (2 * mt_na t k 0) (7 * mt_na t k 0 + mt_gr n cap (mt_na t k 0)) (mt_A g) := by
  refine Met.ofW (cc := cXT_meld) (maxL := 9) (ret := (some (.object "MeldTree$Node"))) (by decide) rfl ?_
  intro p e s m args below meth c s₁ B hml hv
  obtain ⟨rfl, hE, hz, hP, hD⟩ := hv
  have hx := B.exec
  have hb := B.bytes
  have hr := B.returns
  have hts := atoms_spec (ws := wsXT_meld) B.pre
  have hown : s.vm.findClass RXT = some m.cls := findClass_of_methodNamed B.named
  have hlocks := B.notSynchronized
  have hK := hE.k
  have hA : ∀ q : Nat, s.heap.size ≤ q → mt_A g q := fun q h => Nat.le_trans hz h
  have hS : va_S (mt_A g) s.heap s.heap [] := va_S.rf
  have hl := lv_entry ([va_rf v, va_rf w, .int (nI 0), .int (nI k), va_rf lf, .ref al]) (n := 9) (by rw [qa_sl1 (qa_cat _), qa_sl1 (qa_cat _), qa_sl1 (qa_ci _), qa_sl1 (qa_ci _), qa_sl1 (qa_cat _), qa_sl1 (qa_cr _), qa_sl0]; exact Nat.le_of_ble_eq_true rfl)
  rw [lg_entry_eq]
  generalize (lg_sl ([va_rf v, va_rf w, .int (nI 0), .int (nI k), va_rf lf, .ref al]) ++ List.replicate (9 - (lg_sl ([va_rf v, va_rf w, .int (nI 0), .int (nI k), va_rf lf, .ref al])).length) Slot.unset).toArray = ls at hl ⊢
  have hl : lv_has ls 9 [(0, va_rf v), (1, va_rf w), (2, .int (nI 0)), (3, .int (nI k)), (4, va_rf lf), (5, .ref al)] := by rw [qa_ar1 (qa_cat _), qa_ar1 (qa_cat _), qa_ar1 (qa_ci _), qa_ar1 (qa_ci _), qa_ar1 (qa_cat _), qa_ar1 (qa_cr _)] at hl; exact hl
  have hH : s.heap = s.heap := rfl
  refine lv_iload_n hx hb dXT_meld_0 rfl (lv_at hl 2 rfl) ?_
  refine lv_if_gt (tgt := 7) hx hb dXT_meld_1 (by decide) (fun z => absurd z (show ¬ 0 < nI 0 by decide)) (fun _ => ?_)
  refine qa_aload hx hb dXT_meld_4 (lv_at hl 4 rfl) ?_
  exact W.aret hx hb hr (Or.inl ⟨_, rfl⟩) (va_rf_or _) (fun t1 ht hW => ⟨⟨lf, (LL, LP, nf), rfl, ⟨hLL, fun _ h9 => ⟨h9, rfl⟩, hok, by rw [mt_base0]; exact hlf⟩, by rw [ht]; exact hP, hD⟩, hS.F ht⟩) hS.2.2 dXT_meld_6
set_option maxHeartbeats 4000000 in
set_option maxRecDepth 100000 in
/-- meld, one level -/
theorem c_meldS (l : Launch) (g : mt_G) (c0 c1 c2 c3 c4 c5 : Nat × va_E) (al n cap : Nat) (LL : va_W) (LP : List Nat) (nf : Nat → mt_N) (hLL : mt_LL g al LP n cap LL) (hlc : mt_lc n cap) (hn5 : n < 4980) (hok : ∀ a, a ∈ LP → mt_ok LP nf a) (k : Nat) (hk : k < 256) (lf : Option Nat) (t : mt_T) (h : Nat) (hh : h < 8) (ih : ∀ (v w : Option Nat) (tv tw : mt_T) (hv0 : mt_rep LP nf tv h (k / 2 ^ h * 2 ^ h) v) (hw0 : mt_rep LP nf tw h (k / 2 ^ h * 2 ^ h) w) (hlo : ∀ j, k / 2 ^ h * 2 ^ h ≤ j → j < k → t j = tv j) (hhi : ∀ j, k < j → j < k / 2 ^ h * 2 ^ h + 2 ^ h → t j = tw j) (hlf : mt_rep LP nf t 0 k lf), Met l yXT_meld wsXT_meld ({ frames := h + 12, cells := 2 * mt_na t k h, slots := 7 * mt_na t k h + mt_gr n cap (mt_na t k h), locals := 28 * h + 400 }) (mt_Pc g (mt_LW c0 c1 c2 c3 c4 c5 LL LP nf) [va_rf v, va_rf w, .int (nI h), .int (nI k), va_rf lf, .ref al]) (va_Qq (fun r (q : va_W × List Nat × (Nat → mt_N)) => mt_LL g al q.2.1 (n + mt_na t k h) (mt_cap n cap (mt_na t k h)) q.1 ∧ (∀ a, a ∈ LP → a ∈ q.2.1 ∧ q.2.2 a = nf a) ∧ (∀ a, a ∈ q.2.1 → mt_ok q.2.1 q.2.2 a) ∧ mt_rep q.2.1 q.2.2 t h (k / 2 ^ h * 2 ^ h) r) (fun q t => mt_B g (mt_LW c0 c1 c2 c3 c4 c5 q.1 q.2.1 q.2.2) t) (mt_A g)) (2 * mt_na t k h) (7 * mt_na t k h + mt_gr n cap (mt_na t k h)) (mt_A g)) (v w : Option Nat) (tv tw : mt_T) (hv0 : mt_rep LP nf tv (h + 1) (k / 2 ^ (h + 1) * 2 ^ (h + 1)) v) (hw0 : mt_rep LP nf tw (h + 1) (k / 2 ^ (h + 1) * 2 ^ (h + 1)) w) (hlo : ∀ j, k / 2 ^ (h + 1) * 2 ^ (h + 1) ≤ j → j < k → t j = tv j) (hhi : ∀ j, k < j → j < k / 2 ^ (h + 1) * 2 ^ (h + 1) + 2 ^ (h + 1) → t j = tw j) (hlf : mt_rep LP nf t 0 k lf) : Met l yXT_meld wsXT_meld ({ frames := (h + 1) + 12, cells := 2 * mt_na t k (h + 1), slots := 7 * mt_na t k (h + 1) + mt_gr n cap (mt_na t k (h + 1)), locals := 28 * (h + 1) + 400 }) (mt_Pc g (mt_LW c0 c1 c2 c3 c4 c5 LL LP nf) [va_rf v, va_rf w, .int (nI (h + 1)), .int (nI k), va_rf lf, .ref al]) (va_Qq (fun r (q : va_W × List Nat × (Nat → mt_N)) => mt_LL g al q.2.1 (n + mt_na t k (h + 1)) (mt_cap n cap (mt_na t k (h + 1))) q.1 ∧ (∀ a, a ∈ LP → a ∈ q.2.1 ∧ q.2.2 a = nf a) ∧ (∀ a, a ∈ q.2.1 → mt_ok q.2.1 q.2.2 a) ∧ mt_rep q.2.1 q.2.2 t (h + 1) (k / 2 ^ (h + 1) * 2 ^ (h + 1)) r) (fun q t => mt_B g (mt_LW c0 c1 c2 c3 c4 c5 q.1 q.2.1 q.2.2) t) (mt_A g)) (2 * mt_na t k (h + 1)) (7 * mt_na t k (h + 1) + mt_gr n cap (mt_na t k (h + 1))) (mt_A g) := by
  refine Met.ofW (cc := cXT_meld) (maxL := 9) (ret := (some (.object "MeldTree$Node"))) (by decide) rfl ?_
  intro p e s m args below meth c s₁ B hml hv
  obtain ⟨rfl, hE, hz, hP, hD⟩ := hv
  have hx := B.exec
  have hb := B.bytes
  have hr := B.returns
  have hts := atoms_spec (ws := wsXT_meld) B.pre
  have hown : s.vm.findClass RXT = some m.cls := findClass_of_methodNamed B.named
  have hlocks := B.notSynchronized
  have hK := hE.k
  have hA : ∀ q : Nat, s.heap.size ≤ q → mt_A g q := fun q h => Nat.le_trans hz h
  have hS : va_S (mt_A g) s.heap s.heap [] := va_S.rf
  have hl := lv_entry ([va_rf v, va_rf w, .int (nI (h + 1)), .int (nI k), va_rf lf, .ref al]) (n := 9) (by rw [qa_sl1 (qa_cat _), qa_sl1 (qa_cat _), qa_sl1 (qa_ci _), qa_sl1 (qa_ci _), qa_sl1 (qa_cat _), qa_sl1 (qa_cr _), qa_sl0]; exact Nat.le_of_ble_eq_true rfl)
  rw [lg_entry_eq]
  generalize (lg_sl ([va_rf v, va_rf w, .int (nI (h + 1)), .int (nI k), va_rf lf, .ref al]) ++ List.replicate (9 - (lg_sl ([va_rf v, va_rf w, .int (nI (h + 1)), .int (nI k), va_rf lf, .ref al])).length) Slot.unset).toArray = ls at hl ⊢
  have hl : lv_has ls 9 [(0, va_rf v), (1, va_rf w), (2, .int (nI (h + 1))), (3, .int (nI k)), (4, va_rf lf), (5, .ref al)] := by rw [qa_ar1 (qa_cat _), qa_ar1 (qa_cat _), qa_ar1 (qa_ci _), qa_ar1 (qa_ci _), qa_ar1 (qa_cat _), qa_ar1 (qa_cr _)] at hl; exact hl
  have hH : s.heap = s.heap := rfl
  refine lv_iload_n hx hb dXT_meld_0 rfl (lv_at hl 2 rfl) ?_
  refine lv_if_gt (tgt := 7) hx hb dXT_meld_1 (by decide) (fun _ => ?_) (fun z => absurd (show 0 < nI (h + 1) from nI_lt (a := 0) (by omega) (by omega)) z)
  obtain ⟨d1, d2⟩ := mt_rep_down hv0
  obtain ⟨d3, d4⟩ := mt_rep_down hw0
  have hb2 := mt_base k h
  have e3 := mt_two h
  have hin2 := mt_in k h
  have hin3 := mt_in k (h + 1)
  have hp : mt_pool (mt_LW c0 c1 c2 c3 c4 c5 LL LP nf) LP nf := mt_LW_pool
  have hnale := mt_na_le t k h
  refine lv_iload_n hx hb dXT_meld_7 rfl (lv_at hl 3 rfl) ?_
  refine lv_iload_n hx hb dXT_meld_8 rfl (lv_at hl 2 rfl) ?_
  refine vp_callSi (W.runS (As := [.int (nI k), .int (nI (h + 1))]) (rest := []) ⟨hx, hb, hml, hown, hts⟩ (c_goesHigh l g _ (k := k) (h := h) hk hh) (va_cwS 2 hts (mt_giS mw_274 mw_275 mw_1 (mt_gi mw_276)) rfl rfl rfl (by decide +kernel) ⟨by show 0 + 1 ≤ h + 1 + 12; omega, by show 8 + (2 + 11) + 0 ≤ 28 * (h + 1) + 400; omega⟩) (mt_preS hE hz hS hP hD) rfl rfl hl.1 rfl (lv_room (Nat.le_of_ble_eq_true rfl)) dXT_meld_9 ⟨Nat.zero_le _, Nat.zero_le _⟩) (fun z1 e1 => ?_)
  subst e1
  have h2 : k / 2 ^ h % 2 = 0 ∨ k / 2 ^ h % 2 = 1 := by omega
  rcases h2 with h2 | h2
  · refine qa_i (y := nI 0) (by rw [h2]) ?_
    refine lv_if_eq (tgt := 45) hx hb dXT_meld_12 (by decide) (fun _ => ?_) (fun z => absurd (show nI 0 = 0 by decide) z)
    rw [h2, Nat.zero_mul, Nat.add_zero] at hb2
    refine qa_aload_n hx hb dXT_meld_45 rfl (lv_at hl 0 rfl) ?_
    refine va_csq (W.runS (As := [va_rf v]) (rest := []) ⟨hx, hb, hml, hown, hts⟩ (c_lowOf l g _ LP nf hp v (mt_rep_mem hv0)) (va_cwS 1 hts (mt_giS mw_277 mw_278 mw_1 (mt_gi mw_279)) rfl rfl rfl (by decide +kernel) ⟨by show 0 + 1 ≤ h + 1 + 12; omega, by show 8 + (1 + 11) + 0 ≤ 28 * (h + 1) + 400; omega⟩) (mt_preS hE hz hS hP hD) rfl rfl hl.1 rfl (lv_room (Nat.le_of_ble_eq_true rfl)) dXT_meld_46 ⟨Nat.zero_le _, Nat.zero_le _⟩) (fun z1 e1 => ?_)
    subst e1
    refine qa_aload_n hx hb dXT_meld_49 rfl (lv_at hl 1 rfl) ?_
    refine va_csq (W.runS (As := [va_rf w]) (rest := [va_rf (mt_lo nf v)]) ⟨hx, hb, hml, hown, hts⟩ (c_lowOf l g _ LP nf hp w (mt_rep_mem hw0)) (va_cwS 1 hts (mt_giS mw_277 mw_278 mw_1 (mt_gi mw_279)) rfl rfl rfl (by decide +kernel) ⟨by show 0 + 1 ≤ h + 1 + 12; omega, by show 8 + (1 + 11) + 0 ≤ 28 * (h + 1) + 400; omega⟩) (mt_preS hE hz hS hP hD) rfl rfl hl.1 rfl (lv_room (by simp only [List.map_cons, List.map_nil, List.sum_cons, List.sum_nil, qa_cat, qa_ci, qa_cl, qa_cr, qa_cn]; exact Nat.le_of_ble_eq_true rfl)) dXT_meld_50 ⟨Nat.zero_le _, Nat.zero_le _⟩) (fun z1 e1 => ?_)
    subst e1
    refine lv_iload_n hx hb dXT_meld_53 rfl (lv_at hl 2 rfl) ?_
    refine lv_iconst (v := 1) hx hb dXT_meld_54 (by decide +kernel) ?_
    refine lv_isub hx hb dXT_meld_55 ?_
    refine qa_i (y := (nI h)) (nI_pred h) ?_
    refine lv_iload_n hx hb dXT_meld_56 rfl (lv_at hl 3 rfl) ?_
    refine qa_aload hx hb dXT_meld_57 (lv_at hl 4 rfl) ?_
    refine lv_aload hx hb dXT_meld_59 (lv_at hl 5 rfl) ?_
    refine va_callq (va_runS (As := [va_rf (mt_lo nf v), va_rf (mt_lo nf w), .int (nI h), .int (nI k), va_rf lf, .ref al]) (rest := []) ⟨hx, hb, hml, hown, hts⟩ (ih (mt_lo nf v) (mt_lo nf w) tv tw (by rw [hb2]; exact d1) (by rw [hb2]; exact d3) (fun j h8 h9 => hlo j (by omega) h9) (fun j h8 h9 => hhi j h8 (by omega)) hlf) (va_cwS 6 hts (mt_giS mw_271 mw_272 mw_1 (mt_gi mw_273)) rfl rfl rfl (by decide +kernel) ⟨by show h + 12 + 1 ≤ h + 1 + 12; omega, by show 8 + (9 + 11) + (28 * h + 400) ≤ 28 * (h + 1) + 400; omega⟩) (mt_preS hE hz hS hP hD) rfl rfl hl.1 rfl (lv_room (Nat.le_of_ble_eq_true rfl)) dXT_meld_61 ⟨by show 0 + 2 * mt_na t k h ≤ 2 * mt_na t k (h + 1); rw [mt_na_succ]; omega, by show 0 + (7 * mt_na t k h + mt_gr n cap (mt_na t k h)) ≤ 7 * mt_na t k (h + 1) + mt_gr n cap (mt_na t k (h + 1)); exact mt_ms_mono t k h n cap⟩) hS (fun _ _ h9 => h9) (fun _ h9 => h9) (fun r1 u1 t1 H locs ht1 hvm1 hpo1 hB1 hz1 hk1 hS => ?_)
    obtain ⟨LL1, LP1, nf1⟩ := u1
    obtain ⟨hLL1, hkp, hok1, hr1⟩ := hpo1
    obtain ⟨hP, hD⟩ := hB1
    rw [ht1] at hP
    dsimp only at hLL1 hkp hok1 hr1 hP hD
    refine qa_astore (i := 6) (lv' := [(6, va_rf r1), (0, va_rf v), (1, va_rf w), (2, .int (nI (h + 1))), (3, .int (nI k)), (4, va_rf lf), (5, .ref al)]) hx hb dXT_meld_64 hl (by decide) (by simp [List.filter, qa_cat, qa_ci, qa_cl, qa_cr, qa_cn]) (fun ls hl => ?_)
    refine qa_aload_n hx hb dXT_meld_66 rfl (lv_at hl 2 rfl) ?_
    have hp1 : mt_pool (mt_LW c0 c1 c2 c3 c4 c5 LL1 LP1 nf1) LP1 nf1 := mt_LW_pool
    have hw1 := mt_rep_keep hkp hw0
    refine va_csq (W.runS (As := [va_rf w]) (rest := []) ⟨hx, hb, hml, hown, hts⟩ (c_highOf l g _ LP1 nf1 hp1 w (mt_rep_mem hw1)) (va_cwS 1 hts (mt_giS mw_280 mw_281 mw_1 (mt_gi mw_282)) rfl rfl rfl (by decide +kernel) ⟨by show 0 + 1 ≤ h + 1 + 12; omega, by show 8 + (1 + 11) + 0 ≤ 28 * (h + 1) + 400; omega⟩) (mt_preS hE hz hS hP hD) rfl rfl hl.1 rfl (lv_room (Nat.le_of_ble_eq_true rfl)) dXT_meld_67 ⟨by show 0 + 2 * mt_na t k h + 0 ≤ 2 * mt_na t k (h + 1); rw [mt_na_succ]; omega, by have := mt_ms_mono t k h n cap; show 0 + (7 * mt_na t k h + mt_gr n cap (mt_na t k h)) + 0 ≤ 7 * mt_na t k (h + 1) + mt_gr n cap (mt_na t k (h + 1)); omega⟩) (fun z1 e1 => ?_)
    subst e1
    obtain ⟨d5, d6⟩ := mt_rep_down hw1
    have hlo1 : mt_rep LP1 nf1 t h (k / 2 ^ (h + 1) * 2 ^ (h + 1)) r1 := by rw [← hb2]; exact hr1
    have hhi1 : mt_rep LP1 nf1 t h (k / 2 ^ (h + 1) * 2 ^ (h + 1) + 2 ^ h) (mt_hi nf1 w) := mt_rep_ext (fun y hy => hhi _ (by omega) (by omega)) d6
    refine qa_astore (i := 7) (lv' := [(7, va_rf (mt_hi nf1 w)), (6, va_rf r1), (0, va_rf v), (1, va_rf w), (2, .int (nI (h + 1))), (3, .int (nI k)), (4, va_rf lf), (5, .ref al)]) hx hb dXT_meld_70 hl (by decide) (by simp [List.filter, qa_cat, qa_ci, qa_cl, qa_cr, qa_cn]) (fun ls hl => ?_)
    generalize hge : mt_hi nf1 w = hi at hlo1 hhi1 hl ⊢
    refine qa_aload hx hb dXT_meld_72 (lv_at hl 1 rfl) ?_
    refine qa_ifnonnull (tgt := 84) hx hb dXT_meld_74 (by decide) (fun xa hcx1 => ?_) (fun hcx1 => ?_)
    · have hne : ¬ (r1 = none ∧ hi = none) := fun h9 => by rw [hcx1] at h9; cases h9.1
      have hcn0 : mt_c t (k / 2 ^ (h + 1) * 2 ^ (h + 1)) (2 ^ (h + 1)) ≠ 0 := mt_fork_ne hlo1 hhi1 hne
      have hna : mt_na t k (h + 1) = mt_na t k h + 1 := by rw [mt_na_succ, if_neg hcn0]
      refine va_new (ci := 0) (fs := [.int 0, .int 0, .null, .null, .int 0, .int 0, .long 0]) (C := RXN) (T := TXN) (N := 7) hx hb hts (fun w h => List.mem_cons_of_mem _ (in_XN w h)) tyXN tyXN_ok hown (hts _ (List.mem_cons_of_mem _ mw_27)) (hts _ (List.mem_cons_of_mem _ mw_195)) (hts _ (List.mem_cons_of_mem _ mw_11)) hK hP hD hS hA rfl (fun j hj => by rcases (show j = 0 ∨ j = 1 ∨ j = 2 ∨ j = 3 ∨ j = 4 ∨ j = 5 ∨ j = 6 by omega) with rfl | rfl | rfl | rfl | rfl | rfl | rfl <;> rfl) (by show 0 + 2 * mt_na t k h + 1 ≤ 2 * mt_na t k (h + 1); omega) (by show 0 + (7 * mt_na t k h + mt_gr n cap (mt_na t k h)) + 7 ≤ 7 * mt_na t k (h + 1) + mt_gr n cap (mt_na t k (h + 1)); rw [hna]; show _ ≤ _ + (mt_gr n cap (mt_na t k h) + _); omega) dXT_meld_84 (fun q H hP hD hS => ?_)
      refine lv_dup hx hb dXT_meld_87 rfl ?_
      refine lv_iload_n hx hb dXT_meld_88 rfl (lv_at hl 4 rfl) ?_
      refine lv_iload_n hx hb dXT_meld_89 rfl (lv_at hl 5 rfl) ?_
      refine qa_aload hx hb dXT_meld_90 (lv_at hl 1 rfl) ?_
      refine qa_aload hx hb dXT_meld_92 (lv_at hl 0 rfl) ?_
      have hp1 : mt_pool (mt_LW c0 c1 c2 c3 c4 c5 LL1 LP1 nf1) LP1 nf1 := mt_LW_pool
      refine va_callv (va_runIN (As := [.int (nI (h + 1)), .int (nI k), va_rf r1, va_rf hi]) (rest := [.ref q]) ⟨hx, hb, hml, hown, hts⟩ (c_fork l g _ LP1 nf1 hp1 q (nI (h + 1)) (nI k) r1 hi (mt_rep_mem hlo1) (mt_rep_mem hhi1)) ⟨va_cnB 4 hts (mt_gi mw_284) rfl rfl rfl (hE.w (.methodLinkNest RXT 131 yXN_init_2 "MeldTree") (by decide +kernel)) (hts _ (List.mem_cons_of_mem _ mw_11)) (by decide +kernel) ⟨by show 1 + 1 ≤ h + 1 + 12; omega, by show 8 + (5 + 11) + 20 ≤ 28 * (h + 1) + 400; omega⟩, rfl, hts _ (List.mem_cons_of_mem _ mw_283)⟩ (mt_preS hE hz hS hP hD) rfl rfl hl.1 rfl (lv_room (Nat.le_of_ble_eq_true rfl)) dXT_meld_94 ⟨by show 0 + 2 * mt_na t k h + 1 + 0 ≤ 2 * mt_na t k (h + 1); omega, by show 0 + (7 * mt_na t k h + mt_gr n cap (mt_na t k h)) + 7 + 0 ≤ 7 * mt_na t k (h + 1) + mt_gr n cap (mt_na t k (h + 1)); rw [hna]; show _ ≤ _ + (mt_gr n cap (mt_na t k h) + _); omega⟩) hS (fun _ _ h9 => h9) (fun _ h9 => h9) (fun u2 t2 H locs ht2 hvm2 _ hB2 hz2 hk2 hS => ?_)
      obtain ⟨hP, hD⟩ := hB2
      rw [ht2] at hP
      rw [mt_first hk (by omega)] at hP hD
      obtain ⟨hP, hD, hq1⟩ := mt_LW_push hP hD
      obtain ⟨hkp2, hok2, hrep2⟩ := mt_push_fork (q := q) hq1 hk hh hok1 hlo1 hhi1 hne
      generalize hnf2 : va_up nf1 q (nI (h + 1), nI (k / 2 ^ (h + 1) * 2 ^ (h + 1)), r1, hi, 0, mt_sz nf1 r1 + mt_sz nf1 hi, mt_to nf1 r1 + mt_to nf1 hi) = nf2 at hP hD hkp2 hok2 hrep2
      refine lv_astore (i := 8) (lv' := [(8, .ref q), (7, va_rf hi), (6, va_rf r1), (0, va_rf v), (1, va_rf w), (2, .int (nI (h + 1))), (3, .int (nI k)), (4, va_rf lf), (5, .ref al)]) hx hb dXT_meld_97 hl (by decide) (by simp [List.filter, qa_cat, qa_ci, qa_cl, qa_cr, qa_cn]) (fun ls hl => ?_)
      refine lv_aload hx hb dXT_meld_99 (lv_at hl 8 rfl) ?_
      refine lv_aload hx hb dXT_meld_101 (lv_at hl 0 rfl) ?_
      have hLL2 := mt_LL_more (L2 := LP1 ++ [q]) (fun a h9 => List.mem_append_left _ h9) hLL1
      obtain ⟨hlcj, hgj, hcj⟩ := mt_lcj hlc (mt_na t k h)
      have hrcv := mt_LL_recv hLL2 hK hP
      refine va_calli (va_runV (As := [.ref q]) (rest := []) ⟨hx, hb, hml, hown, hts⟩ (c_add l g c0 c1 c2 c3 c4 c5 al (n + mt_na t k h) (mt_cap n cap (mt_na t k h)) LL1 (LP1 ++ [q]) nf2 hLL2 hlcj (by omega) q (by simp)) (cwV 1 hts (mt_giV mw_221 mw_222 mw_223 mw_4 (mt_gi mw_224)) rfl rfl rfl (by decide +kernel) ⟨by show 10 + 1 ≤ h + 1 + 12; omega, by show 8 + (2 + 11) + 300 ≤ 28 * (h + 1) + 400; omega⟩) (mt_preV hE hz hS hP hD hrcv) rfl rfl hl.1 rfl (lv_room (Nat.le_of_ble_eq_true rfl)) dXT_meld_103 ⟨by show 0 + 2 * mt_na t k h + 1 + 0 + 1 ≤ 2 * mt_na t k (h + 1); omega, by show 0 + (7 * mt_na t k h + mt_gr n cap (mt_na t k h)) + 7 + 0 + mt_gr1 (n + mt_na t k h) (mt_cap n cap (mt_na t k h)) ≤ 7 * mt_na t k (h + 1) + mt_gr n cap (mt_na t k (h + 1)); rw [hna]; show _ ≤ _ + (mt_gr n cap (mt_na t k h) + _); omega⟩) hS (fun _ _ h9 => h9) (fun _ h9 => h9) (fun r3 LL3 t3 H locs ht3 hvm3 hpo3 hB3 hz3 hk3 hS => ?_)
      obtain ⟨rfl, hLL3⟩ := hpo3
      obtain ⟨hP, hD⟩ := hB3
      rw [ht3] at hP
      refine lv_pop hx hb dXT_meld_106 rfl ?_
      refine lv_aload hx hb dXT_meld_107 (lv_at hl 0 rfl) ?_
      refine W.widen (k := 2 * mt_na t k (h + 1)) (n := 7 * mt_na t k (h + 1) + mt_gr n cap (mt_na t k (h + 1))) (by show 0 + 2 * mt_na t k h + 1 + 0 + 1 ≤ 2 * mt_na t k (h + 1); omega) (by show 0 + (7 * mt_na t k h + mt_gr n cap (mt_na t k h)) + 7 + 0 + mt_gr1 (n + mt_na t k h) (mt_cap n cap (mt_na t k h)) ≤ 7 * mt_na t k (h + 1) + mt_gr n cap (mt_na t k (h + 1)); rw [hna]; show _ ≤ _ + (mt_gr n cap (mt_na t k h) + _); omega) ?_
      exact W.aret hx hb hr (Or.inl ⟨_, rfl⟩) (Or.inr ⟨_, rfl⟩) (fun t4 ht hW => ⟨⟨some q, (LL3, LP1 ++ [q], nf2), rfl, ⟨by rw [hna]; exact hLL3, fun a h9 => ⟨(hkp2 a (hkp a h9).1).1, (hkp2 a (hkp a h9).1).2.trans (hkp a h9).2⟩, hok2, hrep2⟩, by rw [ht]; exact hP, hD⟩, hS.F ht⟩) hS.2.2 dXT_meld_109
    · refine qa_aload hx hb dXT_meld_77 (lv_at hl 0 rfl) ?_
      refine qa_ifnonnull (tgt := 84) hx hb dXT_meld_79 (by decide) (fun xb hcx2 => ?_) (fun hcx2 => ?_)
      · have hne : ¬ (r1 = none ∧ hi = none) := fun h9 => by rw [hcx2] at h9; cases h9.2
        have hcn0 : mt_c t (k / 2 ^ (h + 1) * 2 ^ (h + 1)) (2 ^ (h + 1)) ≠ 0 := mt_fork_ne hlo1 hhi1 hne
        have hna : mt_na t k (h + 1) = mt_na t k h + 1 := by rw [mt_na_succ, if_neg hcn0]
        refine va_new (ci := 0) (fs := [.int 0, .int 0, .null, .null, .int 0, .int 0, .long 0]) (C := RXN) (T := TXN) (N := 7) hx hb hts (fun w h => List.mem_cons_of_mem _ (in_XN w h)) tyXN tyXN_ok hown (hts _ (List.mem_cons_of_mem _ mw_27)) (hts _ (List.mem_cons_of_mem _ mw_195)) (hts _ (List.mem_cons_of_mem _ mw_11)) hK hP hD hS hA rfl (fun j hj => by rcases (show j = 0 ∨ j = 1 ∨ j = 2 ∨ j = 3 ∨ j = 4 ∨ j = 5 ∨ j = 6 by omega) with rfl | rfl | rfl | rfl | rfl | rfl | rfl <;> rfl) (by show 0 + 2 * mt_na t k h + 1 ≤ 2 * mt_na t k (h + 1); omega) (by show 0 + (7 * mt_na t k h + mt_gr n cap (mt_na t k h)) + 7 ≤ 7 * mt_na t k (h + 1) + mt_gr n cap (mt_na t k (h + 1)); rw [hna]; show _ ≤ _ + (mt_gr n cap (mt_na t k h) + _); omega) dXT_meld_84 (fun q H hP hD hS => ?_)
        refine lv_dup hx hb dXT_meld_87 rfl ?_
        refine lv_iload_n hx hb dXT_meld_88 rfl (lv_at hl 4 rfl) ?_
        refine lv_iload_n hx hb dXT_meld_89 rfl (lv_at hl 5 rfl) ?_
        refine qa_aload hx hb dXT_meld_90 (lv_at hl 1 rfl) ?_
        refine qa_aload hx hb dXT_meld_92 (lv_at hl 0 rfl) ?_
        have hp1 : mt_pool (mt_LW c0 c1 c2 c3 c4 c5 LL1 LP1 nf1) LP1 nf1 := mt_LW_pool
        refine va_callv (va_runIN (As := [.int (nI (h + 1)), .int (nI k), va_rf r1, va_rf hi]) (rest := [.ref q]) ⟨hx, hb, hml, hown, hts⟩ (c_fork l g _ LP1 nf1 hp1 q (nI (h + 1)) (nI k) r1 hi (mt_rep_mem hlo1) (mt_rep_mem hhi1)) ⟨va_cnB 4 hts (mt_gi mw_284) rfl rfl rfl (hE.w (.methodLinkNest RXT 131 yXN_init_2 "MeldTree") (by decide +kernel)) (hts _ (List.mem_cons_of_mem _ mw_11)) (by decide +kernel) ⟨by show 1 + 1 ≤ h + 1 + 12; omega, by show 8 + (5 + 11) + 20 ≤ 28 * (h + 1) + 400; omega⟩, rfl, hts _ (List.mem_cons_of_mem _ mw_283)⟩ (mt_preS hE hz hS hP hD) rfl rfl hl.1 rfl (lv_room (Nat.le_of_ble_eq_true rfl)) dXT_meld_94 ⟨by show 0 + 2 * mt_na t k h + 1 + 0 ≤ 2 * mt_na t k (h + 1); omega, by show 0 + (7 * mt_na t k h + mt_gr n cap (mt_na t k h)) + 7 + 0 ≤ 7 * mt_na t k (h + 1) + mt_gr n cap (mt_na t k (h + 1)); rw [hna]; show _ ≤ _ + (mt_gr n cap (mt_na t k h) + _); omega⟩) hS (fun _ _ h9 => h9) (fun _ h9 => h9) (fun u2 t2 H locs ht2 hvm2 _ hB2 hz2 hk2 hS => ?_)
        obtain ⟨hP, hD⟩ := hB2
        rw [ht2] at hP
        rw [mt_first hk (by omega)] at hP hD
        obtain ⟨hP, hD, hq1⟩ := mt_LW_push hP hD
        obtain ⟨hkp2, hok2, hrep2⟩ := mt_push_fork (q := q) hq1 hk hh hok1 hlo1 hhi1 hne
        generalize hnf2 : va_up nf1 q (nI (h + 1), nI (k / 2 ^ (h + 1) * 2 ^ (h + 1)), r1, hi, 0, mt_sz nf1 r1 + mt_sz nf1 hi, mt_to nf1 r1 + mt_to nf1 hi) = nf2 at hP hD hkp2 hok2 hrep2
        refine lv_astore (i := 8) (lv' := [(8, .ref q), (7, va_rf hi), (6, va_rf r1), (0, va_rf v), (1, va_rf w), (2, .int (nI (h + 1))), (3, .int (nI k)), (4, va_rf lf), (5, .ref al)]) hx hb dXT_meld_97 hl (by decide) (by simp [List.filter, qa_cat, qa_ci, qa_cl, qa_cr, qa_cn]) (fun ls hl => ?_)
        refine lv_aload hx hb dXT_meld_99 (lv_at hl 8 rfl) ?_
        refine lv_aload hx hb dXT_meld_101 (lv_at hl 0 rfl) ?_
        have hLL2 := mt_LL_more (L2 := LP1 ++ [q]) (fun a h9 => List.mem_append_left _ h9) hLL1
        obtain ⟨hlcj, hgj, hcj⟩ := mt_lcj hlc (mt_na t k h)
        have hrcv := mt_LL_recv hLL2 hK hP
        refine va_calli (va_runV (As := [.ref q]) (rest := []) ⟨hx, hb, hml, hown, hts⟩ (c_add l g c0 c1 c2 c3 c4 c5 al (n + mt_na t k h) (mt_cap n cap (mt_na t k h)) LL1 (LP1 ++ [q]) nf2 hLL2 hlcj (by omega) q (by simp)) (cwV 1 hts (mt_giV mw_221 mw_222 mw_223 mw_4 (mt_gi mw_224)) rfl rfl rfl (by decide +kernel) ⟨by show 10 + 1 ≤ h + 1 + 12; omega, by show 8 + (2 + 11) + 300 ≤ 28 * (h + 1) + 400; omega⟩) (mt_preV hE hz hS hP hD hrcv) rfl rfl hl.1 rfl (lv_room (Nat.le_of_ble_eq_true rfl)) dXT_meld_103 ⟨by show 0 + 2 * mt_na t k h + 1 + 0 + 1 ≤ 2 * mt_na t k (h + 1); omega, by show 0 + (7 * mt_na t k h + mt_gr n cap (mt_na t k h)) + 7 + 0 + mt_gr1 (n + mt_na t k h) (mt_cap n cap (mt_na t k h)) ≤ 7 * mt_na t k (h + 1) + mt_gr n cap (mt_na t k (h + 1)); rw [hna]; show _ ≤ _ + (mt_gr n cap (mt_na t k h) + _); omega⟩) hS (fun _ _ h9 => h9) (fun _ h9 => h9) (fun r3 LL3 t3 H locs ht3 hvm3 hpo3 hB3 hz3 hk3 hS => ?_)
        obtain ⟨rfl, hLL3⟩ := hpo3
        obtain ⟨hP, hD⟩ := hB3
        rw [ht3] at hP
        refine lv_pop hx hb dXT_meld_106 rfl ?_
        refine lv_aload hx hb dXT_meld_107 (lv_at hl 0 rfl) ?_
        refine W.widen (k := 2 * mt_na t k (h + 1)) (n := 7 * mt_na t k (h + 1) + mt_gr n cap (mt_na t k (h + 1))) (by show 0 + 2 * mt_na t k h + 1 + 0 + 1 ≤ 2 * mt_na t k (h + 1); omega) (by show 0 + (7 * mt_na t k h + mt_gr n cap (mt_na t k h)) + 7 + 0 + mt_gr1 (n + mt_na t k h) (mt_cap n cap (mt_na t k h)) ≤ 7 * mt_na t k (h + 1) + mt_gr n cap (mt_na t k (h + 1)); rw [hna]; show _ ≤ _ + (mt_gr n cap (mt_na t k h) + _); omega) ?_
        exact W.aret hx hb hr (Or.inl ⟨_, rfl⟩) (Or.inr ⟨_, rfl⟩) (fun t4 ht hW => ⟨⟨some q, (LL3, LP1 ++ [q], nf2), rfl, ⟨by rw [hna]; exact hLL3, fun a h9 => ⟨(hkp2 a (hkp a h9).1).1, (hkp2 a (hkp a h9).1).2.trans (hkp a h9).2⟩, hok2, hrep2⟩, by rw [ht]; exact hP, hD⟩, hS.F ht⟩) hS.2.2 dXT_meld_109
      · have hc0 : mt_c t (k / 2 ^ (h + 1) * 2 ^ (h + 1)) (2 ^ (h + 1)) = 0 := by rw [hcx1] at hlo1; rw [hcx2] at hhi1; generalize k / 2 ^ (h + 1) * 2 ^ (h + 1) = bb at hlo1 hhi1 ⊢; rw [mt_two, mt_c_add, mt_c_none (mt_rep_none.mp hlo1), mt_c_none (mt_rep_none.mp hhi1)]
        have hna : mt_na t k (h + 1) = mt_na t k h := by rw [mt_na_succ, if_pos hc0]; rfl
        refine lv_null hx hb dXT_meld_82 ?_
        refine W.widen (k := 2 * mt_na t k (h + 1)) (n := 7 * mt_na t k (h + 1) + mt_gr n cap (mt_na t k (h + 1))) (by show 0 + 2 * mt_na t k h ≤ 2 * mt_na t k (h + 1); omega) (by show 0 + (7 * mt_na t k h + mt_gr n cap (mt_na t k h)) ≤ 7 * mt_na t k (h + 1) + mt_gr n cap (mt_na t k (h + 1)); rw [hna]; omega) ?_
        exact W.aret hx hb hr (Or.inl ⟨_, rfl⟩) (Or.inl rfl) (fun t4 ht hW => ⟨⟨none, (LL1, LP1, nf1), rfl, ⟨by rw [hna]; exact hLL1, hkp, hok1, mt_rep_none.mpr (mt_c_zero hc0)⟩, by rw [ht]; exact hP, hD⟩, hS.F ht⟩) hS.2.2 dXT_meld_83
  · refine qa_i (y := nI 1) (by rw [h2]) ?_
    refine lv_if_eq (tgt := 45) hx hb dXT_meld_12 (by decide) (fun z => absurd z (show ¬ nI 1 = 0 by decide)) (fun _ => ?_)
    rw [h2, Nat.one_mul] at hb2
    refine qa_aload_n hx hb dXT_meld_15 rfl (lv_at hl 0 rfl) ?_
    refine va_csq (W.runS (As := [va_rf v]) (rest := []) ⟨hx, hb, hml, hown, hts⟩ (c_lowOf l g _ LP nf hp v (mt_rep_mem hv0)) (va_cwS 1 hts (mt_giS mw_277 mw_278 mw_1 (mt_gi mw_279)) rfl rfl rfl (by decide +kernel) ⟨by show 0 + 1 ≤ h + 1 + 12; omega, by show 8 + (1 + 11) + 0 ≤ 28 * (h + 1) + 400; omega⟩) (mt_preS hE hz hS hP hD) rfl rfl hl.1 rfl (lv_room (Nat.le_of_ble_eq_true rfl)) dXT_meld_16 ⟨Nat.zero_le _, Nat.zero_le _⟩) (fun z1 e1 => ?_)
    subst e1
    refine qa_astore (i := 6) (lv' := [(6, va_rf (mt_lo nf v)), (0, va_rf v), (1, va_rf w), (2, .int (nI (h + 1))), (3, .int (nI k)), (4, va_rf lf), (5, .ref al)]) hx hb dXT_meld_19 hl (by decide) (by simp [List.filter, qa_cat, qa_ci, qa_cl, qa_cr, qa_cn]) (fun ls hl => ?_)
    refine qa_aload_n hx hb dXT_meld_21 rfl (lv_at hl 1 rfl) ?_
    refine va_csq (W.runS (As := [va_rf v]) (rest := []) ⟨hx, hb, hml, hown, hts⟩ (c_highOf l g _ LP nf hp v (mt_rep_mem hv0)) (va_cwS 1 hts (mt_giS mw_280 mw_281 mw_1 (mt_gi mw_282)) rfl rfl rfl (by decide +kernel) ⟨by show 0 + 1 ≤ h + 1 + 12; omega, by show 8 + (1 + 11) + 0 ≤ 28 * (h + 1) + 400; omega⟩) (mt_preS hE hz hS hP hD) rfl rfl hl.1 rfl (lv_room (Nat.le_of_ble_eq_true rfl)) dXT_meld_22 ⟨Nat.zero_le _, Nat.zero_le _⟩) (fun z1 e1 => ?_)
    subst e1
    refine qa_aload_n hx hb dXT_meld_25 rfl (lv_at hl 2 rfl) ?_
    refine va_csq (W.runS (As := [va_rf w]) (rest := [va_rf (mt_hi nf v)]) ⟨hx, hb, hml, hown, hts⟩ (c_highOf l g _ LP nf hp w (mt_rep_mem hw0)) (va_cwS 1 hts (mt_giS mw_280 mw_281 mw_1 (mt_gi mw_282)) rfl rfl rfl (by decide +kernel) ⟨by show 0 + 1 ≤ h + 1 + 12; omega, by show 8 + (1 + 11) + 0 ≤ 28 * (h + 1) + 400; omega⟩) (mt_preS hE hz hS hP hD) rfl rfl hl.1 rfl (lv_room (by simp only [List.map_cons, List.map_nil, List.sum_cons, List.sum_nil, qa_cat, qa_ci, qa_cl, qa_cr, qa_cn]; exact Nat.le_of_ble_eq_true rfl)) dXT_meld_26 ⟨Nat.zero_le _, Nat.zero_le _⟩) (fun z1 e1 => ?_)
    subst e1
    refine lv_iload_n hx hb dXT_meld_29 rfl (lv_at hl 3 rfl) ?_
    refine lv_iconst (v := 1) hx hb dXT_meld_30 (by decide +kernel) ?_
    refine lv_isub hx hb dXT_meld_31 ?_
    refine qa_i (y := (nI h)) (nI_pred h) ?_
    refine lv_iload_n hx hb dXT_meld_32 rfl (lv_at hl 4 rfl) ?_
    refine qa_aload hx hb dXT_meld_33 (lv_at hl 5 rfl) ?_
    refine lv_aload hx hb dXT_meld_35 (lv_at hl 6 rfl) ?_
    refine va_callq (va_runS (As := [va_rf (mt_hi nf v), va_rf (mt_hi nf w), .int (nI h), .int (nI k), va_rf lf, .ref al]) (rest := []) ⟨hx, hb, hml, hown, hts⟩ (ih (mt_hi nf v) (mt_hi nf w) tv tw (by rw [hb2]; exact d2) (by rw [hb2]; exact d4) (fun j h8 h9 => hlo j (by omega) h9) (fun j h8 h9 => hhi j h8 (by omega)) hlf) (va_cwS 6 hts (mt_giS mw_271 mw_272 mw_1 (mt_gi mw_273)) rfl rfl rfl (by decide +kernel) ⟨by show h + 12 + 1 ≤ h + 1 + 12; omega, by show 8 + (9 + 11) + (28 * h + 400) ≤ 28 * (h + 1) + 400; omega⟩) (mt_preS hE hz hS hP hD) rfl rfl hl.1 rfl (lv_room (Nat.le_of_ble_eq_true rfl)) dXT_meld_37 ⟨by show 0 + 2 * mt_na t k h ≤ 2 * mt_na t k (h + 1); rw [mt_na_succ]; omega, by show 0 + (7 * mt_na t k h + mt_gr n cap (mt_na t k h)) ≤ 7 * mt_na t k (h + 1) + mt_gr n cap (mt_na t k (h + 1)); exact mt_ms_mono t k h n cap⟩) hS (fun _ _ h9 => h9) (fun _ h9 => h9) (fun r1 u1 t1 H locs ht1 hvm1 hpo1 hB1 hz1 hk1 hS => ?_)
    obtain ⟨LL1, LP1, nf1⟩ := u1
    obtain ⟨hLL1, hkp, hok1, hr1⟩ := hpo1
    obtain ⟨hP, hD⟩ := hB1
    rw [ht1] at hP
    dsimp only at hLL1 hkp hok1 hr1 hP hD
    refine qa_astore (i := 7) (lv' := [(7, va_rf r1), (6, va_rf (mt_lo nf v)), (0, va_rf v), (1, va_rf w), (2, .int (nI (h + 1))), (3, .int (nI k)), (4, va_rf lf), (5, .ref al)]) hx hb dXT_meld_40 hl (by decide) (by simp [List.filter, qa_cat, qa_ci, qa_cl, qa_cr, qa_cn]) (fun ls hl => ?_)
    refine lv_goto (tgt := 72) hx hb dXT_meld_42 (by decide) ?_
    have hlo1 : mt_rep LP1 nf1 t h (k / 2 ^ (h + 1) * 2 ^ (h + 1)) (mt_lo nf v) := mt_rep_keep hkp (mt_rep_ext (fun y hy => hlo _ (by omega) (by omega)) d1)
    have hhi1 : mt_rep LP1 nf1 t h (k / 2 ^ (h + 1) * 2 ^ (h + 1) + 2 ^ h) r1 := by rw [← hb2]; exact hr1
    generalize hge : mt_lo nf v = lo at hlo1 hhi1 hl ⊢
    refine qa_aload hx hb dXT_meld_72 (lv_at hl 1 rfl) ?_
    refine qa_ifnonnull (tgt := 84) hx hb dXT_meld_74 (by decide) (fun xa hcx1 => ?_) (fun hcx1 => ?_)
    · have hne : ¬ (lo = none ∧ r1 = none) := fun h9 => by rw [hcx1] at h9; cases h9.1
      have hcn0 : mt_c t (k / 2 ^ (h + 1) * 2 ^ (h + 1)) (2 ^ (h + 1)) ≠ 0 := mt_fork_ne hlo1 hhi1 hne
      have hna : mt_na t k (h + 1) = mt_na t k h + 1 := by rw [mt_na_succ, if_neg hcn0]
      refine va_new (ci := 0) (fs := [.int 0, .int 0, .null, .null, .int 0, .int 0, .long 0]) (C := RXN) (T := TXN) (N := 7) hx hb hts (fun w h => List.mem_cons_of_mem _ (in_XN w h)) tyXN tyXN_ok hown (hts _ (List.mem_cons_of_mem _ mw_27)) (hts _ (List.mem_cons_of_mem _ mw_195)) (hts _ (List.mem_cons_of_mem _ mw_11)) hK hP hD hS hA rfl (fun j hj => by rcases (show j = 0 ∨ j = 1 ∨ j = 2 ∨ j = 3 ∨ j = 4 ∨ j = 5 ∨ j = 6 by omega) with rfl | rfl | rfl | rfl | rfl | rfl | rfl <;> rfl) (by show 0 + 2 * mt_na t k h + 1 ≤ 2 * mt_na t k (h + 1); omega) (by show 0 + (7 * mt_na t k h + mt_gr n cap (mt_na t k h)) + 7 ≤ 7 * mt_na t k (h + 1) + mt_gr n cap (mt_na t k (h + 1)); rw [hna]; show _ ≤ _ + (mt_gr n cap (mt_na t k h) + _); omega) dXT_meld_84 (fun q H hP hD hS => ?_)
      refine lv_dup hx hb dXT_meld_87 rfl ?_
      refine lv_iload_n hx hb dXT_meld_88 rfl (lv_at hl 4 rfl) ?_
      refine lv_iload_n hx hb dXT_meld_89 rfl (lv_at hl 5 rfl) ?_
      refine qa_aload hx hb dXT_meld_90 (lv_at hl 1 rfl) ?_
      refine qa_aload hx hb dXT_meld_92 (lv_at hl 0 rfl) ?_
      have hp1 : mt_pool (mt_LW c0 c1 c2 c3 c4 c5 LL1 LP1 nf1) LP1 nf1 := mt_LW_pool
      refine va_callv (va_runIN (As := [.int (nI (h + 1)), .int (nI k), va_rf lo, va_rf r1]) (rest := [.ref q]) ⟨hx, hb, hml, hown, hts⟩ (c_fork l g _ LP1 nf1 hp1 q (nI (h + 1)) (nI k) lo r1 (mt_rep_mem hlo1) (mt_rep_mem hhi1)) ⟨va_cnB 4 hts (mt_gi mw_284) rfl rfl rfl (hE.w (.methodLinkNest RXT 131 yXN_init_2 "MeldTree") (by decide +kernel)) (hts _ (List.mem_cons_of_mem _ mw_11)) (by decide +kernel) ⟨by show 1 + 1 ≤ h + 1 + 12; omega, by show 8 + (5 + 11) + 20 ≤ 28 * (h + 1) + 400; omega⟩, rfl, hts _ (List.mem_cons_of_mem _ mw_283)⟩ (mt_preS hE hz hS hP hD) rfl rfl hl.1 rfl (lv_room (Nat.le_of_ble_eq_true rfl)) dXT_meld_94 ⟨by show 0 + 2 * mt_na t k h + 1 + 0 ≤ 2 * mt_na t k (h + 1); omega, by show 0 + (7 * mt_na t k h + mt_gr n cap (mt_na t k h)) + 7 + 0 ≤ 7 * mt_na t k (h + 1) + mt_gr n cap (mt_na t k (h + 1)); rw [hna]; show _ ≤ _ + (mt_gr n cap (mt_na t k h) + _); omega⟩) hS (fun _ _ h9 => h9) (fun _ h9 => h9) (fun u2 t2 H locs ht2 hvm2 _ hB2 hz2 hk2 hS => ?_)
      obtain ⟨hP, hD⟩ := hB2
      rw [ht2] at hP
      rw [mt_first hk (by omega)] at hP hD
      obtain ⟨hP, hD, hq1⟩ := mt_LW_push hP hD
      obtain ⟨hkp2, hok2, hrep2⟩ := mt_push_fork (q := q) hq1 hk hh hok1 hlo1 hhi1 hne
      generalize hnf2 : va_up nf1 q (nI (h + 1), nI (k / 2 ^ (h + 1) * 2 ^ (h + 1)), lo, r1, 0, mt_sz nf1 lo + mt_sz nf1 r1, mt_to nf1 lo + mt_to nf1 r1) = nf2 at hP hD hkp2 hok2 hrep2
      refine lv_astore (i := 8) (lv' := [(8, .ref q), (7, va_rf r1), (6, va_rf lo), (0, va_rf v), (1, va_rf w), (2, .int (nI (h + 1))), (3, .int (nI k)), (4, va_rf lf), (5, .ref al)]) hx hb dXT_meld_97 hl (by decide) (by simp [List.filter, qa_cat, qa_ci, qa_cl, qa_cr, qa_cn]) (fun ls hl => ?_)
      refine lv_aload hx hb dXT_meld_99 (lv_at hl 8 rfl) ?_
      refine lv_aload hx hb dXT_meld_101 (lv_at hl 0 rfl) ?_
      have hLL2 := mt_LL_more (L2 := LP1 ++ [q]) (fun a h9 => List.mem_append_left _ h9) hLL1
      obtain ⟨hlcj, hgj, hcj⟩ := mt_lcj hlc (mt_na t k h)
      have hrcv := mt_LL_recv hLL2 hK hP
      refine va_calli (va_runV (As := [.ref q]) (rest := []) ⟨hx, hb, hml, hown, hts⟩ (c_add l g c0 c1 c2 c3 c4 c5 al (n + mt_na t k h) (mt_cap n cap (mt_na t k h)) LL1 (LP1 ++ [q]) nf2 hLL2 hlcj (by omega) q (by simp)) (cwV 1 hts (mt_giV mw_221 mw_222 mw_223 mw_4 (mt_gi mw_224)) rfl rfl rfl (by decide +kernel) ⟨by show 10 + 1 ≤ h + 1 + 12; omega, by show 8 + (2 + 11) + 300 ≤ 28 * (h + 1) + 400; omega⟩) (mt_preV hE hz hS hP hD hrcv) rfl rfl hl.1 rfl (lv_room (Nat.le_of_ble_eq_true rfl)) dXT_meld_103 ⟨by show 0 + 2 * mt_na t k h + 1 + 0 + 1 ≤ 2 * mt_na t k (h + 1); omega, by show 0 + (7 * mt_na t k h + mt_gr n cap (mt_na t k h)) + 7 + 0 + mt_gr1 (n + mt_na t k h) (mt_cap n cap (mt_na t k h)) ≤ 7 * mt_na t k (h + 1) + mt_gr n cap (mt_na t k (h + 1)); rw [hna]; show _ ≤ _ + (mt_gr n cap (mt_na t k h) + _); omega⟩) hS (fun _ _ h9 => h9) (fun _ h9 => h9) (fun r3 LL3 t3 H locs ht3 hvm3 hpo3 hB3 hz3 hk3 hS => ?_)
      obtain ⟨rfl, hLL3⟩ := hpo3
      obtain ⟨hP, hD⟩ := hB3
      rw [ht3] at hP
      refine lv_pop hx hb dXT_meld_106 rfl ?_
      refine lv_aload hx hb dXT_meld_107 (lv_at hl 0 rfl) ?_
      refine W.widen (k := 2 * mt_na t k (h + 1)) (n := 7 * mt_na t k (h + 1) + mt_gr n cap (mt_na t k (h + 1))) (by show 0 + 2 * mt_na t k h + 1 + 0 + 1 ≤ 2 * mt_na t k (h + 1); omega) (by show 0 + (7 * mt_na t k h + mt_gr n cap (mt_na t k h)) + 7 + 0 + mt_gr1 (n + mt_na t k h) (mt_cap n cap (mt_na t k h)) ≤ 7 * mt_na t k (h + 1) + mt_gr n cap (mt_na t k (h + 1)); rw [hna]; show _ ≤ _ + (mt_gr n cap (mt_na t k h) + _); omega) ?_
      exact W.aret hx hb hr (Or.inl ⟨_, rfl⟩) (Or.inr ⟨_, rfl⟩) (fun t4 ht hW => ⟨⟨some q, (LL3, LP1 ++ [q], nf2), rfl, ⟨by rw [hna]; exact hLL3, fun a h9 => ⟨(hkp2 a (hkp a h9).1).1, (hkp2 a (hkp a h9).1).2.trans (hkp a h9).2⟩, hok2, hrep2⟩, by rw [ht]; exact hP, hD⟩, hS.F ht⟩) hS.2.2 dXT_meld_109
    · refine qa_aload hx hb dXT_meld_77 (lv_at hl 0 rfl) ?_
      refine qa_ifnonnull (tgt := 84) hx hb dXT_meld_79 (by decide) (fun xb hcx2 => ?_) (fun hcx2 => ?_)
      · have hne : ¬ (lo = none ∧ r1 = none) := fun h9 => by rw [hcx2] at h9; cases h9.2
        have hcn0 : mt_c t (k / 2 ^ (h + 1) * 2 ^ (h + 1)) (2 ^ (h + 1)) ≠ 0 := mt_fork_ne hlo1 hhi1 hne
        have hna : mt_na t k (h + 1) = mt_na t k h + 1 := by rw [mt_na_succ, if_neg hcn0]
        refine va_new (ci := 0) (fs := [.int 0, .int 0, .null, .null, .int 0, .int 0, .long 0]) (C := RXN) (T := TXN) (N := 7) hx hb hts (fun w h => List.mem_cons_of_mem _ (in_XN w h)) tyXN tyXN_ok hown (hts _ (List.mem_cons_of_mem _ mw_27)) (hts _ (List.mem_cons_of_mem _ mw_195)) (hts _ (List.mem_cons_of_mem _ mw_11)) hK hP hD hS hA rfl (fun j hj => by rcases (show j = 0 ∨ j = 1 ∨ j = 2 ∨ j = 3 ∨ j = 4 ∨ j = 5 ∨ j = 6 by omega) with rfl | rfl | rfl | rfl | rfl | rfl | rfl <;> rfl) (by show 0 + 2 * mt_na t k h + 1 ≤ 2 * mt_na t k (h + 1); omega) (by show 0 + (7 * mt_na t k h + mt_gr n cap (mt_na t k h)) + 7 ≤ 7 * mt_na t k (h + 1) + mt_gr n cap (mt_na t k (h + 1)); rw [hna]; show _ ≤ _ + (mt_gr n cap (mt_na t k h) + _); omega) dXT_meld_84 (fun q H hP hD hS => ?_)
        refine lv_dup hx hb dXT_meld_87 rfl ?_
        refine lv_iload_n hx hb dXT_meld_88 rfl (lv_at hl 4 rfl) ?_
        refine lv_iload_n hx hb dXT_meld_89 rfl (lv_at hl 5 rfl) ?_
        refine qa_aload hx hb dXT_meld_90 (lv_at hl 1 rfl) ?_
        refine qa_aload hx hb dXT_meld_92 (lv_at hl 0 rfl) ?_
        have hp1 : mt_pool (mt_LW c0 c1 c2 c3 c4 c5 LL1 LP1 nf1) LP1 nf1 := mt_LW_pool
        refine va_callv (va_runIN (As := [.int (nI (h + 1)), .int (nI k), va_rf lo, va_rf r1]) (rest := [.ref q]) ⟨hx, hb, hml, hown, hts⟩ (c_fork l g _ LP1 nf1 hp1 q (nI (h + 1)) (nI k) lo r1 (mt_rep_mem hlo1) (mt_rep_mem hhi1)) ⟨va_cnB 4 hts (mt_gi mw_284) rfl rfl rfl (hE.w (.methodLinkNest RXT 131 yXN_init_2 "MeldTree") (by decide +kernel)) (hts _ (List.mem_cons_of_mem _ mw_11)) (by decide +kernel) ⟨by show 1 + 1 ≤ h + 1 + 12; omega, by show 8 + (5 + 11) + 20 ≤ 28 * (h + 1) + 400; omega⟩, rfl, hts _ (List.mem_cons_of_mem _ mw_283)⟩ (mt_preS hE hz hS hP hD) rfl rfl hl.1 rfl (lv_room (Nat.le_of_ble_eq_true rfl)) dXT_meld_94 ⟨by show 0 + 2 * mt_na t k h + 1 + 0 ≤ 2 * mt_na t k (h + 1); omega, by show 0 + (7 * mt_na t k h + mt_gr n cap (mt_na t k h)) + 7 + 0 ≤ 7 * mt_na t k (h + 1) + mt_gr n cap (mt_na t k (h + 1)); rw [hna]; show _ ≤ _ + (mt_gr n cap (mt_na t k h) + _); omega⟩) hS (fun _ _ h9 => h9) (fun _ h9 => h9) (fun u2 t2 H locs ht2 hvm2 _ hB2 hz2 hk2 hS => ?_)
        obtain ⟨hP, hD⟩ := hB2
        rw [ht2] at hP
        rw [mt_first hk (by omega)] at hP hD
        obtain ⟨hP, hD, hq1⟩ := mt_LW_push hP hD
        obtain ⟨hkp2, hok2, hrep2⟩ := mt_push_fork (q := q) hq1 hk hh hok1 hlo1 hhi1 hne
        generalize hnf2 : va_up nf1 q (nI (h + 1), nI (k / 2 ^ (h + 1) * 2 ^ (h + 1)), lo, r1, 0, mt_sz nf1 lo + mt_sz nf1 r1, mt_to nf1 lo + mt_to nf1 r1) = nf2 at hP hD hkp2 hok2 hrep2
        refine lv_astore (i := 8) (lv' := [(8, .ref q), (7, va_rf r1), (6, va_rf lo), (0, va_rf v), (1, va_rf w), (2, .int (nI (h + 1))), (3, .int (nI k)), (4, va_rf lf), (5, .ref al)]) hx hb dXT_meld_97 hl (by decide) (by simp [List.filter, qa_cat, qa_ci, qa_cl, qa_cr, qa_cn]) (fun ls hl => ?_)
        refine lv_aload hx hb dXT_meld_99 (lv_at hl 8 rfl) ?_
        refine lv_aload hx hb dXT_meld_101 (lv_at hl 0 rfl) ?_
        have hLL2 := mt_LL_more (L2 := LP1 ++ [q]) (fun a h9 => List.mem_append_left _ h9) hLL1
        obtain ⟨hlcj, hgj, hcj⟩ := mt_lcj hlc (mt_na t k h)
        have hrcv := mt_LL_recv hLL2 hK hP
        refine va_calli (va_runV (As := [.ref q]) (rest := []) ⟨hx, hb, hml, hown, hts⟩ (c_add l g c0 c1 c2 c3 c4 c5 al (n + mt_na t k h) (mt_cap n cap (mt_na t k h)) LL1 (LP1 ++ [q]) nf2 hLL2 hlcj (by omega) q (by simp)) (cwV 1 hts (mt_giV mw_221 mw_222 mw_223 mw_4 (mt_gi mw_224)) rfl rfl rfl (by decide +kernel) ⟨by show 10 + 1 ≤ h + 1 + 12; omega, by show 8 + (2 + 11) + 300 ≤ 28 * (h + 1) + 400; omega⟩) (mt_preV hE hz hS hP hD hrcv) rfl rfl hl.1 rfl (lv_room (Nat.le_of_ble_eq_true rfl)) dXT_meld_103 ⟨by show 0 + 2 * mt_na t k h + 1 + 0 + 1 ≤ 2 * mt_na t k (h + 1); omega, by show 0 + (7 * mt_na t k h + mt_gr n cap (mt_na t k h)) + 7 + 0 + mt_gr1 (n + mt_na t k h) (mt_cap n cap (mt_na t k h)) ≤ 7 * mt_na t k (h + 1) + mt_gr n cap (mt_na t k (h + 1)); rw [hna]; show _ ≤ _ + (mt_gr n cap (mt_na t k h) + _); omega⟩) hS (fun _ _ h9 => h9) (fun _ h9 => h9) (fun r3 LL3 t3 H locs ht3 hvm3 hpo3 hB3 hz3 hk3 hS => ?_)
        obtain ⟨rfl, hLL3⟩ := hpo3
        obtain ⟨hP, hD⟩ := hB3
        rw [ht3] at hP
        refine lv_pop hx hb dXT_meld_106 rfl ?_
        refine lv_aload hx hb dXT_meld_107 (lv_at hl 0 rfl) ?_
        refine W.widen (k := 2 * mt_na t k (h + 1)) (n := 7 * mt_na t k (h + 1) + mt_gr n cap (mt_na t k (h + 1))) (by show 0 + 2 * mt_na t k h + 1 + 0 + 1 ≤ 2 * mt_na t k (h + 1); omega) (by show 0 + (7 * mt_na t k h + mt_gr n cap (mt_na t k h)) + 7 + 0 + mt_gr1 (n + mt_na t k h) (mt_cap n cap (mt_na t k h)) ≤ 7 * mt_na t k (h + 1) + mt_gr n cap (mt_na t k (h + 1)); rw [hna]; show _ ≤ _ + (mt_gr n cap (mt_na t k h) + _); omega) ?_
        exact W.aret hx hb hr (Or.inl ⟨_, rfl⟩) (Or.inr ⟨_, rfl⟩) (fun t4 ht hW => ⟨⟨some q, (LL3, LP1 ++ [q], nf2), rfl, ⟨by rw [hna]; exact hLL3, fun a h9 => ⟨(hkp2 a (hkp a h9).1).1, (hkp2 a (hkp a h9).1).2.trans (hkp a h9).2⟩, hok2, hrep2⟩, by rw [ht]; exact hP, hD⟩, hS.F ht⟩) hS.2.2 dXT_meld_109
      · have hc0 : mt_c t (k / 2 ^ (h + 1) * 2 ^ (h + 1)) (2 ^ (h + 1)) = 0 := by rw [hcx1] at hlo1; rw [hcx2] at hhi1; generalize k / 2 ^ (h + 1) * 2 ^ (h + 1) = bb at hlo1 hhi1 ⊢; rw [mt_two, mt_c_add, mt_c_none (mt_rep_none.mp hlo1), mt_c_none (mt_rep_none.mp hhi1)]
        have hna : mt_na t k (h + 1) = mt_na t k h := by rw [mt_na_succ, if_pos hc0]; rfl
        refine lv_null hx hb dXT_meld_82 ?_
        refine W.widen (k := 2 * mt_na t k (h + 1)) (n := 7 * mt_na t k (h + 1) + mt_gr n cap (mt_na t k (h + 1))) (by show 0 + 2 * mt_na t k h ≤ 2 * mt_na t k (h + 1); omega) (by show 0 + (7 * mt_na t k h + mt_gr n cap (mt_na t k h)) ≤ 7 * mt_na t k (h + 1) + mt_gr n cap (mt_na t k (h + 1)); rw [hna]; omega) ?_
        exact W.aret hx hb hr (Or.inl ⟨_, rfl⟩) (Or.inl rfl) (fun t4 ht hW => ⟨⟨none, (LL1, LP1, nf1), rfl, ⟨by rw [hna]; exact hLL1, hkp, hok1, mt_rep_none.mpr (mt_c_zero hc0)⟩, by rw [ht]; exact hP, hD⟩, hS.F ht⟩) hS.2.2 dXT_meld_83
set_option maxRecDepth 100000 in
theorem c_meld (l : Launch) (g : mt_G) (c0 c1 c2 c3 c4 c5 : Nat × va_E) (al n cap : Nat) (LL : va_W) (LP : List Nat) (nf : Nat → mt_N) (hLL : mt_LL g al LP n cap LL) (hlc : mt_lc n cap) (hn5 : n < 4980) (hok : ∀ a, a ∈ LP → mt_ok LP nf a) (k : Nat) (hk : k < 256) (lf : Option Nat) (t : mt_T) : ∀ (h : Nat), h ≤ 8 → ∀ (v w : Option Nat) (tv tw : mt_T) (hv0 : mt_rep LP nf tv h (k / 2 ^ h * 2 ^ h) v) (hw0 : mt_rep LP nf tw h (k / 2 ^ h * 2 ^ h) w) (hlo : ∀ j, k / 2 ^ h * 2 ^ h ≤ j → j < k → t j = tv j) (hhi : ∀ j, k < j → j < k / 2 ^ h * 2 ^ h + 2 ^ h → t j = tw j) (hlf : mt_rep LP nf t 0 k lf), Met l yXT_meld wsXT_meld ({ frames := h + 12, cells := 2 * mt_na t k h, slots := 7 * mt_na t k h + mt_gr n cap (mt_na t k h), locals := 28 * h + 400 }) (mt_Pc g (mt_LW c0 c1 c2 c3 c4 c5 LL LP nf) [va_rf v, va_rf w, .int (nI h), .int (nI k), va_rf lf, .ref al]) (va_Qq (fun r (q : va_W × List Nat × (Nat → mt_N)) => mt_LL g al q.2.1 (n + mt_na t k h) (mt_cap n cap (mt_na t k h)) q.1 ∧ (∀ a, a ∈ LP → a ∈ q.2.1 ∧ q.2.2 a = nf a) ∧ (∀ a, a ∈ q.2.1 → mt_ok q.2.1 q.2.2 a) ∧ mt_rep q.2.1 q.2.2 t h (k / 2 ^ h * 2 ^ h) r) (fun q t => mt_B g (mt_LW c0 c1 c2 c3 c4 c5 q.1 q.2.1 q.2.2) t) (mt_A g)) (2 * mt_na t k h) (7 * mt_na t k h + mt_gr n cap (mt_na t k h)) (mt_A g) := by
  intro h
  induction h with
  | zero => exact fun _ v w tv tw h1 h2 h3 h4 h5 => c_meld0 l g c0 c1 c2 c3 c4 c5 al n cap LL LP nf hLL hlc hn5 hok k hk lf t tv tw v w h1 h2 h3 h4 h5
  | succ h ih => exact fun h8 v w tv tw h1 h2 h3 h4 h5 => c_meldS l g c0 c1 c2 c3 c4 c5 al n cap LL LP nf hLL hlc hn5 hok k hk lf t h (by omega) (ih (by omega)) v w tv tw h1 h2 h3 h4 h5
end
