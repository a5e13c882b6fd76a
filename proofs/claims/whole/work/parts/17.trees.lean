/-! the list's cells, the pool beside it; a new node in the pool -/
def mt_LL (g : mt_G) (al : Nat) (LP : List Nat) (n cap : Nat) (LL : va_W) : Prop :=
  (n = 0 ∧ cap = 0 ∧ ∃ mo : Int32, LL = [(al, .inr (3, [.int mo, .ref g.2.2.1, .int 0]))]) ∨
  ∃ (mo : Int32) (ae : Nat) (fe : Nat → Option Nat), LL = [(al, .inr (3, [.int mo, .ref ae, .int (nI n)])), (ae, .inl (g.2.2.2 0, cap, .inr (.inr (.inr (.inr fe)))))] ∧ 0 < cap ∧ n ≤ cap ∧ ∀ i, i < n → ∃ a, fe i = some a ∧ a ∈ LP
theorem mt_LL_more {g : mt_G} {al : Nat} {L1 L2 : List Nat} {n cap : Nat} {LL : va_W} (hs : ∀ a, a ∈ L1 → a ∈ L2) (h : mt_LL g al L1 n cap LL) : mt_LL g al L2 n cap LL := by
  rcases h with h | ⟨mo, ae, fe, h1, h2, h3, h4⟩
  · exact Or.inl h
  · refine Or.inr ⟨mo, ae, fe, h1, h2, h3, fun i hi => ?_⟩
    obtain ⟨a, e1, e2⟩ := h4 i hi
    exact ⟨a, e1, hs a e2⟩
abbrev mt_LW (c0 c1 c2 c3 c4 c5 : Nat × va_E) (LL : va_W) (LP : List Nat) (nf : Nat → mt_N) : va_W := c0 :: c1 :: c2 :: c3 :: c4 :: c5 :: (LL ++ va_pl LP (fun a => mt_nE (nf a)))
theorem mt_LL_first {g : mt_G} {al : Nat} {LP : List Nat} {n cap : Nat} {LL : va_W} (h : mt_LL g al LP n cap LL) : ∃ (fs : List Value) (r : va_W), LL = (al, .inr (3, fs)) :: r := by
  rcases h with ⟨-, -, mo, h⟩ | ⟨mo, ae, fe, h1, -⟩
  · exact ⟨_, _, h⟩
  · exact ⟨_, _, h1⟩
theorem mt_LL_recv {g : mt_G} {al : Nat} {LP L2 : List Nat} {n cap : Nat} {LL : va_W} {c0 c1 c2 c3 c4 c5 : Nat × va_E} {nf : Nat → mt_N} {s : State} {H : Heap} {tys : List (ClassId × FieldType)} (h : mt_LL g al LP n cap LL) (hK : va_K g.1 vwCl tys s) (hP : va_P g.1 vwCl (mt_LW c0 c1 c2 c3 c4 c5 LL L2 nf) H) : ∃ cell : Cell, H[al]? = some cell ∧ cell.vm.isStatics = false ∧ s.vm.findClass RXA = some cell.cls := by
  obtain ⟨fs, r, rfl⟩ := mt_LL_first h
  exact va_recv hK hP (q := (RXA, TXA, 3)) (q0 := 6) (ci := 3) (fs := fs) rfl rfl
theorem mt_LW_pool {c0 c1 c2 c3 c4 c5 : Nat × va_E} {LL : va_W} {LP : List Nat} {nf : Nat → mt_N} : mt_pool (mt_LW c0 c1 c2 c3 c4 c5 LL LP nf) LP nf := mt_pool_pl (c0 :: c1 :: c2 :: c3 :: c4 :: c5 :: LL) LP nf
theorem mt_LW_push {D : va_G} {A : Nat → Prop} {c0 c1 c2 c3 c4 c5 : Nat × va_E} {LL : va_W} {LP : List Nat} {nf : Nat → mt_N} {q : Nat} {d : mt_N} {H : Heap} (hP : va_P D vwCl (mt_LW c0 c1 c2 c3 c4 c5 LL LP nf ++ [(q, mt_nE d)]) H) (hD : va_D A (mt_LW c0 c1 c2 c3 c4 c5 LL LP nf ++ [(q, mt_nE d)])) :
    va_P D vwCl (mt_LW c0 c1 c2 c3 c4 c5 LL (LP ++ [q]) (va_up nf q d)) H ∧ va_D A (mt_LW c0 c1 c2 c3 c4 c5 LL (LP ++ [q]) (va_up nf q d)) ∧ q ∉ LP := by
  have hq : q ∉ LP := va_pl_fresh2 (X := c0 :: c1 :: c2 :: c3 :: c4 :: c5 :: LL) (f := fun a => mt_nE (nf a)) hD
  have e : mt_LW c0 c1 c2 c3 c4 c5 LL LP nf ++ [(q, mt_nE d)] = mt_LW c0 c1 c2 c3 c4 c5 LL (LP ++ [q]) (va_up nf q d) := by
    show c0 :: c1 :: c2 :: c3 :: c4 :: c5 :: ((LL ++ va_pl LP (fun a => mt_nE (nf a))) ++ [(q, mt_nE d)]) = _
    rw [List.append_assoc, va_pl_push hq, va_pl_congr (g := fun a => mt_nE (va_up nf q d a)) (fun a => by
      by_cases h : a = q
      · subst h; rw [va_up_self, va_up_self]
      · rw [va_up_ne _ _ h, va_up_ne _ _ h])]
  rw [e] at hP hD
  exact ⟨hP, hD, hq⟩
theorem mt_up_keep {LP : List Nat} {nf : Nat → mt_N} {q : Nat} {d : mt_N} (hq : q ∉ LP) : ∀ a, a ∈ LP → a ∈ LP ++ [q] ∧ va_up nf q d a = nf a := fun a ha => ⟨List.mem_append_left _ ha, va_up_ne _ _ (fun e => hq (e ▸ ha))⟩
theorem mt_push_ok {LP : List Nat} {nf : Nat → mt_N} {q : Nat} {d : mt_N} (hq : q ∉ LP) (hok : ∀ a, a ∈ LP → mt_ok LP nf a) (hnew : mt_ok (LP ++ [q]) (va_up nf q d) q) : ∀ a, a ∈ LP ++ [q] → mt_ok (LP ++ [q]) (va_up nf q d) a := by
  intro a ha
  rcases List.mem_append.mp ha with h | h
  · exact mt_ok_keep (mt_up_keep hq) h (hok a h)
  · rw [List.mem_singleton] at h
    subst h
    exact hnew
theorem mt_push_fork {LP : List Nat} {nf : Nat → mt_N} {t : mt_T} {q k h : Nat} {lo hi : Option Nat} (hq : q ∉ LP) (hk : k < 256) (hh : h < 8) (hok : ∀ a, a ∈ LP → mt_ok LP nf a) (hlo : mt_rep LP nf t h (k / 2 ^ (h + 1) * 2 ^ (h + 1)) lo) (hhi : mt_rep LP nf t h (k / 2 ^ (h + 1) * 2 ^ (h + 1) + 2 ^ h) hi) (hne : ¬ (lo = none ∧ hi = none)) :
    (∀ a, a ∈ LP → a ∈ LP ++ [q] ∧ va_up nf q (nI (h + 1), nI (k / 2 ^ (h + 1) * 2 ^ (h + 1)), lo, hi, 0, mt_sz nf lo + mt_sz nf hi, mt_to nf lo + mt_to nf hi) a = nf a) ∧
    (∀ a, a ∈ LP ++ [q] → mt_ok (LP ++ [q]) (va_up nf q (nI (h + 1), nI (k / 2 ^ (h + 1) * 2 ^ (h + 1)), lo, hi, 0, mt_sz nf lo + mt_sz nf hi, mt_to nf lo + mt_to nf hi)) a) ∧
    mt_rep (LP ++ [q]) (va_up nf q (nI (h + 1), nI (k / 2 ^ (h + 1) * 2 ^ (h + 1)), lo, hi, 0, mt_sz nf lo + mt_sz nf hi, mt_to nf lo + mt_to nf hi)) t (h + 1) (k / 2 ^ (h + 1) * 2 ^ (h + 1)) (some q) := by
  have hkp := mt_up_keep (nf := nf) (d := (nI (h + 1), nI (k / 2 ^ (h + 1) * 2 ^ (h + 1)), lo, hi, 0, mt_sz nf lo + mt_sz nf hi, mt_to nf lo + mt_to nf hi)) hq
  refine ⟨hkp, mt_push_ok hq hok (Or.inr ⟨h, k / 2 ^ (h + 1) * 2 ^ (h + 1), lo, hi, hh, mt_256 hk (by omega), ?_, hne, ?_, ?_⟩), ?_⟩
  · obtain ⟨-, l2, l3⟩ := mt_is_keep hkp (mt_rep_at hlo)
    obtain ⟨-, r2, r3⟩ := mt_is_keep hkp (mt_rep_at hhi)
    rw [va_up_self, l2, l3, r2, r3]
  · exact (mt_is_keep hkp (mt_rep_at hlo)).1
  · exact (mt_is_keep hkp (mt_rep_at hhi)).1
  · refine ⟨by simp, lo, hi, ?_, mt_rep_keep hkp hlo, mt_rep_keep hkp hhi, hne⟩
    rw [va_up_self, (mt_rep_sz hlo).1, (mt_rep_sz hlo).2, (mt_rep_sz hhi).1, (mt_rep_sz hhi).2, nI_add, mt_two, mt_c_add, mt_s_add]
theorem mt_push_leaf {LP : List Nat} {nf : Nat → mt_N} {t : mt_T} {q k : Nat} {x : Int32} (hq : q ∉ LP) (hok : ∀ a, a ∈ LP → mt_ok LP nf a) (ht : t k = some x) :
    (∀ a, a ∈ LP → a ∈ LP ++ [q] ∧ va_up nf q (0, nI k, none, none, x, 1, x.toInt64) a = nf a) ∧
    (∀ a, a ∈ LP ++ [q] → mt_ok (LP ++ [q]) (va_up nf q (0, nI k, none, none, x, 1, x.toInt64)) a) ∧
    mt_rep (LP ++ [q]) (va_up nf q (0, nI k, none, none, x, 1, x.toInt64)) t 0 k (some q) :=
  ⟨mt_up_keep hq, mt_push_ok hq hok (Or.inl ⟨nI k, x, va_up_self _ _ _⟩), by simp, x, ht, va_up_self _ _ _⟩
theorem mt_fork_ne {LP : List Nat} {nf : Nat → mt_N} {t : mt_T} {b h : Nat} {lo hi : Option Nat} (hlo : mt_rep LP nf t h b lo) (hhi : mt_rep LP nf t h (b + 2 ^ h) hi) (hne : ¬ (lo = none ∧ hi = none)) : mt_c t b (2 ^ (h + 1)) ≠ 0 := by
  rw [mt_two, mt_c_add]
  cases lo with
  | some a =>
    have := mt_rep_some hlo
    omega
  | none =>
    cases hi with
    | some a =>
      have := mt_rep_some hhi
      omega
    | none => exact absurd ⟨rfl, rfl⟩ hne
theorem mt_na_succ (t : mt_T) (k h : Nat) : mt_na t k (h + 1) = mt_na t k h + (if mt_c t (k / 2 ^ (h + 1) * 2 ^ (h + 1)) (2 ^ (h + 1)) = 0 then 0 else 1) := rfl
theorem mt_ms_mono (t : mt_T) (k h n cap : Nat) : 0 + (7 * mt_na t k h + mt_gr n cap (mt_na t k h)) ≤ 7 * mt_na t k (h + 1) + mt_gr n cap (mt_na t k (h + 1)) := by
  rw [mt_na_succ]
  split
  · rw [Nat.add_zero]
    omega
  · show _ ≤ _ + (mt_gr n cap (mt_na t k h) + mt_gr1 (n + mt_na t k h) (mt_cap n cap (mt_na t k h)))
    omega
/-- the tree's world: four cells of others, the tree, its roots, the rest -/
abbrev mt_TW (g : mt_G) (c0 c1 c2 c3 : Nat × va_E) (x ar al cn : Nat) (fr : Nat → Option Nat) (Z : va_W) : va_W := c0 :: c1 :: c2 :: c3 :: (x, .inr (1, [.ref ar, .ref al, .int (nI cn)])) :: (ar, .inl (g.2.2.2 1, 600, .inr (.inr (.inr (.inr fr))))) :: Z
/-! the tables behind put, remove, join -/
def mt_put (t : mt_T) (i : Nat) (x : Int32) : mt_T := fun y => if y = i then some x else t y
def mt_rem (t : mt_T) (i : Nat) : mt_T := fun y => if y = i then none else t y
def mt_join (t u : mt_T) (k : Nat) : mt_T := fun y => if y < k then t y else u y
