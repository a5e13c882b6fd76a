/-! a step of the law, purely -/
theorem mt_ver_cl {v : Int32} {cn : Nat} (hcn : cn ≤ 600) (h : mt_ver v cn) : v = nI v.toNatClampNeg ∧ v.toNatClampNeg < cn := by
  obtain ⟨j, hj, rfl⟩ := mt_ver_nat hcn h
  rw [nI_clamp (by omega)]
  exact ⟨rfl, hj⟩
theorem mt_key_cl {k : Int32} (h : mt_key k) : k = nI k.toNatClampNeg ∧ k.toNatClampNeg < 256 := by
  obtain ⟨j, hj, rfl⟩ := mt_key_nat h
  rw [nI_clamp (by omega)]
  exact ⟨rfl, hj⟩
theorem mt_kb_cl {k : Int32} (h : mt_kb k) : k = nI k.toNatClampNeg ∧ k.toNatClampNeg ≤ 256 := by
  obtain ⟨j, hj, rfl⟩ := mt_kb_nat h
  rw [nI_clamp (by omega)]
  exact ⟨rfl, hj⟩
theorem mt_next {LP LP1 : List Nat} {nf nf1 : Nat → mt_N} {fv fb f h : Nat → Int32} {cn : Nat} {fr : Nat → Option Nat} {rt : Option Nat} {w : Nat → Int32 × Int32} {T : mt_T} (hkp : ∀ a, a ∈ LP → a ∈ LP1 ∧ nf1 a = nf a) (hrep : ∀ j, j < cn → mt_rep LP nf (mt_ft fv fb j) 8 0 (fr j)) (hnew : mt_new fv fb f h cn w) (hrp : mt_rep LP1 nf1 T 8 0 rt) (hT : ∀ k, k < 256 → T k = if (w k).2 = 0 then none else some (w k).1) : ∀ j, j < cn + 1 → mt_rep LP1 nf1 (mt_ft f h j) 8 0 (va_up fr cn rt j) := by
  intro j hj
  obtain ⟨h1, h2, -⟩ := hnew
  by_cases e : j = cn
  · subst e
    rw [va_up_self]
    refine mt_rep_ext (fun k hk => ?_) hrp
    have hk2 : k < 256 := hk
    rw [Nat.zero_add, hT k hk2]
    unfold mt_ft
    rw [(h1 k hk2).1, (h1 k hk2).2]
  · rw [va_up_ne _ _ e]
    refine mt_rep_ext (fun k hk => ?_) (mt_rep_keep hkp (hrep j (by omega)))
    have hk2 : k < 256 := hk
    rw [Nat.zero_add]
    unfold mt_ft
    rw [(h2 (256 * j + k) (by omega)).1, (h2 (256 * j + k) (by omega)).2]
theorem mt_sel_one {t : mt_T} {k k2 : Nat} (h1 : t k ≠ none) (h2 : t k2 ≠ none) (e : mt_c t 0 k = mt_c t 0 k2) : k = k2 := by
  have key : ∀ a b, a < b → t a ≠ none → mt_c t 0 a < mt_c t 0 b := by
    intro a b hab ha
    have e1 : b = (a + 1) + (b - (a + 1)) := by omega
    rw [e1, mt_c_add]
    have e2 : mt_c t 0 (a + 1) = mt_c t 0 a + 1 := by
      show mt_c t 0 a + mt_1 t (0 + a) = _
      rw [Nat.zero_add, mt_1_1 ha]
    omega
  by_cases c1 : k < k2
  · have := key k k2 c1 h1
    omega
  · by_cases c2 : k2 < k
    · have := key k2 k c2 h2
      omega
    · omega
theorem mt_sel_lt {t : mt_T} {k n : Nat} (hk : k < 256) (h1 : t k ≠ none) (e : mt_c t 0 k = n) : n < mt_c t 0 256 := by
  have e1 : 256 = (k + 1) + (256 - (k + 1)) := by omega
  rw [e1, mt_c_add]
  have e2 : mt_c t 0 (k + 1) = mt_c t 0 k + 1 := by
    show mt_c t 0 k + mt_1 t (0 + k) = _
    rw [Nat.zero_add, mt_1_1 h1]
  omega
theorem mt_kb_of {k : Int32} {y : Nat} (hy : y ≤ 256) (e : k = nI y) : mt_kb k := by
  subst e
  exact ⟨nI_pos' (by omega), nI_le hy (by omega)⟩
/-- the slots that i calls may take -/
def mt_SF : Nat → Nat
  | 0 => 400000
  | i + 1 => mt_SF i + 36 * i + 300
theorem mt_SF_eq : ∀ i, mt_SF i = 400000 + 18 * (i * i) + 282 * i
  | 0 => rfl
  | i + 1 => by
    show mt_SF i + 36 * i + 300 = _
    rw [mt_SF_eq i]
    have e1 : (i + 1) * (i + 1) = i * i + i + i + 1 := by rw [Nat.add_mul, Nat.one_mul, Nat.mul_add, Nat.mul_one]; omega
    omega
theorem mt_SF_le {i : Nat} (h : i ≤ 513) : mt_SF i ≤ 5300000 := by
  rw [mt_SF_eq]
  have := Nat.mul_le_mul h h
  omega
/-- what holds at the head of the law's loop, i calls done -/
def mt_Inv (g : mt_G) (s : State) (am av ab ao x ar al : Nat) (i cn : Nat) (th : Int32) (fv fb : Nat → Int32) (fo : Nat → Int64) (fr : Nat → Option Nat) (n cap : Nat) (LL : va_W) (LP : List Nat) (nf : Nat → mt_N) (H : Heap) (locs : List Loc) : Prop :=
  cn ≤ i + 1 ∧ n ≤ 9 * i ∧ (∀ j, fb j = 0 ∨ fb j = 1) ∧ mt_LL g al LP n cap LL ∧ mt_lc n cap ∧ (∀ a, a ∈ LP → mt_ok LP nf a) ∧ (∀ j, j < cn → mt_rep LP nf (mt_ft fv fb j) 8 0 (fr j)) ∧ va_P g.1 vwCl (mt_MW g am av ab (nI cn) th fv fb ((ao, .inl (g.2.2.2 4, 1, .inr (.inl fo))) :: (x, .inr (1, [.ref ar, .ref al, .int (nI cn)])) :: (ar, .inl (g.2.2.2 1, 600, .inr (.inr (.inr (.inr fr))))) :: (LL ++ va_pl LP (fun a => mt_nE (nf a))))) H ∧ va_D (mt_A g) (mt_MW g am av ab (nI cn) th fv fb ((ao, .inl (g.2.2.2 4, 1, .inr (.inl fo))) :: (x, .inr (1, [.ref ar, .ref al, .int (nI cn)])) :: (ar, .inl (g.2.2.2 1, 600, .inr (.inr (.inr (.inr fr))))) :: (LL ++ va_pl LP (fun a => mt_nE (nf a))))) ∧ va_S (mt_A g) s.heap H locs
