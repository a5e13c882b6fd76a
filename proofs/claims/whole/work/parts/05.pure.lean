/-! pure: tables of keys, trees over their bits, how much an ArrayList grows -/
section
/-- a table: which key has which value -/
abbrev mt_T : Type := Nat → Option Int32
/-- a node: height, first, low, high, value, size, total -/
abbrev mt_N : Type := Int32 × Int32 × Option Nat × Option Nat × Int32 × Int32 × Int64
def mt_lo (p : Nat → mt_N) : Option Nat → Option Nat
  | none => none
  | some a => (p a).2.2.1
def mt_hi (p : Nat → mt_N) : Option Nat → Option Nat
  | none => none
  | some a => (p a).2.2.2.1
def mt_sz (p : Nat → mt_N) : Option Nat → Int32
  | none => 0
  | some a => (p a).2.2.2.2.2.1
def mt_to (p : Nat → mt_N) : Option Nat → Int64
  | none => 0
  | some a => (p a).2.2.2.2.2.2
def mt_1 (t : mt_T) (k : Nat) : Nat := if t k = none then 0 else 1
def mt_v (t : mt_T) (k : Nat) : Int64 := match t k with
  | none => 0
  | some x => x.toInt64
/-- how many keys from b on, n places -/
def mt_c (t : mt_T) (b : Nat) : Nat → Nat
  | 0 => 0
  | n + 1 => mt_c t b n + mt_1 t (b + n)
def mt_s (t : mt_T) (b : Nat) : Nat → Int64
  | 0 => 0
  | n + 1 => mt_s t b n + mt_v t (b + n)
def mt_d (t u : mt_T) (b : Nat) : Nat → Nat
  | 0 => 0
  | n + 1 => mt_d t u b n + (if t (b + n) = u (b + n) then 0 else 1)
def mt_gs (z : Int64) (k : Nat) : Option Int32 → Int64
  | none => z
  | some x => (z * 31 + (nI k).toInt64) * 31 + x.toInt64
def mt_g (t : mt_T) (b : Nat) (z : Int64) : Nat → Int64
  | 0 => z
  | n + 1 => mt_gs (mt_g t b z n) (b + n) (t (b + n))
theorem mt_c_add (t : mt_T) (b m n : Nat) : mt_c t b (m + n) = mt_c t b m + mt_c t (b + m) n := by
  induction n with
  | zero => simp [mt_c]
  | succ n ih =>
    show mt_c t b (m + n) + mt_1 t (b + (m + n)) = mt_c t b m + (mt_c t (b + m) n + mt_1 t (b + m + n))
    rw [ih, ← Nat.add_assoc b m n, Nat.add_assoc]
theorem mt_s_add (t : mt_T) (b m n : Nat) : mt_s t b (m + n) = mt_s t b m + mt_s t (b + m) n := by
  induction n with
  | zero => simp [mt_s]
  | succ n ih =>
    show mt_s t b (m + n) + mt_v t (b + (m + n)) = mt_s t b m + (mt_s t (b + m) n + mt_v t (b + m + n))
    rw [ih, ← Nat.add_assoc b m n, Int64.add_assoc]
theorem mt_d_add (t u : mt_T) (b m n : Nat) : mt_d t u b (m + n) = mt_d t u b m + mt_d t u (b + m) n := by
  induction n with
  | zero => simp [mt_d]
  | succ n ih =>
    show mt_d t u b (m + n) + (if t (b + (m + n)) = u (b + (m + n)) then 0 else 1) = mt_d t u b m + (mt_d t u (b + m) n + (if t (b + m + n) = u (b + m + n) then 0 else 1))
    rw [ih, ← Nat.add_assoc b m n, Nat.add_assoc]
theorem mt_g_add (t : mt_T) (b : Nat) (z : Int64) (m n : Nat) : mt_g t b z (m + n) = mt_g t (b + m) (mt_g t b z m) n := by
  induction n with
  | zero => rfl
  | succ n ih =>
    show mt_gs (mt_g t b z (m + n)) (b + (m + n)) (t (b + (m + n))) = mt_gs (mt_g t (b + m) (mt_g t b z m) n) (b + m + n) (t (b + m + n))
    rw [ih, ← Nat.add_assoc b m n]
theorem mt_1_le (t : mt_T) (k : Nat) : mt_1 t k ≤ 1 := by
  unfold mt_1
  split <;> omega
theorem mt_1_0 {t : mt_T} {k : Nat} (h : t k = none) : mt_1 t k = 0 := by simp [mt_1, h]
theorem mt_1_1 {t : mt_T} {k : Nat} (h : t k ≠ none) : mt_1 t k = 1 := by simp [mt_1, h]
theorem mt_c_le (t : mt_T) (b n : Nat) : mt_c t b n ≤ n := by
  induction n with
  | zero => exact Nat.le_refl _
  | succ n ih =>
    have h := mt_1_le t (b + n)
    show mt_c t b n + mt_1 t (b + n) ≤ n + 1
    omega
theorem mt_c_ext {t u : mt_T} {b n : Nat} (h : ∀ k, k < n → u (b + k) = t (b + k)) : mt_c u b n = mt_c t b n := by
  induction n with
  | zero => rfl
  | succ n ih =>
    show mt_c u b n + mt_1 u (b + n) = mt_c t b n + mt_1 t (b + n)
    rw [ih (fun k hk => h k (by omega))]
    unfold mt_1
    rw [h n (by omega)]
theorem mt_s_ext {t u : mt_T} {b n : Nat} (h : ∀ k, k < n → u (b + k) = t (b + k)) : mt_s u b n = mt_s t b n := by
  induction n with
  | zero => rfl
  | succ n ih =>
    show mt_s u b n + mt_v u (b + n) = mt_s t b n + mt_v t (b + n)
    rw [ih (fun k hk => h k (by omega))]
    unfold mt_v
    rw [h n (by omega)]
theorem mt_c_none {t : mt_T} {b n : Nat} (h : ∀ k, k < n → t (b + k) = none) : mt_c t b n = 0 := by
  induction n with
  | zero => rfl
  | succ n ih =>
    show mt_c t b n + mt_1 t (b + n) = 0
    rw [ih (fun k hk => h k (by omega)), mt_1_0 (h n (by omega))]
theorem mt_s_none {t : mt_T} {b n : Nat} (h : ∀ k, k < n → t (b + k) = none) : mt_s t b n = 0 := by
  induction n with
  | zero => rfl
  | succ n ih =>
    show mt_s t b n + mt_v t (b + n) = 0
    rw [ih (fun k hk => h k (by omega))]
    simp [mt_v, h n (by omega)]
theorem mt_c_zero {t : mt_T} {b n : Nat} (h : mt_c t b n = 0) : ∀ k, k < n → t (b + k) = none := by
  induction n with
  | zero => intro k hk; omega
  | succ n ih =>
    have h' : mt_c t b n + mt_1 t (b + n) = 0 := h
    intro k hk
    by_cases hk2 : k < n
    · exact ih (by omega) k hk2
    · have e : k = n := by omega
      subst e
      have h1 : mt_1 t (b + k) = 0 := by omega
      unfold mt_1 at h1
      split at h1
      · assumption
      · omega
theorem mt_d_same {t u : mt_T} {b n : Nat} (h : ∀ k, k < n → t (b + k) = u (b + k)) : mt_d t u b n = 0 := by
  induction n with
  | zero => rfl
  | succ n ih =>
    show mt_d t u b n + (if t (b + n) = u (b + n) then 0 else 1) = 0
    rw [ih (fun k hk => h k (by omega)), if_pos (h n (by omega))]
theorem mt_d_l {t u : mt_T} {b n : Nat} (h : ∀ k, k < n → t (b + k) = none) : mt_d t u b n = mt_c u b n := by
  induction n with
  | zero => rfl
  | succ n ih =>
    show mt_d t u b n + (if t (b + n) = u (b + n) then 0 else 1) = mt_c u b n + mt_1 u (b + n)
    rw [ih (fun k hk => h k (by omega)), h n (by omega)]
    unfold mt_1
    by_cases e : u (b + n) = none
    · simp [e]
    · simp [e, Ne.symm e]
theorem mt_d_r {t u : mt_T} {b n : Nat} (h : ∀ k, k < n → u (b + k) = none) : mt_d t u b n = mt_c t b n := by
  induction n with
  | zero => rfl
  | succ n ih =>
    show mt_d t u b n + (if t (b + n) = u (b + n) then 0 else 1) = mt_c t b n + mt_1 t (b + n)
    rw [ih (fun k hk => h k (by omega)), h n (by omega)]
    unfold mt_1
    by_cases e : t (b + n) = none <;> simp [e]
theorem mt_g_none {t : mt_T} {b : Nat} {z : Int64} {n : Nat} (h : ∀ k, k < n → t (b + k) = none) : mt_g t b z n = z := by
  induction n with
  | zero => rfl
  | succ n ih =>
    show mt_gs (mt_g t b z n) (b + n) (t (b + n)) = z
    rw [ih (fun k hk => h k (by omega)), h n (by omega)]
    rfl
/-- the tree of height h over the keys from b on, by its root: a node of the pool L, or null where there is no key -/
def mt_rep (L : List Nat) (p : Nat → mt_N) (t : mt_T) : Nat → Nat → Option Nat → Prop
  | 0, b, none => t b = none
  | 0, b, some a => a ∈ L ∧ ∃ x, t b = some x ∧ p a = (0, nI b, none, none, x, 1, x.toInt64)
  | h + 1, b, none => ∀ k, k < 2 ^ (h + 1) → t (b + k) = none
  | h + 1, b, some a => a ∈ L ∧ ∃ lo hi, p a = (nI (h + 1), nI b, lo, hi, 0, nI (mt_c t b (2 ^ (h + 1))), mt_s t b (2 ^ (h + 1))) ∧ mt_rep L p t h b lo ∧ mt_rep L p t h (b + 2 ^ h) hi ∧ ¬ (lo = none ∧ hi = none)
theorem mt_two (h : Nat) : 2 ^ (h + 1) = 2 ^ h + 2 ^ h := by rw [Nat.pow_succ]; omega
theorem mt_rep_none {L : List Nat} {p : Nat → mt_N} {t : mt_T} {h b : Nat} : mt_rep L p t h b none ↔ ∀ k, k < 2 ^ h → t (b + k) = none := by
  cases h with
  | zero =>
    constructor
    · intro q k hk
      have e : k = 0 := by simp at hk; exact hk
      subst e
      exact q
    · intro q
      exact q 0 (by simp)
  | succ h => exact Iff.rfl
theorem mt_rep_mem {L : List Nat} {p : Nat → mt_N} {t : mt_T} {h b : Nat} {r : Option Nat} (q : mt_rep L p t h b r) : ∀ a, r = some a → a ∈ L := by
  intro a e
  subst e
  cases h with
  | zero => exact q.1
  | succ h => exact q.1
theorem mt_rep_at {L : List Nat} {p : Nat → mt_N} {t : mt_T} {h b : Nat} {r : Option Nat} (q : mt_rep L p t h b r) : ∀ a, r = some a → a ∈ L ∧ (p a).1 = nI h ∧ (p a).2.1 = nI b := by
  intro a e
  subst e
  cases h with
  | zero =>
    obtain ⟨h1, x, -, h2⟩ := q
    rw [h2]
    exact ⟨h1, rfl, rfl⟩
  | succ h =>
    obtain ⟨h1, lo, hi, h2, -⟩ := q
    rw [h2]
    exact ⟨h1, rfl, rfl⟩
theorem mt_rep_down {L : List Nat} {p : Nat → mt_N} {t : mt_T} {h b : Nat} {r : Option Nat} (q : mt_rep L p t (h + 1) b r) : mt_rep L p t h b (mt_lo p r) ∧ mt_rep L p t h (b + 2 ^ h) (mt_hi p r) := by
  cases r with
  | none =>
    have q1 : ∀ k, k < 2 ^ (h + 1) → t (b + k) = none := q
    rw [mt_two] at q1
    refine ⟨mt_rep_none.mpr (fun k hk => q1 k (by omega)), mt_rep_none.mpr (fun k hk => ?_)⟩
    rw [Nat.add_assoc]
    exact q1 _ (by omega)
  | some a =>
    obtain ⟨-, lo, hi, h2, h3, h4, -⟩ := q
    show mt_rep L p t h b (p a).2.2.1 ∧ mt_rep L p t h (b + 2 ^ h) (p a).2.2.2.1
    rw [h2]
    exact ⟨h3, h4⟩
theorem mt_rep_sz {L : List Nat} {p : Nat → mt_N} {t : mt_T} {h b : Nat} {r : Option Nat} (q : mt_rep L p t h b r) : mt_sz p r = nI (mt_c t b (2 ^ h)) ∧ mt_to p r = mt_s t b (2 ^ h) := by
  cases r with
  | none =>
    have q1 := mt_rep_none.mp q
    rw [mt_c_none q1, mt_s_none q1]
    exact ⟨rfl, rfl⟩
  | some a =>
    cases h with
    | zero =>
      obtain ⟨-, x, h1, h2⟩ := q
      show (p a).2.2.2.2.2.1 = _ ∧ (p a).2.2.2.2.2.2 = _
      rw [h2]
      have e1 : mt_c t b (2 ^ 0) = 1 := by
        show 0 + mt_1 t (b + 0) = 1
        rw [Nat.add_zero, mt_1_1 (by rw [h1]; intro z; cases z)]
      have e2 : mt_s t b (2 ^ 0) = x.toInt64 := by
        show 0 + mt_v t (b + 0) = _
        rw [Nat.add_zero, Int64.zero_add]
        unfold mt_v
        rw [h1]
      rw [e1, e2]
      exact ⟨rfl, rfl⟩
    | succ h =>
      obtain ⟨-, lo, hi, h2, -⟩ := q
      show (p a).2.2.2.2.2.1 = _ ∧ (p a).2.2.2.2.2.2 = _
      rw [h2]
      exact ⟨rfl, rfl⟩
theorem mt_rep_keep {L L' : List Nat} {p p' : Nat → mt_N} {t : mt_T} (hk : ∀ a, a ∈ L → a ∈ L' ∧ p' a = p a) : ∀ {h b : Nat} {r : Option Nat}, mt_rep L p t h b r → mt_rep L' p' t h b r := by
  intro h
  induction h with
  | zero =>
    intro b r q
    cases r with
    | none => exact q
    | some a =>
      obtain ⟨h1, x, h2, h3⟩ := q
      exact ⟨(hk a h1).1, x, h2, by rw [(hk a h1).2]; exact h3⟩
  | succ h ih =>
    intro b r q
    cases r with
    | none => exact q
    | some a =>
      obtain ⟨h1, lo, hi, h2, h3, h4, h5⟩ := q
      exact ⟨(hk a h1).1, lo, hi, by rw [(hk a h1).2]; exact h2, ih h3, ih h4, h5⟩
theorem mt_rep_ext {L : List Nat} {p : Nat → mt_N} {t u : mt_T} : ∀ {h b : Nat} {r : Option Nat}, (∀ k, k < 2 ^ h → u (b + k) = t (b + k)) → mt_rep L p t h b r → mt_rep L p u h b r := by
  intro h
  induction h with
  | zero =>
    intro b r e q
    have e0 : u b = t b := e 0 (by simp)
    cases r with
    | none =>
      show u b = none
      rw [e0]
      exact q
    | some a =>
      obtain ⟨h1, x, h2, h3⟩ := q
      exact ⟨h1, x, by rw [e0]; exact h2, h3⟩
  | succ h ih =>
    intro b r e q
    have e2 : ∀ k, k < 2 ^ h + 2 ^ h → u (b + k) = t (b + k) := by rw [← mt_two]; exact e
    cases r with
    | none =>
      show ∀ k, k < 2 ^ (h + 1) → u (b + k) = none
      intro k hk
      rw [e k hk]
      exact q k hk
    | some a =>
      obtain ⟨h1, lo, hi, h2, h3, h4, h5⟩ := q
      refine ⟨h1, lo, hi, ?_, ih (fun k hk => e2 k (by omega)) h3, ih (fun k hk => ?_) h4, h5⟩
      · rw [mt_c_ext e, mt_s_ext e]
        exact h2
      · rw [Nat.add_assoc]
        exact e2 _ (by omega)
theorem mt_rep_some {L : List Nat} {p : Nat → mt_N} {t : mt_T} : ∀ {h b : Nat} {a : Nat}, mt_rep L p t h b (some a) → mt_c t b (2 ^ h) ≠ 0 := by
  intro h
  induction h with
  | zero =>
    intro b a q
    obtain ⟨-, x, h1, -⟩ := q
    show 0 + mt_1 t (b + 0) ≠ 0
    rw [Nat.add_zero, mt_1_1 (by rw [h1]; intro z; cases z)]
    omega
  | succ h ih =>
    intro b a q
    obtain ⟨-, lo, hi, -, h3, h4, h5⟩ := q
    rw [mt_two, mt_c_add]
    cases lo with
    | some x =>
      have := ih h3
      omega
    | none =>
      cases hi with
      | some y =>
        have := ih h4
        omega
      | none => exact absurd ⟨rfl, rfl⟩ h5
/-- one root, one table -/
theorem mt_rep_fun {L : List Nat} {p : Nat → mt_N} {t u : mt_T} : ∀ {h b : Nat} {r : Option Nat}, mt_rep L p t h b r → mt_rep L p u h b r → ∀ k, k < 2 ^ h → t (b + k) = u (b + k) := by
  intro h
  induction h with
  | zero =>
    intro b r q1 q2 k hk
    have e : k = 0 := by simp at hk; exact hk
    subst e
    cases r with
    | none => exact (show t b = none from q1).trans (show u b = none from q2).symm
    | some a =>
      obtain ⟨-, x, h1, h2⟩ := q1
      obtain ⟨-, y, h3, h4⟩ := q2
      rw [h2] at h4
      injection h4 with _ h4
      injection h4 with _ h4
      injection h4 with _ h4
      injection h4 with _ h4
      injection h4 with h4 _
      show t b = u b
      rw [h1, h3, h4]
  | succ h ih =>
    intro b r q1 q2 k hk
    cases r with
    | none => rw [mt_rep_none.mp q1 k hk, mt_rep_none.mp q2 k hk]
    | some a =>
      obtain ⟨d1, d2⟩ := mt_rep_down q1
      obtain ⟨d3, d4⟩ := mt_rep_down q2
      rw [mt_two] at hk
      by_cases hk2 : k < 2 ^ h
      · exact ih d1 d3 k hk2
      · have := ih d2 d4 (k - 2 ^ h) (by omega)
        rw [Nat.add_assoc, show 2 ^ h + (k - 2 ^ h) = k by omega] at this
        exact this
/-- what check asks of a node -/
def mt_is (L : List Nat) (p : Nat → mt_N) (r : Option Nat) (h b : Nat) : Prop := ∀ a, r = some a → a ∈ L ∧ (p a).1 = nI h ∧ (p a).2.1 = nI b
def mt_ok (L : List Nat) (p : Nat → mt_N) (a : Nat) : Prop :=
  (∃ b x, p a = (0, b, none, none, x, 1, x.toInt64)) ∨ ∃ h b lo hi, h < 8 ∧ b + 2 ^ (h + 1) ≤ 256 ∧ p a = (nI (h + 1), nI b, lo, hi, 0, mt_sz p lo + mt_sz p hi, mt_to p lo + mt_to p hi) ∧ ¬ (lo = none ∧ hi = none) ∧ mt_is L p lo h b ∧ mt_is L p hi h (b + 2 ^ h)
theorem mt_is_keep {L L' : List Nat} {p p' : Nat → mt_N} (hk : ∀ a, a ∈ L → a ∈ L' ∧ p' a = p a) {r : Option Nat} {h b : Nat} (q : mt_is L p r h b) : mt_is L' p' r h b ∧ mt_sz p' r = mt_sz p r ∧ mt_to p' r = mt_to p r := by
  cases r with
  | none => exact ⟨fun a e => (nomatch e), rfl, rfl⟩
  | some a =>
    obtain ⟨h1, h2, h3⟩ := q a rfl
    obtain ⟨k1, k2⟩ := hk a h1
    refine ⟨fun a' e => ?_, ?_, ?_⟩
    · cases e
      rw [k2]
      exact ⟨k1, h2, h3⟩
    · show (p' a).2.2.2.2.2.1 = (p a).2.2.2.2.2.1
      rw [k2]
    · show (p' a).2.2.2.2.2.2 = (p a).2.2.2.2.2.2
      rw [k2]
theorem mt_ok_keep {L L' : List Nat} {p p' : Nat → mt_N} (hk : ∀ a, a ∈ L → a ∈ L' ∧ p' a = p a) {a : Nat} (ha : a ∈ L) (q : mt_ok L p a) : mt_ok L' p' a := by
  have ea := (hk a ha).2
  rcases q with ⟨b, x, h1⟩ | ⟨h, b, lo, hi, h1, h2, h3, h4, h5, h6⟩
  · exact Or.inl ⟨b, x, by rw [ea]; exact h1⟩
  · obtain ⟨l1, l2, l3⟩ := mt_is_keep hk h5
    obtain ⟨r1, r2, r3⟩ := mt_is_keep hk h6
    exact Or.inr ⟨h, b, lo, hi, h1, h2, by rw [ea, l2, l3, r2, r3]; exact h3, h4, l1, r1⟩
/-- how many nodes meld makes on the way to k, up to height h -/
def mt_na (t : mt_T) (k : Nat) : Nat → Nat
  | 0 => 0
  | h + 1 => mt_na t k h + (if mt_c t (k / 2 ^ (h + 1) * 2 ^ (h + 1)) (2 ^ (h + 1)) = 0 then 0 else 1)
theorem mt_na_le (t : mt_T) (k h : Nat) : mt_na t k h ≤ h := by
  induction h with
  | zero => exact Nat.le_refl _
  | succ h ih =>
    unfold mt_na
    split <;> omega
/-- an ArrayList's places behind an add, and behind j adds -/
def mt_cap1 (n c : Nat) : Nat := if n < c then c else if c = 0 then 10 else c + c / 2
def mt_cap (n c : Nat) : Nat → Nat
  | 0 => c
  | j + 1 => mt_cap1 (n + j) (mt_cap n c j)
def mt_gr1 (n c : Nat) : Nat := if n < c then 0 else mt_cap1 n c
def mt_gr (n c : Nat) : Nat → Nat
  | 0 => 0
  | j + 1 => mt_gr n c j + mt_gr1 (n + j) (mt_cap n c j)
/-- a list's size and places: none yet, or at least ten and not many more than are used -/
def mt_lc (n c : Nat) : Prop := (n = 0 ∧ c = 0) ∨ (10 ≤ c ∧ n ≤ c ∧ 0 < n ∧ (c = 10 ∨ 2 * c ≤ 3 * n))
theorem mt_lc1 {n c : Nat} (h : mt_lc n c) : mt_lc (n + 1) (mt_cap1 n c) ∧ mt_gr1 n c + 4 * c ≤ 4 * mt_cap1 n c ∧ c ≤ mt_cap1 n c := by
  unfold mt_lc mt_cap1 mt_gr1 mt_cap1 at *
  split
  · omega
  · split <;> omega
theorem mt_lcj {n c : Nat} (h : mt_lc n c) (j : Nat) : mt_lc (n + j) (mt_cap n c j) ∧ mt_gr n c j + 4 * c ≤ 4 * mt_cap n c j ∧ c ≤ mt_cap n c j := by
  induction j with
  | zero => exact ⟨h, by simp [mt_gr, mt_cap], Nat.le_refl _⟩
  | succ j ih =>
    obtain ⟨h1, h2, h3⟩ := ih
    obtain ⟨k1, k2, k3⟩ := mt_lc1 h1
    refine ⟨k1, ?_, Nat.le_trans h3 k3⟩
    show mt_gr n c j + mt_gr1 (n + j) (mt_cap n c j) + 4 * c ≤ 4 * mt_cap1 (n + j) (mt_cap n c j)
    omega
theorem mt_lc_max {n c : Nat} (h : mt_lc n c) : n ≤ c ∧ c ≤ 2 * n + 10 := by
  unfold mt_lc at h
  omega
end
/-! pure: bits of a key, bounds, what the reference counts -/
section
theorem mt_sh31 : ∀ h, h < 9 → ((nI h &&& 31).toBitVec.smod 32).toNat = h := by decide +kernel
theorem mt_bit {k h : Nat} (hk : k < 256) (hh : h < 8) : ((nI k >>> ((nI (h + 1) - 1) &&& 31)) &&& 1) = nI (k / 2 ^ h % 2) := by
  rw [nI_pred, pk_shrN (by omega) _ h (mt_sh31 h (by omega)), pk_andN (Nat.lt_of_le_of_lt (Nat.div_le_self _ _) (by omega)) 1 (by decide +kernel)]
theorem mt_first {k h : Nat} (hk : k < 256) (hh : h < 9) : (nI k >>> (nI h &&& 31)) <<< (nI h &&& 31) = nI (k / 2 ^ h * 2 ^ h) := by
  rw [pk_shrN (by omega) _ h (mt_sh31 h hh), pk_shlN _ h (mt_sh31 h hh) (Nat.lt_of_le_of_lt (Nat.div_mul_le_self _ _) (by omega))]
theorem mt_one : ∀ h, h < 8 → (1 : Int32) <<< (nI h &&& 31) = nI (2 ^ h) := by decide +kernel
theorem mt_base (k h : Nat) : k / 2 ^ h * 2 ^ h = k / 2 ^ (h + 1) * 2 ^ (h + 1) + k / 2 ^ h % 2 * 2 ^ h := by
  rw [Nat.pow_succ, ← Nat.div_div_eq_div_mul]
  generalize k / 2 ^ h = q
  generalize 2 ^ h = P
  have e : q = q / 2 * 2 + q % 2 := by omega
  calc q * P = (q / 2 * 2 + q % 2) * P := by rw [← e]
    _ = q / 2 * (P * 2) + q % 2 * P := by rw [Nat.add_mul, Nat.mul_assoc, Nat.mul_comm 2 P]
theorem mt_in (k h : Nat) : k / 2 ^ h * 2 ^ h ≤ k ∧ k < k / 2 ^ h * 2 ^ h + 2 ^ h := by
  have h1 := Nat.div_add_mod k (2 ^ h)
  have h2 := Nat.mod_lt k (Nat.two_pow_pos h)
  rw [Nat.mul_comm] at h1
  omega
theorem mt_base0 (k : Nat) : k / 2 ^ 0 * 2 ^ 0 = k := by simp
theorem mt_base8 {k : Nat} (h : k < 256) : k / 2 ^ 8 * 2 ^ 8 = 0 := by
  rw [Nat.div_eq_of_lt (by omega), Nat.zero_mul]
theorem mt_256 {k h : Nat} (hk : k < 256) (hh : h < 9) : k / 2 ^ h * 2 ^ h + 2 ^ h ≤ 256 := by
  have e : (256 : Nat) = 2 ^ h * 2 ^ (8 - h) := by rw [← Nat.pow_add, show h + (8 - h) = 8 by omega]
  have h1 : k / 2 ^ h < 2 ^ (8 - h) := by
    rw [Nat.div_lt_iff_lt_mul (Nat.two_pow_pos h), Nat.mul_comm, ← e]
    exact hk
  calc k / 2 ^ h * 2 ^ h + 2 ^ h = (k / 2 ^ h + 1) * 2 ^ h := by rw [Nat.add_mul, Nat.one_mul]
    _ ≤ 2 ^ (8 - h) * 2 ^ h := Nat.mul_le_mul_right _ h1
    _ = 256 := by rw [Nat.mul_comm, ← e]
/-- a bound, cut to 0 .. 256 -/
def mt_cl (a : Int32) : Nat := if a ≤ 0 then 0 else if nI 256 ≤ a then 256 else a.toInt.toNat
theorem mt_cl_le (a : Int32) : mt_cl a ≤ 256 := by
  unfold mt_cl
  split
  · omega
  · split
    · omega
    · next h1 h2 =>
      rw [Int32.le_iff_toInt_le, nI_toInt (by omega)] at h2
      omega
theorem mt_cl_ge {a : Int32} {k : Nat} (hk : k < 256) : a ≤ nI k ↔ mt_cl a ≤ k := by
  rw [Int32.le_iff_toInt_le, nI_toInt (by omega)]
  unfold mt_cl
  split
  · next h =>
    rw [Int32.le_iff_toInt_le, Int32.toInt_zero] at h
    omega
  · next h =>
    rw [Int32.le_iff_toInt_le, Int32.toInt_zero] at h
    split
    · next h2 =>
      rw [Int32.le_iff_toInt_le, nI_toInt (by omega)] at h2
      omega
    · next h2 =>
      rw [Int32.le_iff_toInt_le, nI_toInt (by omega)] at h2
      omega
theorem mt_cl_lt {a : Int32} {k : Nat} (hk : k < 256) : nI k < a ↔ k < mt_cl a := by
  rw [Int32.lt_iff_toInt_lt, nI_toInt (by omega)]
  unfold mt_cl
  split
  · next h =>
    rw [Int32.le_iff_toInt_le, Int32.toInt_zero] at h
    omega
  · next h =>
    rw [Int32.le_iff_toInt_le, Int32.toInt_zero] at h
    split
    · next h2 =>
      rw [Int32.le_iff_toInt_le, nI_toInt (by omega)] at h2
      omega
    · next h2 =>
      rw [Int32.le_iff_toInt_le, nI_toInt (by omega)] at h2
      omega
theorem mt_cl_mono {a b : Int32} (h : a < b) : mt_cl a ≤ mt_cl b := by
  rw [Int32.lt_iff_toInt_lt] at h
  unfold mt_cl
  simp only [Int32.le_iff_toInt_le, Int32.toInt_zero, nI_toInt (show 256 < 2 ^ 31 by omega)]
  split
  · omega
  · split
    · split
      · omega
      · split <;> omega
    · split
      · omega
      · split <;> omega
theorem mt_cl_anti {a b : Int32} (h : ¬ a < b) : mt_cl b ≤ mt_cl a := by
  rw [Int32.lt_iff_toInt_lt] at h
  unfold mt_cl
  simp only [Int32.le_iff_toInt_le, Int32.toInt_zero, nI_toInt (show 256 < 2 ^ 31 by omega)]
  split
  · omega
  · split
    · split
      · omega
      · split <;> omega
    · split
      · omega
      · split <;> omega
/-- the keys below n that lie between a and b, as the reference counts them -/
def mt_m (t : mt_T) (x y : Nat) : Nat → Nat
  | 0 => 0
  | n + 1 => mt_m t x y n + (if x ≤ n ∧ n < y ∧ t n ≠ none then 1 else 0)
def mt_ms (t : mt_T) (x y : Nat) : Nat → Int64
  | 0 => 0
  | n + 1 => mt_ms t x y n + (if x ≤ n ∧ n < y then mt_v t n else 0)
theorem mt_m_le (t : mt_T) (x y n : Nat) : mt_m t x y n ≤ n := by
  induction n with
  | zero => exact Nat.le_refl _
  | succ n ih =>
    unfold mt_m
    split <;> omega
theorem mt_m_eq (t : mt_T) {x y : Nat} (h : x ≤ y) (n : Nat) : mt_m t x y n + mt_c t 0 (min n x) = mt_c t 0 (min n y) := by
  induction n with
  | zero => simp [mt_m]
  | succ n ih =>
    unfold mt_m
    by_cases h1 : n < x
    · rw [if_neg (by omega), Nat.min_eq_left (show n + 1 ≤ x by omega), Nat.min_eq_left (show n + 1 ≤ y by omega)]
      rw [Nat.min_eq_left (show n ≤ x by omega), Nat.min_eq_left (show n ≤ y by omega)] at ih
      show mt_m t x y n + 0 + (mt_c t 0 n + mt_1 t (0 + n)) = mt_c t 0 n + mt_1 t (0 + n)
      omega
    · rw [Nat.min_eq_right (show x ≤ n + 1 by omega)]
      rw [Nat.min_eq_right (show x ≤ n by omega)] at ih
      by_cases h2 : n < y
      · rw [Nat.min_eq_left (show n + 1 ≤ y by omega)]
        rw [Nat.min_eq_left (show n ≤ y by omega)] at ih
        show _ = mt_c t 0 n + mt_1 t (0 + n)
        rw [Nat.zero_add]
        unfold mt_1
        by_cases e : t n = none
        · rw [if_neg (by simp [e]), if_pos e]
          omega
        · rw [if_pos ⟨by omega, h2, e⟩, if_neg e]
          omega
      · rw [Nat.min_eq_right (show y ≤ n + 1 by omega)]
        rw [Nat.min_eq_right (show y ≤ n by omega)] at ih
        rw [if_neg (by omega)]
        omega
theorem mt_m_0 (t : mt_T) {x y : Nat} (h : y ≤ x) (n : Nat) : mt_m t x y n = 0 := by
  induction n with
  | zero => rfl
  | succ n ih =>
    unfold mt_m
    rw [ih, if_neg (by omega)]
theorem mt_ms_eq (t : mt_T) {x y : Nat} (h : x ≤ y) (n : Nat) : mt_ms t x y n + mt_s t 0 (min n x) = mt_s t 0 (min n y) := by
  induction n with
  | zero => simp [mt_ms, mt_s]
  | succ n ih =>
    unfold mt_ms
    by_cases h1 : n < x
    · rw [if_neg (by omega), Nat.min_eq_left (show n + 1 ≤ x by omega), Nat.min_eq_left (show n + 1 ≤ y by omega)]
      rw [Nat.min_eq_left (show n ≤ x by omega), Nat.min_eq_left (show n ≤ y by omega)] at ih
      show mt_ms t x y n + 0 + (mt_s t 0 n + mt_v t (0 + n)) = mt_s t 0 n + mt_v t (0 + n)
      rw [Int64.add_zero, ← Int64.add_assoc, ih]
    · rw [Nat.min_eq_right (show x ≤ n + 1 by omega)]
      rw [Nat.min_eq_right (show x ≤ n by omega)] at ih
      by_cases h2 : n < y
      · rw [Nat.min_eq_left (show n + 1 ≤ y by omega)]
        rw [Nat.min_eq_left (show n ≤ y by omega)] at ih
        show _ = mt_s t 0 n + mt_v t (0 + n)
        rw [Nat.zero_add, if_pos ⟨by omega, h2⟩, ← ih, Int64.add_assoc, Int64.add_assoc, Int64.add_comm (mt_v t n)]
      · rw [Nat.min_eq_right (show y ≤ n + 1 by omega)]
        rw [Nat.min_eq_right (show y ≤ n by omega)] at ih
        rw [if_neg (by omega), Int64.add_zero]
        exact ih
theorem mt_ms_0 (t : mt_T) {x y : Nat} (h : y ≤ x) (n : Nat) : mt_ms t x y n = 0 := by
  induction n with
  | zero => rfl
  | succ n ih =>
    unfold mt_ms
    rw [ih, if_neg (by omega), Int64.add_zero]
/-- the answers of many and sum, from both sides -/
theorem mt_many (t : mt_T) (a b : Int32) : (if a < b then nI (mt_c t 0 (mt_cl b)) - nI (mt_c t 0 (mt_cl a)) else 0) = nI (mt_m t (mt_cl a) (mt_cl b) 256) := by
  by_cases h : a < b
  · rw [if_pos h]
    have e := mt_m_eq t (mt_cl_mono h) 256
    rw [Nat.min_eq_right (mt_cl_le a), Nat.min_eq_right (mt_cl_le b)] at e
    rw [pk_sub (by omega)]
    congr 1
    omega
  · rw [if_neg h, mt_m_0 t (mt_cl_anti h)]
    rfl
theorem mt_sum (t : mt_T) (a b : Int32) : (if a < b then mt_s t 0 (mt_cl b) - mt_s t 0 (mt_cl a) else 0) = mt_ms t (mt_cl a) (mt_cl b) 256 := by
  by_cases h : a < b
  · rw [if_pos h]
    have e := mt_ms_eq t (mt_cl_mono h) 256
    rw [Nat.min_eq_right (mt_cl_le a), Nat.min_eq_right (mt_cl_le b)] at e
    rw [← e, Int64.add_sub_cancel]
  · rw [if_neg h, mt_ms_0 t (mt_cl_anti h)]
end
