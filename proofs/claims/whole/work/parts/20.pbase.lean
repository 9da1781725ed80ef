/-! ===== pure rules: loops ===== -/
theorem bnd_s {α β : Type} (a : α) (k : α → Option β) : bnd (some a) k = k a := rfl
theorem bnd2_s {α γ β : Type} (a : α) (c : γ) (k : α → γ → Option β) : bnd2 (some (a, c)) k = k a c := rfl
theorem nm_s {α β : Type} (x : α) (k : α → Option β) : nm x k = k x := rfl
theorem jn0_s {ρ : Type} (K : Option ρ) (b : Option ρ → Option ρ) : jn0 K b = b K := rfl
theorem jn1_s {ρ A1 : Type} (K : A1 → Option ρ) (b : (A1 → Option ρ) → Option ρ) : jn1 K b = b K := rfl
/-- a loop of at most N rounds: in each, with I, the body goes on with I, or it is at its end, with C -/
theorem wl1_for {ρ A1 : Type} {body : (A1 → Option ρ) → A1 → Option ρ} (I : Nat → A1 → Prop) (N : Nat) (C : Option ρ → Prop) (hb : ∀ (rec : A1 → Option ρ) (i : Nat) (x1 : A1), i ≤ N → I i x1 → (i < N ∧ ∃ (y1 : A1), I (i + 1) y1 ∧ body rec x1 = rec y1) ∨ C (body rec x1)) : ∀ (n i : Nat) (x1 : A1), N < n + i → i ≤ N → I i x1 → C (wl1 body n x1) := by
  intro n
  induction n with
  | zero => intro i x1 h1 h2; omega
  | succ n ih =>
    intro i x1 h1 h2 h3
    show C (body (wl1 body n) x1)
    rcases hb (wl1 body n) i x1 h2 h3 with ⟨h4, y1, h5, h6⟩ | h4
    · rw [h6]
      exact ih (i + 1) y1 (by omega) (by omega) h5
    · exact h4
theorem wl1_fuel {ρ A1 : Type} {body : (A1 → Option ρ) → A1 → Option ρ} (I : Nat → A1 → Prop) (N : Nat) (hN : N < 1000000) (C : Option ρ → Prop) (hb : ∀ (rec : A1 → Option ρ) (i : Nat) (x1 : A1), i ≤ N → I i x1 → (i < N ∧ ∃ (y1 : A1), I (i + 1) y1 ∧ body rec x1 = rec y1) ∨ C (body rec x1)) (x1 : A1) (h0 : I 0 x1) : C (wl1 body fuel x1) :=
  wl1_for I N C hb fuel 0 x1 (by show N < 1000000 + 0; omega) (Nat.zero_le N) h0
theorem jn2_s {ρ A1 A2 : Type} (K : A1 → A2 → Option ρ) (b : (A1 → A2 → Option ρ) → Option ρ) : jn2 K b = b K := rfl
/-- a loop of at most N rounds: in each, with I, the body goes on with I, or it is at its end, with C -/
theorem wl2_for {ρ A1 A2 : Type} {body : (A1 → A2 → Option ρ) → A1 → A2 → Option ρ} (I : Nat → A1 → A2 → Prop) (N : Nat) (C : Option ρ → Prop) (hb : ∀ (rec : A1 → A2 → Option ρ) (i : Nat) (x1 : A1) (x2 : A2), i ≤ N → I i x1 x2 → (i < N ∧ ∃ (y1 : A1) (y2 : A2), I (i + 1) y1 y2 ∧ body rec x1 x2 = rec y1 y2) ∨ C (body rec x1 x2)) : ∀ (n i : Nat) (x1 : A1) (x2 : A2), N < n + i → i ≤ N → I i x1 x2 → C (wl2 body n x1 x2) := by
  intro n
  induction n with
  | zero => intro i x1 x2 h1 h2; omega
  | succ n ih =>
    intro i x1 x2 h1 h2 h3
    show C (body (wl2 body n) x1 x2)
    rcases hb (wl2 body n) i x1 x2 h2 h3 with ⟨h4, y1, y2, h5, h6⟩ | h4
    · rw [h6]
      exact ih (i + 1) y1 y2 (by omega) (by omega) h5
    · exact h4
theorem wl2_fuel {ρ A1 A2 : Type} {body : (A1 → A2 → Option ρ) → A1 → A2 → Option ρ} (I : Nat → A1 → A2 → Prop) (N : Nat) (hN : N < 1000000) (C : Option ρ → Prop) (hb : ∀ (rec : A1 → A2 → Option ρ) (i : Nat) (x1 : A1) (x2 : A2), i ≤ N → I i x1 x2 → (i < N ∧ ∃ (y1 : A1) (y2 : A2), I (i + 1) y1 y2 ∧ body rec x1 x2 = rec y1 y2) ∨ C (body rec x1 x2)) (x1 : A1) (x2 : A2) (h0 : I 0 x1 x2) : C (wl2 body fuel x1 x2) :=
  wl2_for I N C hb fuel 0 x1 x2 (by show N < 1000000 + 0; omega) (Nat.zero_le N) h0
theorem jn3_s {ρ A1 A2 A3 : Type} (K : A1 → A2 → A3 → Option ρ) (b : (A1 → A2 → A3 → Option ρ) → Option ρ) : jn3 K b = b K := rfl
/-- a loop of at most N rounds: in each, with I, the body goes on with I, or it is at its end, with C -/
theorem wl3_for {ρ A1 A2 A3 : Type} {body : (A1 → A2 → A3 → Option ρ) → A1 → A2 → A3 → Option ρ} (I : Nat → A1 → A2 → A3 → Prop) (N : Nat) (C : Option ρ → Prop) (hb : ∀ (rec : A1 → A2 → A3 → Option ρ) (i : Nat) (x1 : A1) (x2 : A2) (x3 : A3), i ≤ N → I i x1 x2 x3 → (i < N ∧ ∃ (y1 : A1) (y2 : A2) (y3 : A3), I (i + 1) y1 y2 y3 ∧ body rec x1 x2 x3 = rec y1 y2 y3) ∨ C (body rec x1 x2 x3)) : ∀ (n i : Nat) (x1 : A1) (x2 : A2) (x3 : A3), N < n + i → i ≤ N → I i x1 x2 x3 → C (wl3 body n x1 x2 x3) := by
  intro n
  induction n with
  | zero => intro i x1 x2 x3 h1 h2; omega
  | succ n ih =>
    intro i x1 x2 x3 h1 h2 h3
    show C (body (wl3 body n) x1 x2 x3)
    rcases hb (wl3 body n) i x1 x2 x3 h2 h3 with ⟨h4, y1, y2, y3, h5, h6⟩ | h4
    · rw [h6]
      exact ih (i + 1) y1 y2 y3 (by omega) (by omega) h5
    · exact h4
theorem wl3_fuel {ρ A1 A2 A3 : Type} {body : (A1 → A2 → A3 → Option ρ) → A1 → A2 → A3 → Option ρ} (I : Nat → A1 → A2 → A3 → Prop) (N : Nat) (hN : N < 1000000) (C : Option ρ → Prop) (hb : ∀ (rec : A1 → A2 → A3 → Option ρ) (i : Nat) (x1 : A1) (x2 : A2) (x3 : A3), i ≤ N → I i x1 x2 x3 → (i < N ∧ ∃ (y1 : A1) (y2 : A2) (y3 : A3), I (i + 1) y1 y2 y3 ∧ body rec x1 x2 x3 = rec y1 y2 y3) ∨ C (body rec x1 x2 x3)) (x1 : A1) (x2 : A2) (x3 : A3) (h0 : I 0 x1 x2 x3) : C (wl3 body fuel x1 x2 x3) :=
  wl3_for I N C hb fuel 0 x1 x2 x3 (by show N < 1000000 + 0; omega) (Nat.zero_le N) h0
theorem jn4_s {ρ A1 A2 A3 A4 : Type} (K : A1 → A2 → A3 → A4 → Option ρ) (b : (A1 → A2 → A3 → A4 → Option ρ) → Option ρ) : jn4 K b = b K := rfl
/-- a loop of at most N rounds: in each, with I, the body goes on with I, or it is at its end, with C -/
theorem wl4_for {ρ A1 A2 A3 A4 : Type} {body : (A1 → A2 → A3 → A4 → Option ρ) → A1 → A2 → A3 → A4 → Option ρ} (I : Nat → A1 → A2 → A3 → A4 → Prop) (N : Nat) (C : Option ρ → Prop) (hb : ∀ (rec : A1 → A2 → A3 → A4 → Option ρ) (i : Nat) (x1 : A1) (x2 : A2) (x3 : A3) (x4 : A4), i ≤ N → I i x1 x2 x3 x4 → (i < N ∧ ∃ (y1 : A1) (y2 : A2) (y3 : A3) (y4 : A4), I (i + 1) y1 y2 y3 y4 ∧ body rec x1 x2 x3 x4 = rec y1 y2 y3 y4) ∨ C (body rec x1 x2 x3 x4)) : ∀ (n i : Nat) (x1 : A1) (x2 : A2) (x3 : A3) (x4 : A4), N < n + i → i ≤ N → I i x1 x2 x3 x4 → C (wl4 body n x1 x2 x3 x4) := by
  intro n
  induction n with
  | zero => intro i x1 x2 x3 x4 h1 h2; omega
  | succ n ih =>
    intro i x1 x2 x3 x4 h1 h2 h3
    show C (body (wl4 body n) x1 x2 x3 x4)
    rcases hb (wl4 body n) i x1 x2 x3 x4 h2 h3 with ⟨h4, y1, y2, y3, y4, h5, h6⟩ | h4
    · rw [h6]
      exact ih (i + 1) y1 y2 y3 y4 (by omega) (by omega) h5
    · exact h4
theorem wl4_fuel {ρ A1 A2 A3 A4 : Type} {body : (A1 → A2 → A3 → A4 → Option ρ) → A1 → A2 → A3 → A4 → Option ρ} (I : Nat → A1 → A2 → A3 → A4 → Prop) (N : Nat) (hN : N < 1000000) (C : Option ρ → Prop) (hb : ∀ (rec : A1 → A2 → A3 → A4 → Option ρ) (i : Nat) (x1 : A1) (x2 : A2) (x3 : A3) (x4 : A4), i ≤ N → I i x1 x2 x3 x4 → (i < N ∧ ∃ (y1 : A1) (y2 : A2) (y3 : A3) (y4 : A4), I (i + 1) y1 y2 y3 y4 ∧ body rec x1 x2 x3 x4 = rec y1 y2 y3 y4) ∨ C (body rec x1 x2 x3 x4)) (x1 : A1) (x2 : A2) (x3 : A3) (x4 : A4) (h0 : I 0 x1 x2 x3 x4) : C (wl4 body fuel x1 x2 x3 x4) :=
  wl4_for I N C hb fuel 0 x1 x2 x3 x4 (by show N < 1000000 + 0; omega) (Nat.zero_le N) h0
theorem jn5_s {ρ A1 A2 A3 A4 A5 : Type} (K : A1 → A2 → A3 → A4 → A5 → Option ρ) (b : (A1 → A2 → A3 → A4 → A5 → Option ρ) → Option ρ) : jn5 K b = b K := rfl
/-- a loop of at most N rounds: in each, with I, the body goes on with I, or it is at its end, with C -/
theorem wl5_for {ρ A1 A2 A3 A4 A5 : Type} {body : (A1 → A2 → A3 → A4 → A5 → Option ρ) → A1 → A2 → A3 → A4 → A5 → Option ρ} (I : Nat → A1 → A2 → A3 → A4 → A5 → Prop) (N : Nat) (C : Option ρ → Prop) (hb : ∀ (rec : A1 → A2 → A3 → A4 → A5 → Option ρ) (i : Nat) (x1 : A1) (x2 : A2) (x3 : A3) (x4 : A4) (x5 : A5), i ≤ N → I i x1 x2 x3 x4 x5 → (i < N ∧ ∃ (y1 : A1) (y2 : A2) (y3 : A3) (y4 : A4) (y5 : A5), I (i + 1) y1 y2 y3 y4 y5 ∧ body rec x1 x2 x3 x4 x5 = rec y1 y2 y3 y4 y5) ∨ C (body rec x1 x2 x3 x4 x5)) : ∀ (n i : Nat) (x1 : A1) (x2 : A2) (x3 : A3) (x4 : A4) (x5 : A5), N < n + i → i ≤ N → I i x1 x2 x3 x4 x5 → C (wl5 body n x1 x2 x3 x4 x5) := by
  intro n
  induction n with
  | zero => intro i x1 x2 x3 x4 x5 h1 h2; omega
  | succ n ih =>
    intro i x1 x2 x3 x4 x5 h1 h2 h3
    show C (body (wl5 body n) x1 x2 x3 x4 x5)
    rcases hb (wl5 body n) i x1 x2 x3 x4 x5 h2 h3 with ⟨h4, y1, y2, y3, y4, y5, h5, h6⟩ | h4
    · rw [h6]
      exact ih (i + 1) y1 y2 y3 y4 y5 (by omega) (by omega) h5
    · exact h4
theorem wl5_fuel {ρ A1 A2 A3 A4 A5 : Type} {body : (A1 → A2 → A3 → A4 → A5 → Option ρ) → A1 → A2 → A3 → A4 → A5 → Option ρ} (I : Nat → A1 → A2 → A3 → A4 → A5 → Prop) (N : Nat) (hN : N < 1000000) (C : Option ρ → Prop) (hb : ∀ (rec : A1 → A2 → A3 → A4 → A5 → Option ρ) (i : Nat) (x1 : A1) (x2 : A2) (x3 : A3) (x4 : A4) (x5 : A5), i ≤ N → I i x1 x2 x3 x4 x5 → (i < N ∧ ∃ (y1 : A1) (y2 : A2) (y3 : A3) (y4 : A4) (y5 : A5), I (i + 1) y1 y2 y3 y4 y5 ∧ body rec x1 x2 x3 x4 x5 = rec y1 y2 y3 y4 y5) ∨ C (body rec x1 x2 x3 x4 x5)) (x1 : A1) (x2 : A2) (x3 : A3) (x4 : A4) (x5 : A5) (h0 : I 0 x1 x2 x3 x4 x5) : C (wl5 body fuel x1 x2 x3 x4 x5) :=
  wl5_for I N C hb fuel 0 x1 x2 x3 x4 x5 (by show N < 1000000 + 0; omega) (Nat.zero_le N) h0
theorem jn6_s {ρ A1 A2 A3 A4 A5 A6 : Type} (K : A1 → A2 → A3 → A4 → A5 → A6 → Option ρ) (b : (A1 → A2 → A3 → A4 → A5 → A6 → Option ρ) → Option ρ) : jn6 K b = b K := rfl
/-- a loop of at most N rounds: in each, with I, the body goes on with I, or it is at its end, with C -/
theorem wl6_for {ρ A1 A2 A3 A4 A5 A6 : Type} {body : (A1 → A2 → A3 → A4 → A5 → A6 → Option ρ) → A1 → A2 → A3 → A4 → A5 → A6 → Option ρ} (I : Nat → A1 → A2 → A3 → A4 → A5 → A6 → Prop) (N : Nat) (C : Option ρ → Prop) (hb : ∀ (rec : A1 → A2 → A3 → A4 → A5 → A6 → Option ρ) (i : Nat) (x1 : A1) (x2 : A2) (x3 : A3) (x4 : A4) (x5 : A5) (x6 : A6), i ≤ N → I i x1 x2 x3 x4 x5 x6 → (i < N ∧ ∃ (y1 : A1) (y2 : A2) (y3 : A3) (y4 : A4) (y5 : A5) (y6 : A6), I (i + 1) y1 y2 y3 y4 y5 y6 ∧ body rec x1 x2 x3 x4 x5 x6 = rec y1 y2 y3 y4 y5 y6) ∨ C (body rec x1 x2 x3 x4 x5 x6)) : ∀ (n i : Nat) (x1 : A1) (x2 : A2) (x3 : A3) (x4 : A4) (x5 : A5) (x6 : A6), N < n + i → i ≤ N → I i x1 x2 x3 x4 x5 x6 → C (wl6 body n x1 x2 x3 x4 x5 x6) := by
  intro n
  induction n with
  | zero => intro i x1 x2 x3 x4 x5 x6 h1 h2; omega
  | succ n ih =>
    intro i x1 x2 x3 x4 x5 x6 h1 h2 h3
    show C (body (wl6 body n) x1 x2 x3 x4 x5 x6)
    rcases hb (wl6 body n) i x1 x2 x3 x4 x5 x6 h2 h3 with ⟨h4, y1, y2, y3, y4, y5, y6, h5, h6⟩ | h4
    · rw [h6]
      exact ih (i + 1) y1 y2 y3 y4 y5 y6 (by omega) (by omega) h5
    · exact h4
theorem wl6_fuel {ρ A1 A2 A3 A4 A5 A6 : Type} {body : (A1 → A2 → A3 → A4 → A5 → A6 → Option ρ) → A1 → A2 → A3 → A4 → A5 → A6 → Option ρ} (I : Nat → A1 → A2 → A3 → A4 → A5 → A6 → Prop) (N : Nat) (hN : N < 1000000) (C : Option ρ → Prop) (hb : ∀ (rec : A1 → A2 → A3 → A4 → A5 → A6 → Option ρ) (i : Nat) (x1 : A1) (x2 : A2) (x3 : A3) (x4 : A4) (x5 : A5) (x6 : A6), i ≤ N → I i x1 x2 x3 x4 x5 x6 → (i < N ∧ ∃ (y1 : A1) (y2 : A2) (y3 : A3) (y4 : A4) (y5 : A5) (y6 : A6), I (i + 1) y1 y2 y3 y4 y5 y6 ∧ body rec x1 x2 x3 x4 x5 x6 = rec y1 y2 y3 y4 y5 y6) ∨ C (body rec x1 x2 x3 x4 x5 x6)) (x1 : A1) (x2 : A2) (x3 : A3) (x4 : A4) (x5 : A5) (x6 : A6) (h0 : I 0 x1 x2 x3 x4 x5 x6) : C (wl6 body fuel x1 x2 x3 x4 x5 x6) :=
  wl6_for I N C hb fuel 0 x1 x2 x3 x4 x5 x6 (by show N < 1000000 + 0; omega) (Nat.zero_le N) h0
/-! ===== numbers ===== -/
theorem nle {a b : Nat} (ha : a < 2147483648) (hb : b < 2147483648) : (nI a ≤ nI b) = (a ≤ b) := propext (nI_leI ha hb)
theorem nlt {a b : Nat} (ha : a < 2147483648) (hb : b < 2147483648) : (nI a < nI b) = (a < b) := propext (nI_ltI ha hb)
theorem neq {a b : Nat} (ha : a < 2147483648) (hb : b < 2147483648) : (nI a = nI b) = (a = b) := propext (nI_eq ha hb)
theorem i_le (a b : Int32) : (a ≤ b) = (a.toInt ≤ b.toInt) := propext Int32.le_iff_toInt_le
theorem i_lt (a b : Int32) : (a < b) = (a.toInt < b.toInt) := propext Int32.lt_iff_toInt_lt
theorem i_eq (a b : Int32) : (a = b) = (a.toInt = b.toInt) := propext Int32.toInt_inj.symm
theorem l_le (a b : Int64) : (a ≤ b) = (a.toInt ≤ b.toInt) := propext Int64.le_iff_toInt_le
theorem l_lt (a b : Int64) : (a < b) = (a.toInt < b.toInt) := propext Int64.lt_iff_toInt_lt
theorem l_eq (a b : Int64) : (a = b) = (a.toInt = b.toInt) := propext Int64.toInt_inj.symm
theorem lg_lt (x y : Int64) : (lg_cmp x y < 0) = (x < y) := by
  unfold lg_cmp
  by_cases h1 : x > y
  · rw [if_pos h1]
    simp only [l_lt, gt_iff_lt] at h1 ⊢
    simp only [eq_iff_iff]
    constructor
    · intro h; exact absurd h (by decide)
    · intro h; omega
  · rw [if_neg h1]
    by_cases h2 : x = y
    · rw [if_pos h2, h2]
      simp [l_lt]
    · rw [if_neg h2]
      simp only [gt_iff_lt, l_lt, l_eq] at *
      simp only [eq_iff_iff]
      constructor
      · intro _; omega
      · intro _; decide
theorem lg_gt (x y : Int64) : (0 < lg_cmp x y) = (y < x) := by
  unfold lg_cmp
  by_cases h1 : x > y
  · rw [if_pos h1]
    simp only [eq_iff_iff]
    exact ⟨fun _ => h1, fun _ => by decide⟩
  · rw [if_neg h1]
    by_cases h2 : x = y
    · rw [if_pos h2, h2]
      simp [l_lt]
    · rw [if_neg h2]
      simp only [gt_iff_lt, l_lt, l_eq] at *
      simp only [eq_iff_iff]
      constructor
      · intro h; exact absurd h (by decide)
      · intro _; omega
theorem wide (x : Int32) : x.toInt64.toInt = x.toInt := Int32.toInt_toInt64 x
/-- an int is a small natural number, or it lies outside -/
theorem i_cases (x : Int32) (n : Nat) (hn : n < 2147483648) : (∃ j, j < n ∧ x = nI j) ∨ x < 0 ∨ nI n ≤ x := by
  rcases pk_ix x (n := n) hn with h | h | h
  · exact Or.inr (Or.inl h)
  · exact Or.inr (Or.inr h)
  · exact Or.inl h
