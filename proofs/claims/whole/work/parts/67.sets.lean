/-! ===== sets of sacks and the least hours: what the tables hold ===== -/
def FARn : Nat := 1000000
/-- the least of what P holds for, FAR if there is none below it -/
def isMin (P : Nat → Prop) (v : Nat) : Prop := v ≤ FARn ∧ (v < FARn → P v) ∧ ∀ h, P h → v ≤ h
theorem isMin.one {P : Nat → Prop} {v w : Nat} (h : isMin P v) (g : isMin P w) : v = w := by
  obtain ⟨h1, h2, h3⟩ := h
  obtain ⟨g1, g2, g3⟩ := g
  rcases Nat.lt_trichotomy v w with q | q | q
  · have := g3 v (h2 (by omega)); omega
  · exact q
  · have := h3 w (g2 (by omega)); omega
theorem isMin.congr {P Q : Nat → Prop} {v : Nat} (h : isMin P v) (e : ∀ x, P x ↔ Q x) : isMin Q v := ⟨h.1, fun q => (e v).mp (h.2.1 q), fun x q => h.2.2 x ((e x).mpr q)⟩
section GD
variable (N : Nat) (kd cm sz : Nat → Nat) (ok : Nat → Prop) (mx3 : Nat → Nat → Nat → Prop) (hd : Nat → Nat) (e0 H0 : Nat)
/-- a place of the table and a sack from which another place is reached -/
def gS (t : Nat → Nat) (S l a i : Nat) : Prop := l ≤ 5 ∧ a ≤ 5 ∧ i < N ∧ S.testBit i = false ∧ ok i ∧ mx3 (kd i) l a ∧ t (36 * S + (6 * l + a)) < FARn
def gP (t : Nat → Nat) (m e h : Nat) : Prop := (e = e0 ∧ h = H0) ∨ ∃ S l a i, gS N kd ok mx3 t S l a i ∧ 10 * (36 * S + (6 * l + a)) + i < m ∧ e = 36 * (S ||| 2 ^ i) + (6 * kd i + hd l) ∧ h = max (t (36 * S + (6 * l + a))) (cm i) + sz i
def gQ (t : Nat → Nat) (m : Nat) : Prop := ∀ e, e < 36 * 2 ^ N → isMin (gP N kd cm sz ok mx3 hd e0 H0 t m e) (t e)
theorem gQ_start (hH : H0 < FARn) (t : Nat → Nat) (h1 : t e0 = H0) (h2 : ∀ e, e < 36 * 2 ^ N → e ≠ e0 → t e = FARn) : gQ N kd cm sz ok mx3 hd e0 H0 t 0 := by
  intro e he
  by_cases q : e = e0
  · subst q
    rw [h1]
    refine ⟨by omega, fun _ => Or.inl ⟨rfl, rfl⟩, fun h r => ?_⟩
    rcases r with ⟨_, rfl⟩ | ⟨S, l, a, i, _, r2, _⟩
    · exact Nat.le_refl _
    · omega
  · rw [h2 e he q]
    refine ⟨Nat.le_refl _, fun r => absurd r (by omega), fun h r => ?_⟩
    rcases r with ⟨r1, _⟩ | ⟨S, l, a, i, _, r2, _⟩
    · exact absurd r1 q
    · omega
theorem gQ_skip {t : Nat → Nat} {m m' : Nat} (hm : m ≤ m') (h : gQ N kd cm sz ok mx3 hd e0 H0 t m) (hno : ∀ S l a i, gS N kd ok mx3 t S l a i → m ≤ 10 * (36 * S + (6 * l + a)) + i → ¬ 10 * (36 * S + (6 * l + a)) + i < m') : gQ N kd cm sz ok mx3 hd e0 H0 t m' := by
  intro e he
  refine (h e he).congr (fun x => ⟨?_, ?_⟩)
  · rintro (r | ⟨S, l, a, i, r1, r2, r3⟩)
    · exact Or.inl r
    · exact Or.inr ⟨S, l, a, i, r1, by omega, r3⟩
  · rintro (r | ⟨S, l, a, i, r1, r2, r3⟩)
    · exact Or.inl r
    · refine Or.inr ⟨S, l, a, i, r1, ?_, r3⟩
      rcases Nat.lt_or_ge (10 * (36 * S + (6 * l + a)) + i) m with q | q
      · exact q
      · exact absurd r2 (hno S l a i r1 q)
theorem pair_one {N : Nat} {S l a i S' l' a' i' : Nat} (hN : N ≤ 10) (h1 : l ≤ 5 ∧ a ≤ 5 ∧ i < N) (h2 : l' ≤ 5 ∧ a' ≤ 5 ∧ i' < N) (e : 10 * (36 * S + (6 * l + a)) + i = 10 * (36 * S' + (6 * l' + a')) + i') : S = S' ∧ l = l' ∧ a = a' ∧ i = i' := by omega
theorem gQ_push {t : Nat → Nat} {S l a i : Nat} (hN : N ≤ 10) (hs : gS N kd ok mx3 t S l a i) (hkd : kd i ≤ 5) (hhd : hd l ≤ 5) (h : gQ N kd cm sz ok mx3 hd e0 H0 t (10 * (36 * S + (6 * l + a)) + i)) : gQ N kd cm sz ok mx3 hd e0 H0 (fun x => if x = 36 * (S ||| 2 ^ i) + (6 * kd i + hd l) then min (t (36 * (S ||| 2 ^ i) + (6 * kd i + hd l))) (max (t (36 * S + (6 * l + a))) (cm i) + sz i) else t x) (10 * (36 * S + (6 * l + a)) + i + 1) := by
  have hor := or_put hs.2.2.2.1
  have hpw := Nat.two_pow_pos i
  generalize hto : 36 * (S ||| 2 ^ i) + (6 * kd i + hd l) = to at *
  have hgt : 36 * S + (6 * l + a) < to := by have := hs.1; have := hs.2.1; omega
  generalize hv : max (t (36 * S + (6 * l + a))) (cm i) + sz i = v at *
  intro e he
  have hold := h e he
  -- what lies below isn't touched
  have same : ∀ x, x ≤ 36 * S + (6 * l + a) → (fun x => if x = to then min (t to) v else t x) x = t x := fun x hx => if_neg (by omega)
  have eqv : ∀ x, gP N kd cm sz ok mx3 hd e0 H0 (fun x => if x = to then min (t to) v else t x) (10 * (36 * S + (6 * l + a)) + i + 1) e x ↔ (gP N kd cm sz ok mx3 hd e0 H0 t (10 * (36 * S + (6 * l + a)) + i) e x ∨ (e = to ∧ x = v)) := by
    intro x
    constructor
    · rintro (r | ⟨S', l', a', i', r1, r2, r3, r4⟩)
      · exact Or.inl (Or.inl r)
      · obtain ⟨p1, p2, p3, p4, p5, p6, p7⟩ := r1
        have hle : 36 * S' + (6 * l' + a') ≤ 36 * S + (6 * l + a) := by have := hs.2.2.1; omega
        rw [same _ hle] at p7 r4
        rcases Nat.lt_or_ge (10 * (36 * S' + (6 * l' + a')) + i') (10 * (36 * S + (6 * l + a)) + i) with q | q
        · exact Or.inl (Or.inr ⟨S', l', a', i', ⟨p1, p2, p3, p4, p5, p6, p7⟩, q, r3, r4⟩)
        · obtain ⟨q1, q2, q3, q4⟩ := pair_one hN ⟨p1, p2, p3⟩ ⟨hs.1, hs.2.1, hs.2.2.1⟩ (show 10 * (36 * S' + (6 * l' + a')) + i' = 10 * (36 * S + (6 * l + a)) + i by omega)
          subst q1; subst q2; subst q3; subst q4
          exact Or.inr ⟨by rw [r3, hto], by rw [r4, hv]⟩
    · rintro ((r | ⟨S', l', a', i', r1, r2, r3, r4⟩) | ⟨r1, r2⟩)
      · exact Or.inl r
      · obtain ⟨p1, p2, p3, p4, p5, p6, p7⟩ := r1
        have hle : 36 * S' + (6 * l' + a') ≤ 36 * S + (6 * l + a) := by have := hs.2.2.1; omega
        refine Or.inr ⟨S', l', a', i', ⟨p1, p2, p3, p4, p5, p6, ?_⟩, by omega, r3, ?_⟩
        · rw [same _ hle]; exact p7
        · rw [same _ hle]; exact r4
      · refine Or.inr ⟨S, l, a, i, ⟨hs.1, hs.2.1, hs.2.2.1, hs.2.2.2.1, hs.2.2.2.2.1, hs.2.2.2.2.2.1, ?_⟩, by omega, ?_, ?_⟩
        · rw [same _ (Nat.le_refl _)]; exact hs.2.2.2.2.2.2
        · rw [r1, hto]
        · rw [same _ (Nat.le_refl _), r2, hv]
  refine isMin.congr ?_ (fun x => (eqv x).symm)
  by_cases q : e = to
  · show isMin _ (if e = to then min (t to) v else t e)
    rw [if_pos q]
    rw [q] at hold ⊢
    obtain ⟨g1, g2, g3⟩ := hold
    refine ⟨by omega, fun r => ?_, fun x r => ?_⟩
    · rcases Nat.lt_or_ge (t to) v with w | w
      · rw [Nat.min_eq_left (by omega)] at r ⊢
        exact Or.inl (g2 r)
      · rw [Nat.min_eq_right w]
        exact Or.inr ⟨rfl, rfl⟩
    · rcases r with r | ⟨_, r⟩
      · have := g3 x r; omega
      · omega
  · show isMin _ (if e = to then min (t to) v else t e)
    rw [if_neg q]
    obtain ⟨g1, g2, g3⟩ := hold
    refine ⟨g1, fun r => Or.inl (g2 r), fun x r => ?_⟩
    rcases r with r | ⟨r, _⟩
    · exact g3 x r
    · exact absurd r q
end GD
