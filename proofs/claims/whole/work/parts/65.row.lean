/-! ===== the first row of most sacks: what it is ===== -/
/-- the first below k for which Q holds; k, if there is none -/
def lf (Q : Nat → Bool) : Nat → Nat
  | 0 => 0
  | k + 1 => if lf Q k < k then lf Q k else if Q k = true then k else k + 1
theorem lf_spec (Q : Nat → Bool) : ∀ k, lf Q k ≤ k ∧ (∀ j, j < lf Q k → Q j = false) ∧ (lf Q k < k → Q (lf Q k) = true) := by
  intro k
  induction k with
  | zero => exact ⟨Nat.le_refl 0, fun j hj => absurd hj (by simp [lf]), fun h => absurd h (by simp [lf])⟩
  | succ k ih =>
    obtain ⟨h1, h2, h3⟩ := ih
    simp only [lf]
    by_cases g : lf Q k < k
    · rw [if_pos g]
      exact ⟨by omega, h2, fun _ => h3 g⟩
    · rw [if_neg g]
      have e : lf Q k = k := by omega
      rw [e] at h2
      by_cases q : Q k = true
      · rw [if_pos q]
        exact ⟨by omega, h2, fun _ => q⟩
      · rw [if_neg q]
        refine ⟨Nat.le_refl _, fun j hj => ?_, fun h => by omega⟩
        rcases Nat.lt_or_ge j k with r | r
        · exact h2 j r
        · rw [show j = k by omega]
          cases hq : Q k
          · rfl
          · exact absurd hq q
theorem lf_at {Q : Nat → Bool} {i k : Nat} (hi : i < k) (h1 : Q i = true) (h2 : ∀ j, j < i → Q j = false) : lf Q k = i := by
  obtain ⟨g1, g2, g3⟩ := lf_spec Q k
  rcases Nat.lt_trichotomy (lf Q k) i with q | q | q
  · have := g3 (by omega)
    rw [h2 _ q] at this
    exact absurd this (by decide)
  · exact q
  · have := g2 i q
    rw [h1] at this
    exact absurd this (by decide)
/-- used sacks; the code of what is left; the last kind, the one ahead of it -/
abbrev RS : Type := Nat × Nat × Nat × Nat
def qB (law : Nat) (V : MV) (s : RS) (i : Nat) : Bool := decide (mvD V i 4 = 0 ∧ s.1.testBit i = false ∧ (mvD V i 0 ≠ s.2.2.1 ∧ (law = 0 ∨ mvD V i 0 ≠ s.2.2.2)) ∧ 1 + DV false law (bW V) (s.2.1 - stp (bW V) (mvD V i 0)) (mvD V i 0) s.2.2.1 = DV false law (bW V) s.2.1 s.2.2.1 s.2.2.2)
def rsF (law : Nat) (V : MV) (s : RS) : Nat := lf (qB law V s) (mvN V)
def rsN (law : Nat) (V : MV) (s : RS) : RS := (s.1 ||| 2 ^ rsF law V s, s.2.1 - stp (bW V) (mvD V (rsF law V s) 0), mvD V (rsF law V s) 0, s.2.2.1)
def rs (law : Nat) (V : MV) : Nat → RS
  | 0 => (0, stp (bW V) 5 - 1, mvL V, mvA V)
  | k + 1 => rsN law V (rs law V k)
/-- 1 for those that wait and aren't used -/
def wU (V : MV) (u i : Nat) : Nat := if mvD V i 4 = 0 ∧ u.testBit i = false then 1 else 0
def rsG (law : Nat) (V : MV) (s : RS) (m : Nat) : Prop := s.1 < 1024 ∧ s.2.1 < stp (bW V) 5 ∧ s.2.2.1 ≤ 5 ∧ s.2.2.2 ≤ 5 ∧ DV false law (bW V) s.2.1 s.2.2.1 s.2.2.2 = m ∧ ∀ k, k < 5 → dig (bW V) k s.2.1 = kc (gK (mvD V)) (wU V s.1) (mvN V) k
theorem dig_full (b : Nat → Nat) {k : Nat} (hk : k < 5) : dig b k (stp b 5 - 1) = b k := by
  obtain ⟨m, e⟩ := stp_dvd b (show k + 1 ≤ 5 by omega)
  have hp := stp_pos b k
  have h5 := stp_pos b 5
  rw [show stp b (k + 1) = stp b k * (b k + 1) from rfl, Nat.mul_assoc] at e
  have hM : 1 ≤ (b k + 1) * m := by
    rcases Nat.eq_zero_or_pos ((b k + 1) * m) with q | q
    · rw [q, Nat.mul_zero] at e; omega
    · exact q
  have hm : 1 ≤ m := by
    rcases Nat.eq_zero_or_pos m with q | q
    · rw [q, Nat.mul_zero] at hM; omega
    · exact q
  unfold dig
  have e5 : stp b 5 - 1 = stp b k * ((b k + 1) * m - 1) + (stp b k - 1) := by
    rw [e, Nat.mul_sub, Nat.mul_one]
    have : stp b k * 1 ≤ stp b k * ((b k + 1) * m) := Nat.mul_le_mul_left _ hM
    omega
  rw [e5, Nat.mul_add_div hp, Nat.div_eq_of_lt (by omega), Nat.add_zero]
  obtain ⟨q, rfl⟩ : ∃ q, m = q + 1 := ⟨m - 1, by omega⟩
  have e6 : (b k + 1) * (q + 1) - 1 = (b k + 1) * q + b k := by rw [Nat.mul_add, Nat.mul_one]; omega
  rw [e6, Nat.mul_add_mod, Nat.mod_eq_of_lt (by omega)]
theorem dpF_att {law : Nat} {b : Nat → Nat} {R : Nat → Nat → Nat → Nat} {code l a : Nat} : ∀ k, 0 < dpF false law b R code l a k → ∃ j, j < k ∧ 0 < dig b j code ∧ j ≠ l ∧ (law = 0 ∨ j ≠ a) ∧ 1 + R (code - stp b j) j l = dpF false law b R code l a k := by
  intro k
  induction k with
  | zero => intro h; simp [dpF] at h
  | succ k ih =>
    intro h
    simp only [dpF] at h ⊢
    by_cases g : 0 < dig b k code ∧ k ≠ l ∧ (law = 0 ∨ k ≠ a)
    · rw [if_pos g] at h ⊢
      simp only [Bool.false_eq_true, if_false] at h ⊢
      rcases Nat.lt_or_ge (1 + R (code - stp b k) k l) (dpF false law b R code l a k) with q | q
      · obtain ⟨j, h1, h2, h3, h4, h5⟩ := ih (by omega)
        exact ⟨j, by omega, h2, h3, h4, by rw [Nat.max_eq_left (by omega)]; exact h5⟩
      · exact ⟨k, by omega, g.1, g.2.1, g.2.2, by rw [Nat.max_eq_right q]⟩
    · rw [if_neg g] at h ⊢
      obtain ⟨j, h1, h2⟩ := ih h
      exact ⟨j, by omega, h2⟩
theorem kc_pos {g w : Nat → Nat} {k : Nat} : ∀ n, 0 < kc g w n k → ∃ i, i < n ∧ g i = k ∧ 0 < w i := by
  intro n
  induction n with
  | zero => intro h; simp [kc] at h
  | succ n ih =>
    intro h
    simp only [kc] at h
    by_cases e : g n = k ∧ 0 < w n
    · exact ⟨n, by omega, e.1, e.2⟩
    · obtain ⟨i, h1, h2⟩ := ih (by
        by_cases q : g n = k
        · rw [if_pos q] at h; omega
        · rw [if_neg q] at h; omega)
      exact ⟨i, by omega, h2⟩
theorem kc_ge {g w : Nat → Nat} {i : Nat} : ∀ n, i < n → 0 < w i → 0 < kc g w n (g i) := by
  intro n
  induction n with
  | zero => intro h; omega
  | succ n ih =>
    intro h hw
    simp only [kc]
    rcases Nat.lt_or_ge i n with q | q
    · have := ih q hw; omega
    · rw [show n = i by omega, if_pos rfl]; omega
theorem kc_use {V : MV} {u i : Nat} (hi : mvD V i 4 = 0 ∧ u.testBit i = false) (k : Nat) : ∀ n, kc (gK (mvD V)) (wU V (u ||| 2 ^ i)) n k + (if i < n ∧ mvD V i 0 = k then 1 else 0) = kc (gK (mvD V)) (wU V u) n k := by
  intro n
  induction n with
  | zero => simp [kc]
  | succ n ih =>
    simp only [kc]
    by_cases e : n = i
    · subst e
      have w1 : wU V (u ||| 2 ^ n) n = 0 := by
        unfold wU
        rw [if_neg]
        rw [tb_put]
        simp
      have w2 : wU V u n = 1 := by
        unfold wU
        rw [if_pos hi]
      rw [w1, w2]
      rw [if_neg (by omega)] at ih
      have eg : gK (mvD V) n = mvD V n 0 := rfl
      rw [eg]
      by_cases q : mvD V n 0 = k
      · rw [if_pos q, if_pos q, if_pos ⟨by omega, q⟩]; omega
      · rw [if_neg q, if_neg q, if_neg (fun r => q r.2)]; omega
    · have w1 : wU V (u ||| 2 ^ i) n = wU V u n := by
        unfold wU
        rw [tb_put]
        simp [show ¬ i = n by omega]
      rw [w1]
      by_cases q : i < n ∧ mvD V i 0 = k
      · rw [if_pos q] at ih
        rw [if_pos (show i < n + 1 ∧ mvD V i 0 = k from ⟨by omega, q.2⟩)]; omega
      · rw [if_neg q] at ih
        rw [if_neg (show ¬ (i < n + 1 ∧ mvD V i 0 = k) from fun r => q ⟨by omega, r.2⟩)]; omega
theorem rs_go {law : Nat} {V : MV} (hV : WFV V) {s : RS} {m : Nat} (h : rsG law V s (m + 1)) : rsF law V s < mvN V ∧ qB law V s (rsF law V s) = true ∧ 0 < dig (bW V) (mvD V (rsF law V s) 0) s.2.1 ∧ rsG law V (rsN law V s) m := by
  obtain ⟨h1, h2, h3, h4, h5, h6⟩ := h
  have hat : ∃ i, i < mvN V ∧ qB law V s i = true := by
    have hd := DV_eq false law (bW V) s.2.1 s.2.2.1 s.2.2.2
    obtain ⟨j, g1, g2, g3, g4, g5⟩ := dpF_att (law := law) (b := bW V) (R := DV false law (bW V)) (code := s.2.1) (l := s.2.2.1) (a := s.2.2.2) 5 (by rw [← hd, h5]; omega)
    rw [h6 j g1] at g2
    obtain ⟨i, q1, q2, q3⟩ := kc_pos _ g2
    have q2 : mvD V i 0 = j := q2
    refine ⟨i, q1, ?_⟩
    unfold wU at q3
    unfold qB
    rw [decide_eq_true_iff, q2, ← hd] at *
    by_cases r : mvD V i 4 = 0 ∧ s.1.testBit i = false
    · exact ⟨r.1, r.2, ⟨g3, g4⟩, g5⟩
    · rw [if_neg r] at q3; omega
  obtain ⟨i, hi, hq⟩ := hat
  obtain ⟨l1, l2, l3⟩ := lf_spec (qB law V s) (mvN V)
  have hlt : rsF law V s < mvN V := by
    rcases Nat.lt_or_ge (rsF law V s) (mvN V) with q | q
    · exact q
    · have q : mvN V ≤ lf (qB law V s) (mvN V) := q
      have := l2 i (by omega)
      rw [hq] at this
      exact absurd this (by decide)
  have hQ : qB law V s (rsF law V s) = true := l3 hlt
  have hQ' := hQ
  unfold qB at hQ'
  rw [decide_eq_true_iff] at hQ'
  obtain ⟨p1, p2, p3, p4⟩ := hQ'
  have hk := (hV.2.1 _ hlt).1
  have hn := hV.1
  have hdp : 0 < dig (bW V) (mvD V (rsF law V s) 0) s.2.1 := by
    rw [h6 _ hk]
    exact kc_ge (g := gK (mvD V)) (w := wU V s.1) (i := rsF law V s) (mvN V) hlt (by unfold wU; rw [if_pos ⟨p1, p2⟩]; omega)
  refine ⟨hlt, hQ, hdp, ?_, ?_, ?_, h3, ?_, ?_⟩
  · show s.1 ||| 2 ^ rsF law V s < 1024
    exact or_lt (n := 10) (by rw [pow10]; exact h1) (by omega)
  · show s.2.1 - stp (bW V) _ < stp (bW V) 5
    omega
  · show mvD V (rsF law V s) 0 ≤ 5
    omega
  · show DV false law (bW V) (s.2.1 - stp (bW V) (mvD V (rsF law V s) 0)) (mvD V (rsF law V s) 0) s.2.2.1 = m
    omega
  · intro k hk5
    show dig (bW V) k (s.2.1 - stp (bW V) (mvD V (rsF law V s) 0)) = kc (gK (mvD V)) (wU V (s.1 ||| 2 ^ rsF law V s)) (mvN V) k
    have hu := kc_use (V := V) (u := s.1) (i := rsF law V s) ⟨p1, p2⟩ k (mvN V)
    have h6k := h6 k hk5
    generalize mvD V (rsF law V s) 0 = r at *
    rcases Nat.lt_trichotomy k r with q | q | q
    · rw [dig_sub_lt q hdp]
      rw [if_neg (by omega)] at hu
      omega
    · subst q
      have := dig_sub_same hdp
      rw [if_pos ⟨hlt, rfl⟩] at hu
      omega
    · rw [dig_sub_gt q hdp]
      rw [if_neg (by omega)] at hu
      omega
theorem rs_start {law : Nat} {V : MV} (hV : WFV V) : rsG law V (rs law V 0) (DV false law (bW V) (stp (bW V) 5 - 1) (mvL V) (mvA V)) := by
  have hp := stp_pos (bW V) 5
  refine ⟨by show 0 < 1024; omega, by show stp (bW V) 5 - 1 < _; omega, hV.2.2.1, hV.2.2.2.1, rfl, ?_⟩
  intro k hk
  show dig (bW V) k (stp (bW V) 5 - 1) = _
  rw [dig_full _ hk]
  exact kc_congr _ (fun i hi => ⟨rfl, by show wW (mvD V) i = wU V 0 i; unfold wW wU; simp⟩)
theorem rs_at {law : Nat} {V : MV} (hV : WFV V) : ∀ k m, k + m = DV false law (bW V) (stp (bW V) 5 - 1) (mvL V) (mvA V) → rsG law V (rs law V k) m := by
  intro k
  induction k with
  | zero =>
    intro m h
    rw [show m = DV false law (bW V) (stp (bW V) 5 - 1) (mvL V) (mvA V) by omega]
    exact rs_start hV
  | succ k ih =>
    intro m h
    exact (rs_go hV (ih (m + 1) (by omega))).2.2.2
