/-! ===== sets as numbers ===== -/
/-- the number with just these bits -/
def bN (P : Nat → Bool) : Nat → Nat
  | 0 => 0
  | i + 1 => if P i = true then bN P i ||| 2 ^ i else bN P i
theorem bN_lt (P : Nat → Bool) : ∀ i, bN P i < 2 ^ i := by
  intro i
  induction i with
  | zero => simp [bN]
  | succ i ih =>
    have h : bN P i < 2 ^ (i + 1) := Nat.lt_of_lt_of_le ih (Nat.pow_le_pow_right (by omega) (by omega))
    simp only [bN]
    split
    · exact or_lt h (by omega)
    · exact h
theorem bN_tb (P : Nat → Bool) (q : Nat) : ∀ i, (bN P i).testBit q = (decide (q < i) && P q) := by
  intro i
  induction i with
  | zero => simp [bN]
  | succ i ih =>
    simp only [bN]
    by_cases h : P i = true
    · rw [if_pos h, tb_put, ih]
      by_cases e : i = q
      · subst e; simp [h]
      · simp only [e, decide_false, Bool.or_false]
        congr 1
        exact decide_eq_decide.mpr (by omega)
    · rw [if_neg h, ih]
      by_cases e : i = q
      · subst e
        have : P i = false := by cases hp : P i <;> simp_all
        simp [this]
      · congr 1
        exact decide_eq_decide.mpr (by omega)
theorem tb_big {s w q : Nat} (h : s < 2 ^ w) (hq : w ≤ q) : s.testBit q = false := Nat.testBit_lt_two_pow (Nat.lt_of_lt_of_le h (Nat.pow_le_pow_right (by omega) hq))
theorem tb_ext {s t : Nat} (h : ∀ q, s.testBit q = t.testBit q) : s = t := Nat.eq_of_testBit_eq h
theorem tb_take {s j : Nat} (h : s.testBit j = true) : ∃ s', s'.testBit j = false ∧ s = s' ||| 2 ^ j ∧ s' < s ∧ ∀ q, q ≠ j → s'.testBit q = s.testBit q := by
  have e1 : ∀ q, (s ^^^ 2 ^ j).testBit q = (s.testBit q ^^ decide (j = q)) := fun q => by rw [Nat.testBit_xor, Nat.testBit_two_pow]
  have h0 : (s ^^^ 2 ^ j).testBit j = false := by rw [e1, h]; simp
  have e2 : s = (s ^^^ 2 ^ j) ||| 2 ^ j := by
    apply tb_ext
    intro q
    rw [tb_put, e1]
    by_cases e : j = q
    · subst e; simp [h]
    · simp [e]
  have e3 := or_put h0
  have hp := Nat.two_pow_pos j
  exact ⟨s ^^^ 2 ^ j, h0, e2, by omega, fun q hq => by rw [e1]; simp [show ¬ j = q by omega]⟩
/-- two numbers, one less: the highest bit at which they differ -/
theorem tb_diff : ∀ w s s', s < 2 ^ w → s' < 2 ^ w → s < s' → ∃ j, j < w ∧ s.testBit j = false ∧ s'.testBit j = true ∧ ∀ q, j < q → s.testBit q = s'.testBit q := by
  intro w
  induction w with
  | zero => intro s s' h1 h2 h; simp at h1 h2; omega
  | succ w ih =>
    intro s s' h1 h2 h
    have big : ∀ q, w < q → s.testBit q = s'.testBit q := fun q hq => by rw [tb_big h1 (by omega), tb_big h2 (by omega)]
    rw [Nat.pow_succ] at h1 h2
    cases hb : s.testBit w <;> cases hb' : s'.testBit w
    · have g1 : s < 2 ^ w := by
        rcases Nat.lt_or_ge s (2 ^ w) with q | q
        · exact q
        · have : s / 2 ^ w % 2 = 1 := by rw [show s / 2 ^ w = 1 from Nat.div_eq_of_lt_le (by omega) (by omega)]
          rw [bit_n, hb] at this
          simp at this
      have g2 : s' < 2 ^ w := by
        rcases Nat.lt_or_ge s' (2 ^ w) with q | q
        · exact q
        · have : s' / 2 ^ w % 2 = 1 := by rw [show s' / 2 ^ w = 1 from Nat.div_eq_of_lt_le (by omega) (by omega)]
          rw [bit_n, hb'] at this
          simp at this
      obtain ⟨j, a, b, c, d⟩ := ih s s' g1 g2 h
      exact ⟨j, by omega, b, c, d⟩
    · exact ⟨w, by omega, hb, hb', fun q hq => big q hq⟩
    · exfalso
      have g2 : s' < 2 ^ w := by
        rcases Nat.lt_or_ge s' (2 ^ w) with q | q
        · exact q
        · have : s' / 2 ^ w % 2 = 1 := by rw [show s' / 2 ^ w = 1 from Nat.div_eq_of_lt_le (by omega) (by omega)]
          rw [bit_n, hb'] at this
          simp at this
      have : s / 2 ^ w % 2 = 0 := by rw [Nat.div_eq_of_lt (by omega)]
      rw [bit_n, hb] at this
      simp at this
    · have g1 : 2 ^ w ≤ s := by
        rcases Nat.lt_or_ge s (2 ^ w) with q | q
        · have : s / 2 ^ w % 2 = 0 := by rw [Nat.div_eq_of_lt q]
          rw [bit_n, hb] at this
          simp at this
        · exact q
      obtain ⟨r, e1, e2, e3, e4⟩ := tb_take hb
      obtain ⟨r', e1', e2', e3', e4'⟩ := tb_take hb'
      have p1 := or_put e1
      have p2 := or_put e1'
      have p3 := Nat.two_pow_pos w
      obtain ⟨j, a, b, c, d⟩ := ih r r' (by omega) (by omega) (by omega)
      refine ⟨j, by omega, by rw [← e4 j (by omega)]; exact b, by rw [← e4' j (by omega)]; exact c, fun q hq => ?_⟩
      by_cases e : q = w
      · rw [e, hb, hb']
      · rw [← e4 q e, ← e4' q e]
        exact d q hq
theorem tb_lt {x y i w : Nat} (hx : x < 2 ^ w) (hy : y < 2 ^ w) (h1 : x.testBit i = false) (h2 : y.testBit i = true) (h3 : ∀ q, i < q → x.testBit q = y.testBit q) : x < y := by
  rcases Nat.lt_trichotomy x y with g | g | g
  · exact g
  · rw [g, h2] at h1; exact absurd h1 (by decide)
  · exfalso
    obtain ⟨j, a, b, c, d⟩ := tb_diff w y x hy hx g
    rcases Nat.lt_trichotomy i j with q | q | q
    · have := h3 j q
      rw [b, c] at this
      exact absurd this (by decide)
    · subst q
      rw [h1] at c
      exact absurd c (by decide)
    · have := d i q
      rw [h1, h2] at this
      exact absurd this (by decide)
/-- a set of those that wait, as a set of sacks -/
def sgN (V : MV) (s : Nat) : Nat := bN (fun i => wP V i && s.testBit (cP (wP V) i)) (mvN V)
theorem sgN_lt (V : MV) (s : Nat) : sgN V s < 2 ^ mvN V := bN_lt _ _
theorem sgN_tb (V : MV) (s q : Nat) : (sgN V s).testBit q = (decide (q < mvN V) && (wP V q && s.testBit (cP (wP V) q))) := bN_tb _ _ _
theorem sgN_at {V : MV} {s j : Nat} (hj : j < nW V) : (sgN V s).testBit (at' V j) = s.testBit j := by
  obtain ⟨h1, h2, h3⟩ := aP_in _ _ hj
  rw [sgN_tb, h2, h3]
  simp [h1]
theorem sgN_w {V : MV} {s q : Nat} (h : (sgN V s).testBit q = true) : q < mvN V ∧ wP V q = true ∧ s.testBit (cP (wP V) q) = true := by
  rw [sgN_tb] at h
  simp at h
  exact ⟨h.1, h.2.1, h.2.2⟩
theorem sgN_inj {V : MV} {s s' : Nat} (h : s < 2 ^ nW V) (h' : s' < 2 ^ nW V) (e : sgN V s = sgN V s') : s = s' := by
  apply tb_ext
  intro q
  rcases Nat.lt_or_ge q (nW V) with g | g
  · rw [← sgN_at g, ← sgN_at g, e]
  · rw [tb_big h g, tb_big h' g]
theorem sgN_sur {V : MV} {S : Nat} (h : ∀ q, S.testBit q = true → q < mvN V ∧ wP V q = true) : ∃ s, s < 2 ^ nW V ∧ sgN V s = S := by
  refine ⟨bN (fun j => S.testBit (at' V j)) (nW V), bN_lt _ _, ?_⟩
  apply tb_ext
  intro q
  rw [sgN_tb, bN_tb]
  by_cases g : q < mvN V ∧ wP V q = true
  · have e1 : cP (wP V) q < nW V := cP_lt g.1 g.2
    have e2 : at' V (cP (wP V) q) = q := aP_at g.1 g.2
    rw [e2]
    simp [g.1, g.2, e1]
  · have : S.testBit q = false := by
      cases e : S.testBit q
      · rfl
      · exact absurd (h q e) g
    rw [this]
    by_cases g1 : q < mvN V
    · have : wP V q = false := by
        cases e : wP V q
        · rfl
        · exact absurd ⟨g1, e⟩ g
      simp [this]
    · simp [g1]
theorem sgN_put {V : MV} {s j : Nat} (hj : j < nW V) : sgN V (s ||| 2 ^ j) = sgN V s ||| 2 ^ at' V j := by
  obtain ⟨h1, h2, h3⟩ := aP_in _ _ hj
  apply tb_ext
  intro q
  rw [tb_put, sgN_tb, sgN_tb, tb_put]
  by_cases e : at' V j = q
  · subst e
    rw [h2, h3]
    simp [h1]
  · have : ¬ (q < mvN V ∧ wP V q = true ∧ j = cP (wP V) q) := by
      rintro ⟨a, b, c⟩
      apply e
      rw [c]
      exact aP_at a b
    by_cases g1 : q < mvN V
    · cases g2 : wP V q
      · simp [e]
      · have : ¬ j = cP (wP V) q := fun r => this ⟨g1, g2, r⟩
        simp [e, this]
    · simp [g1, e]
theorem sgN_mono {V : MV} {s s' : Nat} (h : s < 2 ^ nW V) (h' : s' < 2 ^ nW V) (hl : s < s') : sgN V s < sgN V s' := by
  obtain ⟨j, a, b, c, d⟩ := tb_diff _ _ _ h h' hl
  obtain ⟨h1, h2, h3⟩ := aP_in _ _ a
  refine tb_lt (i := at' V j) (sgN_lt V s) (sgN_lt V s') (by rw [sgN_at a]; exact b) (by rw [sgN_at a]; exact c) (fun q hq => ?_)
  rw [sgN_tb, sgN_tb]
  by_cases g : q < mvN V ∧ wP V q = true
  · have := cP_lt hq h2
    have h3' : cP (wP V) (at' V j) = j := h3
    rw [d _ (show j < cP (wP V) q by omega)]
  · by_cases g1 : q < mvN V
    · have : wP V q = false := by
        cases e : wP V q
        · rfl
        · exact absurd ⟨g1, e⟩ g
      simp [this]
    · simp [g1]
theorem sgN_0 (V : MV) : sgN V 0 = 0 := by
  apply tb_ext
  intro q
  rw [sgN_tb]
  simp
/-- as many bits -/
theorem sgN_cnt (V : MV) (s : Nat) : ∀ i, i ≤ mvN V → cP (fun q => (sgN V s).testBit q) i = cP (fun q => s.testBit q) (cP (wP V) i) := by
  intro i
  induction i with
  | zero => intro _; rfl
  | succ i ih =>
    intro h
    have ih := ih (by omega)
    have hsg := sgN_tb V s i
    simp only [cP]
    rw [ih]
    cases hw : wP V i
    · rw [hw] at hsg
      have : (sgN V s).testBit i = false := by rw [hsg]; simp
      simp [this]
    · rw [hw] at hsg
      have : (sgN V s).testBit i = s.testBit (cP (wP V) i) := by rw [hsg]; simp [show i < mvN V by omega]
      simp [this, cP]
theorem cP_more {P : Nat → Bool} {i : Nat} (h : ∀ q, i ≤ q → P q = false) : ∀ j, i ≤ j → cP P j = cP P i := by
  intro j
  induction j with
  | zero => intro h; rw [show i = 0 by omega]
  | succ j ih =>
    intro hj
    rcases Nat.lt_or_ge i (j + 1) with g | g
    · simp only [cP]
      rw [ih (by omega), h j (by omega)]
      simp
    · rw [show i = j + 1 by omega]
theorem sgN_pop {V : MV} (hV : WFV V) {s : Nat} (h : s < 2 ^ nW V) : cP (fun q => (sgN V s).testBit q) 10 = cP (fun q => s.testBit q) 10 := by
  have h1 := sgN_cnt V s (mvN V) (Nat.le_refl _)
  have hw : nW V ≤ mvN V := cP_le _ _
  have hn := hV.1
  rw [cP_more (fun q hq => tb_big (sgN_lt V s) hq) 10 hn, h1, cP_more (fun q hq => tb_big h hq) 10 (by omega)]
