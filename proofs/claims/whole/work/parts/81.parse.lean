/-! ===== the text, read: the pure side ===== -/
theorem bnd_n {α β : Type} (k : α → Option β) : bnd (none : Option α) k = none := rfl
/-- a figure stands at p -/
def fg (X : Nat → Int32) (T p : Nat) : Bool := decide (p < T ∧ ¬ X p < 48 ∧ ¬ 57 < X p)
theorem fg_iff {X : Nat → Int32} {T p : Nat} : fg X T p = true ↔ (p < T ∧ ¬ X p < 48 ∧ ¬ 57 < X p) := by unfold fg; exact decide_eq_true_iff
def dg (X : Nat → Int32) (p : Nat) : Nat := (X p).toInt.toNat - 48
theorem dg_at {X : Nat → Int32} {T p : Nat} (h : fg X T p = true) : X p = nI (48 + dg X p) ∧ dg X p ≤ 9 := by
  obtain ⟨h1, h2, h3⟩ := fg_iff.mp h
  rw [i_lt, show (48 : Int32).toInt = 48 from rfl] at h2
  rw [i_lt, show (57 : Int32).toInt = 57 from rfl] at h3
  obtain ⟨j, hj, e⟩ := nI_of (x := X p) (by rw [i_lt, show (0 : Int32).toInt = 0 from rfl]; omega)
  unfold dg
  rw [e, nI_T _ (by omega)] at h2 h3 ⊢
  rw [Int.toNat_natCast]
  refine ⟨?_, by omega⟩
  congr 1
  omega
/-- a number of one or two figures at p, and the place behind it -/
def nC (X : Nat → Int32) (T p : Nat) : Option (Nat × Nat) := if fg X T p = true then (if fg X T (p + 1) = true then some (10 * dg X p + dg X (p + 1), p + 2) else some (dg X p, p + 1)) else none
def nM (X : Nat → Int32) (T p : Nat) : Option (Nat × Nat) := if fg X T p = true then (if fg X T (p + 1) = true then (if fg X T (p + 2) = true then none else some (10 * dg X p + dg X (p + 1), p + 2)) else some (dg X p, p + 1)) else none
/-- a sign stands at p -/
abbrev sgn (X : Nat → Int32) (T p : Nat) (ch : Int32) : Prop := p < T ∧ X p = ch
def nS (X : Nat → Int32) (T p : Nat) (ch : Int32) : Option (Nat × Nat) := bnd (nC X T p) fun vq => if sgn X T vq.2 ch then some (vq.1, vq.2 + 1) else none
theorem nS_M (X : Nat → Int32) (T p : Nat) {ch : Int32} (hc : ch = 44 ∨ ch = 59) : nS X T p ch = bnd (nM X T p) fun vq => if sgn X T vq.2 ch then some (vq.1, vq.2 + 1) else none := by
  unfold nS nC nM
  by_cases h0 : fg X T p = true
  · rw [if_pos h0, if_pos h0]
    by_cases h1 : fg X T (p + 1) = true
    · rw [if_pos h1, if_pos h1]
      by_cases h2 : fg X T (p + 2) = true
      · rw [if_pos h2, bnd_s, bnd_n, if_neg]
        rintro ⟨q1, q2⟩
        obtain ⟨g1, g2⟩ := dg_at h2
        have q2 : X (p + 2) = ch := q2
        rw [g1] at q2
        rcases hc with rfl | rfl
        · rw [show (44 : Int32) = nI 44 from rfl, nI_eq (by omega) (by omega)] at q2
          omega
        · rw [show (59 : Int32) = nI 59 from rfl, nI_eq (by omega) (by omega)] at q2
          omega
      · rw [if_neg h2]
    · rw [if_neg h1, if_neg h1]
  · rw [if_neg h0, if_neg h0]
theorem nC_ok {X : Nat → Int32} {T p v q : Nat} (h : nC X T p = some (v, q)) : v ≤ 99 ∧ p < q ∧ q ≤ T := by
  unfold nC at h
  by_cases h0 : fg X T p = true
  · rw [if_pos h0] at h
    have d0 := dg_at h0
    have t0 := (fg_iff.mp h0).1
    by_cases h1 : fg X T (p + 1) = true
    · rw [if_pos h1] at h
      have d1 := dg_at h1
      have t1 := (fg_iff.mp h1).1
      have e := Option.some.inj h
      have e1 := (Prod.mk.inj e).1
      have e2 := (Prod.mk.inj e).2
      omega
    · rw [if_neg h1] at h
      have e := Option.some.inj h
      have e1 := (Prod.mk.inj e).1
      have e2 := (Prod.mk.inj e).2
      omega
  · rw [if_neg h0] at h
    cases h
theorem nM_C {X : Nat → Int32} {T p v q : Nat} (h : nM X T p = some (v, q)) : nC X T p = some (v, q) := by
  unfold nM at h
  unfold nC
  by_cases h0 : fg X T p = true
  · rw [if_pos h0] at h ⊢
    by_cases h1 : fg X T (p + 1) = true
    · rw [if_pos h1] at h ⊢
      by_cases h2 : fg X T (p + 2) = true
      · rw [if_pos h2] at h
        cases h
      · rw [if_neg h2] at h
        exact h
    · rw [if_neg h1] at h ⊢
      exact h
  · rw [if_neg h0] at h
    cases h
theorem nS_ok {X : Nat → Int32} {T p v q : Nat} {ch : Int32} (h : nS X T p ch = some (v, q)) : v ≤ 99 ∧ p < q ∧ q ≤ T := by
  unfold nS at h
  cases e : nC X T p with
  | none => rw [e, bnd_n] at h; cases h
  | some vq =>
    obtain ⟨v', q'⟩ := vq
    have := nC_ok e
    rw [e, bnd_s] at h
    by_cases g : sgn X T q' ch
    · rw [if_pos g] at h
      have e := Option.some.inj h
      have e1 := (Prod.mk.inj e).1
      have e2 := (Prod.mk.inj e).2
      have := g.1
      omega
    · rw [if_neg g] at h
      cases h
/-- the sign behind number k of w -/
abbrev chK (w k : Nat) : Int32 := if k + 1 < w then 44 else 59
theorem chK_or (w k : Nat) : chK w k = 44 ∨ chK w k = 59 := by
  by_cases h : k + 1 < w
  · exact Or.inl (if_pos h)
  · exact Or.inr (if_neg h)
/-- k numbers of w, each with its sign -/
def rdK (X : Nat → Int32) (T w p0 : Nat) : Nat → Option ((Nat → Nat) × Nat)
  | 0 => some (fun _ => 0, p0)
  | k + 1 => bnd (rdK X T w p0 k) fun gq => bnd (nS X T gq.2 (chK w k)) fun vq => some (fun j => if j = k then vq.1 else gq.1 j, vq.2)
theorem rdK_none {X : Nat → Int32} {T w p0 k : Nat} (h : rdK X T w p0 k = none) : ∀ m, rdK X T w p0 (k + m) = none := by
  intro m
  induction m with
  | zero => exact h
  | succ m ih =>
    show bnd (rdK X T w p0 (k + m)) _ = none
    rw [ih, bnd_n]
theorem rdK_to {X : Nat → Int32} {T w p0 k m : Nat} (h : rdK X T w p0 k = none) (hk : k ≤ m) : rdK X T w p0 m = none := by
  have := rdK_none h (m - k)
  rw [show k + (m - k) = m by omega] at this
  exact this
theorem rdK_go {X : Nat → Int32} {T w p0 k v q' q : Nat} {g : Nat → Nat} (h : rdK X T w p0 k = some (g, q)) (h2 : nS X T q (chK w k) = some (v, q')) : rdK X T w p0 (k + 1) = some (fun j => if j = k then v else g j, q') := by
  show bnd (rdK X T w p0 k) _ = _
  rw [h, bnd_s, h2, bnd_s]
theorem rdK_stop {X : Nat → Int32} {T w p0 k q : Nat} {g : Nat → Nat} (h : rdK X T w p0 k = some (g, q)) (h2 : nS X T q (chK w k) = none) : rdK X T w p0 (k + 1) = none := by
  show bnd (rdK X T w p0 k) _ = _
  rw [h, bnd_s, h2, bnd_n]
theorem rdK_ok {X : Nat → Int32} {T w p0 : Nat} (hp : p0 ≤ T) : ∀ k g q, rdK X T w p0 k = some (g, q) → p0 ≤ q ∧ q ≤ T ∧ ∀ j, j < k → g j ≤ 99 := by
  intro k
  induction k with
  | zero =>
    intro g q h
    have e := Option.some.inj h
    have e2 := (Prod.mk.inj e).2
    exact ⟨by omega, by omega, fun j hj => absurd hj (by omega)⟩
  | succ k ih =>
    intro g q h
    have h : (bnd (rdK X T w p0 k) fun gq => bnd (nS X T gq.2 (chK w k)) fun vq => some ((fun j => if j = k then vq.1 else gq.1 j), vq.2)) = some (g, q) := h
    cases e : rdK X T w p0 k with
    | none => rw [e, bnd_n] at h; cases h
    | some gq =>
      obtain ⟨g', q'⟩ := gq
      have i1 := ih g' q' e
      rw [e, bnd_s] at h
      cases e2 : nS X T q' (chK w k) with
      | none =>
        have h : (bnd (nS X T q' (chK w k)) fun vq => some ((fun j => if j = k then vq.1 else g' j), vq.2)) = some (g, q) := h
        rw [e2, bnd_n] at h; cases h
      | some vq =>
        obtain ⟨v, q2⟩ := vq
        have i2 := nS_ok e2
        have h : (bnd (nS X T q' (chK w k)) fun vq => some ((fun j => if j = k then vq.1 else g' j), vq.2)) = some (g, q) := h
        rw [e2, bnd_s] at h
        have e := Option.some.inj h
        have e1 := (Prod.mk.inj e).1
        have e3 := (Prod.mk.inj e).2
        refine ⟨by omega, by omega, fun j hj => ?_⟩
        rw [← e1]
        by_cases hjk : j = k
        · simp only [if_pos hjk]; omega
        · simp only [if_neg hjk]; exact i1.2.2 j (by omega)
/-- what is told so far: how many sacks, what they are, the law, the price -/
abbrev St : Type := Nat × (Nat → Nat → Nat) × Nat × Nat
def st0 : St := (0, fun _ _ => 0, 0, 5)
def WFS (s : St) : Prop := s.1 ≤ 8 ∧ (∀ i, i < s.1 → s.2.1 i 0 < 5 ∧ 1 ≤ s.2.1 i 1 ∧ s.2.1 i 1 ≤ 9 ∧ s.2.1 i 2 < 5 ∧ s.2.1 i 3 ≤ 99 ∧ s.2.1 i 4 = 0) ∧ s.2.2.1 ≤ 1 ∧ s.2.2.2 ≤ 99
theorem WFS0 : WFS st0 := ⟨by decide, fun i h => absurd h (by simp [st0]), by decide, by decide⟩
/-- a sack's numbers are good -/
abbrev gdS (s : St) (g : Nat → Nat) : Prop := g 0 < 5 ∧ (1 ≤ g 1 ∧ g 1 ≤ 9) ∧ g 2 < 5 ∧ s.1 < 8
def adS (s : St) (g : Nat → Nat) : St := (s.1 + 1, fun i k => if i = s.1 then (if k < 4 then g k else 0) else s.2.1 i k, s.2.2.1, s.2.2.2)
theorem WFS.ad {s : St} (h : WFS s) {g : Nat → Nat} (hg : gdS s g) (h3 : g 3 ≤ 99) : WFS (adS s g) := by
  obtain ⟨a1, a2, a3, a4⟩ := h
  obtain ⟨g1, g2, g3, g4⟩ := hg
  refine ⟨by show s.1 + 1 ≤ 8; omega, fun i hi => ?_, a3, a4⟩
  have hi : i < s.1 + 1 := hi
  by_cases e : i = s.1
  · simp [adS, e]
    omega
  · simp only [adS, if_neg e]
    exact a2 i (by omega)
/-- an item at p -/
def itm (X : Nat → Int32) (T p : Nat) (s : St) : Option (Nat × St) :=
  if X p = 115 then (bnd (rdK X T 4 (p + 1) 4) fun gq => if gdS s gq.1 then some (gq.2, adS s gq.1) else none)
  else if X p = 108 then (bnd (rdK X T 1 (p + 1) 1) fun gq => if gq.1 0 ≤ 1 then some (gq.2, (s.1, s.2.1, gq.1 0, s.2.2.2)) else none)
  else if X p = 99 then (bnd (rdK X T 1 (p + 1) 1) fun gq => some (gq.2, (s.1, s.2.1, s.2.2.1, gq.1 0)))
  else none
theorem itm_ok {X : Nat → Int32} {T p q : Nat} {s s' : St} (hp : p < T) (hs : WFS s) (h : itm X T p s = some (q, s')) : p < q ∧ q ≤ T ∧ WFS s' := by
  unfold itm at h
  by_cases h1 : X p = 115
  · rw [if_pos h1] at h
    cases e : rdK X T 4 (p + 1) 4 with
    | none => rw [e, bnd_n] at h; cases h
    | some gq =>
      obtain ⟨g, q'⟩ := gq
      have i1 := rdK_ok (by omega) 4 g q' e
      rw [e, bnd_s] at h
      by_cases hg : gdS s g
      · rw [if_pos hg] at h
        have e := Option.some.inj h
        have e1 := (Prod.mk.inj e).1
        have e3 := (Prod.mk.inj e).2
        have e1 : q' = q := e1
        refine ⟨by omega, by omega, ?_⟩
        rw [← e3]
        exact hs.ad hg (i1.2.2 3 (by omega))
      · rw [if_neg hg] at h
        cases h
  · rw [if_neg h1] at h
    by_cases h2 : X p = 108
    · rw [if_pos h2] at h
      cases e : rdK X T 1 (p + 1) 1 with
      | none => rw [e, bnd_n] at h; cases h
      | some gq =>
        obtain ⟨g, q'⟩ := gq
        have i1 := rdK_ok (by omega) 1 g q' e
        rw [e, bnd_s] at h
        by_cases hg : g 0 ≤ 1
        · rw [if_pos hg] at h
          have e := Option.some.inj h
          have e1 := (Prod.mk.inj e).1
          have e3 := (Prod.mk.inj e).2
          have e1 : q' = q := e1
          refine ⟨by omega, by omega, ?_⟩
          rw [← e3]
          exact ⟨hs.1, hs.2.1, hg, hs.2.2.2⟩
        · rw [if_neg hg] at h
          cases h
    · rw [if_neg h2] at h
      by_cases h3 : X p = 99
      · rw [if_pos h3] at h
        cases e : rdK X T 1 (p + 1) 1 with
        | none => rw [e, bnd_n] at h; cases h
        | some gq =>
          obtain ⟨g, q'⟩ := gq
          have i1 := rdK_ok (by omega) 1 g q' e
          rw [e, bnd_s] at h
          have e := Option.some.inj h
          have e1 := (Prod.mk.inj e).1
          have e3 := (Prod.mk.inj e).2
          have e1 : q' = q := e1
          refine ⟨by omega, by omega, ?_⟩
          rw [← e3]
          exact ⟨hs.1, hs.2.1, hs.2.2.1, i1.2.2 0 (by omega)⟩
      · rw [if_neg h3] at h
        cases h
/-- all items from p on -/
def rnn (X : Nat → Int32) (T : Nat) : Nat → Nat → St → Int32 × St
  | 0, _, s => (-4, s)
  | f + 1, p, s => if T ≤ p then (-4, s) else match itm X T p s with
    | none => (nI p, s)
    | some (q, s') => rnn X T f q s'
theorem rnn_end {X : Nat → Int32} {T f p : Nat} {s : St} (h : T ≤ p) : rnn X T f p s = (-4, s) := by
  cases f with
  | zero => rfl
  | succ f => simp only [rnn]; rw [if_pos h]
theorem rnn_stop {X : Nat → Int32} {T f p : Nat} {s : St} (h : p < T) (e : itm X T p s = none) : rnn X T (f + 1) p s = (nI p, s) := by
  simp only [rnn]; rw [if_neg (by omega), e]
theorem rnn_go {X : Nat → Int32} {T f p q : Nat} {s s' : St} (h : p < T) (e : itm X T p s = some (q, s')) : rnn X T (f + 1) p s = rnn X T f q s' := by
  simp only [rnn]; rw [if_neg (by omega), e]
