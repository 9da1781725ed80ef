/-! ===== both tables hold the same least hours ===== -/
section SA
variable {law : Nat} {V : MV} {L0 A0 H0 : Nat} {t u : Nat → Nat}
theorem tu_same (hlaw : law ≤ 1) (hV : WFV V) (hL : L0 ≤ 5) (hA0 : A0 ≤ 5) (Qt : QM law V (6 * L0 + A0) H0 t (10 * (36 * 2 ^ mvN V))) (Qu : QC law V (6 * L0 + (if law = 1 then A0 else 5)) H0 u (10 * (36 * 2 ^ nW V))) : ∀ s, s < 2 ^ nW V → ∀ k b, k ≤ 5 → b ≤ 5 → (law = 1 ∨ b = 5) → (∀ l, l ≤ 5 → (law = 1 → l = b) → u (36 * s + (6 * k + b)) ≤ t (36 * sgN V s + (6 * k + l))) ∧ (u (36 * s + (6 * k + b)) < FARn → ∃ l, l ≤ 5 ∧ (law = 1 → l = b) ∧ t (36 * sgN V s + (6 * k + l)) ≤ u (36 * s + (6 * k + b))) := by
  have hn := hV.1
  have hwn : nW V ≤ mvN V := cP_le _ _
  intro s
  induction s using Nat.strongRecOn with
  | _ s ih =>
    intro hs k b hk hb hal
    have hB0 : (if law = 1 then A0 else 5) ≤ 5 := by split <;> omega
    have hSl := sgN_lt V s
    have mu := Qu (36 * s + (6 * k + b)) (by omega)
    constructor
    · intro l hl hlb
      have mt := Qt (36 * sgN V s + (6 * k + l)) (by omega)
      rcases Nat.lt_or_ge (t (36 * sgN V s + (6 * k + l))) FARn with hf | hf
      · rcases mt.2.1 hf with ⟨e1, e2⟩ | ⟨S', l', a', i, hg, hm, e1, e2⟩
        · -- the beginning
          have hS0 : sgN V s = 0 := by omega
          have hs0 : s = 0 := sgN_inj hs (Nat.two_pow_pos _) (by rw [hS0, sgN_0])
          rw [e2]
          refine mu.2.2 _ (Or.inl ⟨?_, rfl⟩)
          by_cases g : law = 1
          · rw [if_pos g]
            have := hlb g
            omega
          · rw [if_neg g]
            omega
        · obtain ⟨g1, g2, g3, g4, g5, g6, g7⟩ := hg
          have hki := (hV.2.1 i g3).1
          have hkk : kdM V i = mvD V i 0 := rfl
          have hhd : hdM l' = l' := rfl
          rw [hkk, hhd] at e1
          have hS : sgN V s = S' ||| 2 ^ i := by omega
          have hkl : k = mvD V i 0 ∧ l = l' := by omega
          have hbi : (sgN V s).testBit i = true := by rw [hS, tb_put]; simp
          obtain ⟨q1, q2, q3⟩ := sgN_w hbi
          have hj : cP (wP V) i < nW V := cP_lt g3 q2
          have hat : at' V (cP (wP V) i) = i := aP_at g3 q2
          obtain ⟨s', r1, r2, r3, r4⟩ := tb_take q3
          have hs' : s' < 2 ^ nW V := by omega
          have hS' : sgN V s' = S' := by
            have e3 := sgN_put (V := V) (s := s') hj
            rw [← r2, hat, hS] at e3
            have z1 : (sgN V s').testBit i = false := by
              have := sgN_at (V := V) (s := s') hj
              rw [hat] at this
              rw [this]; exact r1
            have p1 := or_put g4
            have p2 := or_put z1
            omega
          have hb' : (if law = 1 then a' else 5) ≤ 5 := by split <;> omega
          have I := (ih s' r3 hs' l' (if law = 1 then a' else 5) g1 hb' (by split <;> omega)).1 a' g2 (fun q => by rw [if_pos q])
          rw [hS'] at I
          rw [e2]
          have P : gP (nW V) (kdC V) (cmC V) (szC V) okC (mxC law) (hdC law) (6 * L0 + (if law = 1 then A0 else 5)) H0 u (10 * (36 * 2 ^ nW V)) (36 * s + (6 * k + b)) (max (u (36 * s' + (6 * l' + (if law = 1 then a' else 5)))) (cmC V (cP (wP V) i)) + szC V (cP (wP V) i)) := by
            refine Or.inr ⟨s', l', (if law = 1 then a' else 5), cP (wP V) i, ⟨g1, hb', hj, r1, trivial, ⟨?_, ?_, ?_⟩, by omega⟩, by omega, ?_, rfl⟩
            · show mvD V (at' V (cP (wP V) i)) 0 ≠ l'
              rw [hat]; exact g6.1
            · show mvD V (at' V (cP (wP V) i)) 0 ≠ _
              rw [hat]
              have := g6.2
              have hx : mvD V i 0 ≠ a' ∨ law = 0 := by rcases this with q | q; exact Or.inr q; exact Or.inl q
              split <;> omega
            · split <;> omega
            · show 36 * s + (6 * k + b) = 36 * (s' ||| 2 ^ cP (wP V) i) + (6 * mvD V (at' V (cP (wP V) i)) 0 + (if law = 1 then l' else 5))
              rw [hat, ← r2]
              by_cases g : law = 1
              · rw [if_pos g]
                have := hlb g
                omega
              · rw [if_neg g]
                omega
          have := mu.2.2 _ P
          have c1 : cmC V (cP (wP V) i) = mvD V i 3 := by show mvD V (at' V (cP (wP V) i)) 3 = _; rw [hat]
          have c2 : szC V (cP (wP V) i) = mvD V i 1 := by show mvD V (at' V (cP (wP V) i)) 1 = _; rw [hat]
          rw [c1, c2] at this
          have c3 : cmM V i = mvD V i 3 := rfl
          have c4 : szM V i = mvD V i 1 := rfl
          rw [c3, c4]
          omega
      · have := mu.1
        omega
    · intro hf
      rcases mu.2.1 hf with ⟨e1, e2⟩ | ⟨s', l', b', j, hg, hm, e1, e2⟩
      · have hs0 : s = 0 := by omega
        subst hs0
        rw [sgN_0]
        refine ⟨A0, hA0, ?_, ?_⟩
        · intro g
          rw [if_pos g] at e1
          omega
        · have hkL : k = L0 := by omega
          rw [e2, hkL]
          exact (Qt (36 * 0 + (6 * L0 + A0)) (by have := Nat.two_pow_pos (mvN V); omega)).2.2 _ (Or.inl ⟨by omega, rfl⟩)
      · obtain ⟨g1, g2, g3, g4, g5, g6, g7⟩ := hg
        obtain ⟨a1, a2, a3⟩ := aP_in _ _ g3
        have hki : mvD V (at' V j) 0 < 5 := (hV.2.1 _ a1).1
        have hhd : (if law = 1 then l' else 5) ≤ 5 := by split <;> omega
        have e1' : 36 * s + (6 * k + b) = 36 * (s' ||| 2 ^ j) + (6 * mvD V (at' V j) 0 + (if law = 1 then l' else 5)) := e1
        have hS : s = s' ||| 2 ^ j := by omega
        have hkb : k = mvD V (at' V j) 0 ∧ b = (if law = 1 then l' else 5) := by omega
        have p1 := or_put g4
        have p2 := Nat.two_pow_pos j
        have hs's : s' < s := by omega
        have hs' : s' < 2 ^ nW V := by omega
        obtain ⟨l2, f1, f2, f3⟩ := (ih s' hs's hs' l' b' g1 g2 g6.2.2).2 g7
        have hSg : sgN V s = sgN V s' ||| 2 ^ at' V j := by rw [hS]; exact sgN_put g3
        have z1 : (sgN V s').testBit (at' V j) = false := by rw [sgN_at g3]; exact g4
        have hS'l := sgN_lt V s'
        refine ⟨l', g1, ?_, ?_⟩
        · intro g
          rw [hkb.2, if_pos g]
        · have P : gP (mvN V) (kdM V) (cmM V) (szM V) (okM V) (mxM law) hdM (6 * L0 + A0) H0 t (10 * (36 * 2 ^ mvN V)) (36 * sgN V s + (6 * k + l')) (max (t (36 * sgN V s' + (6 * l' + l2))) (cmM V (at' V j)) + szM V (at' V j)) := by
            refine Or.inr ⟨sgN V s', l', l2, at' V j, ⟨g1, f1, a1, z1, wP_iff.mp a2, ⟨g6.1, ?_⟩, by omega⟩, by have a1' : at' V j < mvN V := a1; omega, ?_, rfl⟩
            · rcases (show law = 0 ∨ law = 1 by omega) with g | g
              · exact Or.inl g
              · right
                rw [f2 g]
                exact g6.2.1
            · show _ = 36 * (sgN V s' ||| 2 ^ at' V j) + (6 * mvD V (at' V j) 0 + l')
              rw [hSg, hkb.1]
          have := (Qt (36 * sgN V s + (6 * k + l')) (by omega)).2.2 _ P
          have e2' : u (36 * s + (6 * k + b)) = max (u (36 * s' + (6 * l' + b'))) (mvD V (at' V j) 3) + mvD V (at' V j) 1 := e2
          have this' : t (36 * sgN V s + (6 * k + l')) ≤ max (t (36 * sgN V s' + (6 * l' + l2))) (mvD V (at' V j) 3) + mvD V (at' V j) 1 := this
          omega
/-- the least hour by which just this set of sacks can be poured -/
def MVp (t : Nat → Nat) (S v : Nat) : Prop := isMin (fun h => ∃ l a, l ≤ 5 ∧ a ≤ 5 ∧ t (36 * S + (6 * l + a)) = h ∧ h < FARn) v
theorem ev_mv (hlaw : law ≤ 1) (hV : WFV V) (hL : L0 ≤ 5) (hA0 : A0 ≤ 5) (Qt : QM law V (6 * L0 + A0) H0 t (10 * (36 * 2 ^ mvN V))) (Qu : QC law V (6 * L0 + (if law = 1 then A0 else 5)) H0 u (10 * (36 * 2 ^ nW V))) {s v v' : Nat} (hs : s < 2 ^ nW V) (h : EVp law u s 36 v) (h' : MVp t (sgN V s) v') : v = v' := by
  have T := tu_same hlaw hV hL hA0 Qt Qu s hs
  obtain ⟨a1, a2, a3⟩ := h
  obtain ⟨b1, b2, b3⟩ := h'
  have le1 : v' < FARn → v ≤ v' := by
    intro q
    obtain ⟨l, a, r1, r2, r3, r4⟩ := b2 q
    have hb : (if law = 1 then a else 5) ≤ 5 := by split <;> omega
    have := (T l (if law = 1 then a else 5) r1 hb (by split <;> omega)).1 a r2 (fun g => by rw [if_pos g])
    have := a3 (u (36 * s + (6 * l + (if law = 1 then a else 5)))) ⟨l, _, r1, hb, by split <;> omega, by omega, rfl, by omega⟩
    omega
  have le2 : v < FARn → v' ≤ v := by
    intro q
    obtain ⟨l, a, r1, r2, r3, r4, r5, r6⟩ := a2 q
    obtain ⟨l2, f1, f2, f3⟩ := (T l a r1 r2 r3).2 (by omega)
    have := b3 (t (36 * sgN V s + (6 * l + l2))) ⟨l, l2, r1, f1, rfl, by omega⟩
    omega
  rcases Nat.lt_trichotomy v v' with g | g | g
  · have := le2 (by omega); omega
  · exact g
  · have := le1 (by omega); omega
/-- a set with one that doesn't wait isn't reached -/
theorem t_wait (hV : WFV V) (Qt : QM law V (6 * L0 + A0) H0 t (10 * (36 * 2 ^ mvN V))) (hL : L0 ≤ 5) (hA0 : A0 ≤ 5) : ∀ S, S < 2 ^ mvN V → ∀ k l, k ≤ 5 → l ≤ 5 → t (36 * S + (6 * k + l)) < FARn → ∀ q, S.testBit q = true → q < mvN V ∧ wP V q = true := by
  intro S
  induction S using Nat.strongRecOn with
  | _ S ih =>
    intro hS k l hk hl hf q hq
    have mt := Qt (36 * S + (6 * k + l)) (by omega)
    rcases mt.2.1 hf with ⟨e1, e2⟩ | ⟨S', l', a', i, hg, hm, e1, e2⟩
    · have : S = 0 := by omega
      rw [this] at hq
      simp at hq
    · obtain ⟨g1, g2, g3, g4, g5, g6, g7⟩ := hg
      have hki := (hV.2.1 i g3).1
      have hkk : kdM V i = mvD V i 0 := rfl
      have hhd : hdM l' = l' := rfl
      rw [hkk, hhd] at e1
      have hSS : S = S' ||| 2 ^ i := by omega
      have p1 := or_put g4
      have p2 := Nat.two_pow_pos i
      rw [hSS, tb_put] at hq
      by_cases e : i = q
      · subst e
        exact ⟨g3, wP_iff.mpr g5⟩
      · simp [e] at hq
        exact ih S' (by omega) (by omega) l' a' g1 g2 g7 q hq
end SA
