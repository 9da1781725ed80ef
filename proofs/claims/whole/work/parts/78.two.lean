/-! ===== two mills: the pure side ===== -/
theorem ch_n {N : Nat} {Q : Nat → Nat → Prop} (h : ∀ s, s < N → ∃ v, Q s v) : ∃ f : Nat → Nat, ∀ s, s < N → Q s (f s) := by
  refine ⟨fun s => if hs : s < N then Classical.choose (h s hs) else 0, fun s hs => ?_⟩
  simp only [dif_pos hs]
  exact Classical.choose_spec (h s hs)
theorem and_n (a b : Nat) : nI a &&& nI b = nI (a &&& b) := by
  apply Int32.toBitVec_inj.1
  show BitVec.ofNat 32 a &&& BitVec.ofNat 32 b = BitVec.ofNat 32 (a &&& b)
  apply BitVec.eq_of_getLsbD_eq
  intro i hi
  simp [hi]
theorem not_n (a b : Nat) (ha : a < 1024) : nI a &&& (nI b ^^^ (-1 : Int32)) = nI (a &&& (1023 ^^^ b)) := by
  apply Int32.toBitVec_inj.1
  show BitVec.ofNat 32 a &&& (BitVec.ofNat 32 b ^^^ BitVec.allOnes 32) = BitVec.ofNat 32 (a &&& (1023 ^^^ b))
  apply BitVec.eq_of_getLsbD_eq
  intro i hi
  simp only [BitVec.getLsbD_and, BitVec.getLsbD_xor, BitVec.getLsbD_ofNat, BitVec.getLsbD_allOnes, Nat.testBit_and, Nat.testBit_xor]
  rcases Nat.lt_or_ge i 10 with h | h
  · have : (1023 : Nat).testBit i = true := by
      have := Nat.testBit_two_pow_sub_one 10 i
      rw [show (2 : Nat) ^ 10 - 1 = 1023 by decide] at this
      rw [this]
      exact decide_eq_true h
    rw [this]
    simp [hi, Bool.xor_comm]
  · rw [tb_big (w := 10) (by omega) h]
    simp
theorem tb1023 (i : Nat) : (1023 : Nat).testBit i = decide (i < 10) := by
  have := Nat.testBit_two_pow_sub_one 10 i
  rw [show (2 : Nat) ^ 10 - 1 = 1023 by decide] at this
  exact this
/-- the least of D over k numbers that are so, and the first of them -/
def fb (ok : Nat → Prop) (D : Nat → Nat) (k R F : Nat) : Prop := R ≤ FARn ∧ (∀ S, S < k → ok S → R ≤ D S) ∧ ((R = FARn ∧ F = 0) ∨ (R < FARn ∧ F < k ∧ ok F ∧ D F = R ∧ ∀ S, S < F → ok S → R < D S))
theorem fb.start (ok : Nat → Prop) (D : Nat → Nat) : fb ok D 0 FARn 0 := ⟨Nat.le_refl _, fun S h => absurd h (by omega), Or.inl ⟨rfl, rfl⟩⟩
theorem fb.skip {ok : Nat → Prop} {D : Nat → Nat} {k R F : Nat} (h : fb ok D k R F) (hn : ok k → R ≤ D k) : fb ok D (k + 1) R F := by
  obtain ⟨h1, h2, h3⟩ := h
  refine ⟨h1, fun S hS hk => ?_, ?_⟩
  · rcases Nat.lt_or_ge S k with q | q
    · exact h2 S q hk
    · rw [show S = k by omega] at hk ⊢
      exact hn hk
  · rcases h3 with g | ⟨g1, g2, g3⟩
    · exact Or.inl g
    · exact Or.inr ⟨g1, by omega, g3⟩
theorem fb.take {ok : Nat → Prop} {D : Nat → Nat} {k R F : Nat} (h : fb ok D k R F) (hk : ok k) (hd : D k < R) : fb ok D (k + 1) (D k) k := by
  obtain ⟨h1, h2, h3⟩ := h
  refine ⟨by omega, fun S hS hs => ?_, Or.inr ⟨by omega, by omega, hk, rfl, fun S hS hs => ?_⟩⟩
  · rcases Nat.lt_or_ge S k with q | q
    · have := h2 S q hs; omega
    · rw [show S = k by omega]
      exact Nat.le_refl _
  · have := h2 S hS hs; omega
theorem fb_same {V : MV} {D d : Nat → Nat} {okS : Nat → Prop} {R f R' F' : Nat} (hd : ∀ s, s < 2 ^ nW V → D (sgN V s) = d s) (h1 : ∀ s, s < 2 ^ nW V → okS (sgN V s)) (h2 : ∀ S, S < 2 ^ mvN V → okS S → ∃ s, s < 2 ^ nW V ∧ sgN V s = S) (h : fb (fun _ => True) d (2 ^ nW V) R f) (h' : fb okS D (2 ^ mvN V) R' F') : R = R' ∧ F' = sgN V f := by
  obtain ⟨a1, a2, a3⟩ := h
  obtain ⟨b1, b2, b3⟩ := h'
  have hRR : R = R' := by
    apply Nat.le_antisymm
    · rcases b3 with ⟨g1, g2⟩ | ⟨g1, g2, g3, g4, g5⟩
      · omega
      · obtain ⟨s, hs, e⟩ := h2 F' g2 g3
        have := a2 s hs trivial
        rw [← hd s hs, e, g4] at this
        exact this
    · rcases a3 with ⟨g1, g2⟩ | ⟨g1, g2, g3, g4, g5⟩
      · omega
      · have := b2 (sgN V f) (sgN_lt V f) (h1 f g2)
        rw [hd f g2, g4] at this
        exact this
  refine ⟨hRR, ?_⟩
  rcases a3 with ⟨g1, g2⟩ | ⟨g1, g2, g3, g4, g5⟩
  · rcases b3 with ⟨k1, k2⟩ | ⟨k1, _⟩
    · rw [k2, g2, sgN_0]
    · omega
  · rcases b3 with ⟨k1, k2⟩ | ⟨k1, k2, k3, k4, k5⟩
    · omega
    · obtain ⟨s, hs, e⟩ := h2 F' k2 k3
      have e2 : d s = R := by rw [← hd s hs, e, k4, hRR]
      rcases Nat.lt_trichotomy s f with q | q | q
      · have := g5 s q trivial
        omega
      · rw [← e, q]
      · have m := sgN_mono g2 hs q
        rw [e] at m
        have := k5 (sgN V f) m (h1 f g2)
        rw [hd f g2, g4] at this
        omega
/-- all that wait, as a set -/
abbrev allB (V : MV) : Nat := bN (wP V) (mvN V)
theorem sgN_rest {V : MV} (hV : WFV V) {s : Nat} (hs : s < 2 ^ nW V) : sgN V (2 ^ nW V - 1 - s) = allB V &&& (1023 ^^^ sgN V s) := by
  have hn := hV.1
  apply tb_ext
  intro q
  rw [Nat.testBit_and, Nat.testBit_xor, tb1023, bN_tb, sgN_tb, sgN_tb, show 2 ^ nW V - 1 - s = 2 ^ nW V - (s + 1) by omega, Nat.testBit_two_pow_sub_succ hs]
  by_cases h1 : q < mvN V
  · by_cases h2 : wP V q = true
    · have h3 : cP (wP V) q < nW V := cP_lt h1 h2
      simp only [h1, h2, h3, show q < 10 by omega, decide_true, Bool.true_and]
      cases s.testBit (cP (wP V) q) <;> rfl
    · have h2 : wP V q = false := by cases h : wP V q <;> simp_all
      simp [h2]
  · simp [h1]
def okB (V : MV) (S : Nat) : Prop := S &&& (1023 ^^^ allB V) = 0
theorem okB_sg {V : MV} (hV : WFV V) (s : Nat) : okB V (sgN V s) := by
  have hn := hV.1
  apply tb_ext
  intro q
  rw [Nat.testBit_and, Nat.testBit_xor, tb1023, bN_tb, sgN_tb, Nat.zero_testBit]
  by_cases h1 : q < mvN V
  · by_cases h2 : wP V q = true
    · simp [h1, h2, show q < 10 by omega]
    · have h2 : wP V q = false := by cases h : wP V q <;> simp_all
      simp [h2]
  · simp [h1]
theorem okB_sur {V : MV} (hV : WFV V) {S : Nat} (hS : S < 2 ^ mvN V) (h : okB V S) : ∃ s, s < 2 ^ nW V ∧ sgN V s = S := by
  apply sgN_sur
  intro q hq
  have hn := hV.1
  have h1 : q < mvN V := by
    rcases Nat.lt_or_ge q (mvN V) with g | g
    · exact g
    · rw [tb_big hS g] at hq
      exact absurd hq (by decide)
  refine ⟨h1, ?_⟩
  have h2 : (S &&& (1023 ^^^ allB V)).testBit q = (0 : Nat).testBit q := congrArg (fun x => Nat.testBit x q) h
  rw [Nat.testBit_and, Nat.testBit_xor, tb1023, bN_tb, Nat.zero_testBit, hq] at h2
  cases hw : wP V q
  · rw [hw] at h2
    simp [show q < 10 by omega] at h2
  · rfl
