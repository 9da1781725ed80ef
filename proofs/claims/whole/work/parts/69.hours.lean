/-! ===== the class's rows of what waits ===== -/
def cP (P : Nat → Bool) : Nat → Nat
  | 0 => 0
  | i + 1 => cP P i + if P i = true then 1 else 0
def aP (P : Nat → Bool) : Nat → Nat → Nat
  | 0, _ => 0
  | i + 1, j => if P i = true ∧ cP P i = j then i else aP P i j
theorem cP_le (P : Nat → Bool) : ∀ i, cP P i ≤ i := by
  intro i
  induction i with
  | zero => exact Nat.le_refl 0
  | succ i ih => simp only [cP]; split <;> omega
theorem cP_mono (P : Nat → Bool) {i j : Nat} (h : i ≤ j) : cP P i ≤ cP P j := by
  induction j with
  | zero => rw [show i = 0 by omega]; exact Nat.le_refl _
  | succ j ih =>
    rcases Nat.lt_or_ge i (j + 1) with g | g
    · have := ih (by omega)
      simp only [cP]
      omega
    · rw [show i = j + 1 by omega]; exact Nat.le_refl _
theorem cP_lt {P : Nat → Bool} {i j : Nat} (h : i < j) (hi : P i = true) : cP P i < cP P j := by
  have h1 := cP_mono P (show i + 1 ≤ j by omega)
  simp only [cP] at h1
  rw [if_pos hi] at h1
  omega
theorem aP_in {P : Nat → Bool} : ∀ n j, j < cP P n → aP P n j < n ∧ P (aP P n j) = true ∧ cP P (aP P n j) = j := by
  intro n
  induction n with
  | zero => intro j h; simp [cP] at h
  | succ n ih =>
    intro j h
    simp only [aP]
    by_cases g : P n = true ∧ cP P n = j
    · rw [if_pos g]
      exact ⟨by omega, g.1, g.2⟩
    · rw [if_neg g]
      have hj : j < cP P n := by
        simp only [cP] at h
        by_cases q : P n = true
        · rw [if_pos q] at h
          have : cP P n ≠ j := fun r => g ⟨q, r⟩
          omega
        · rw [if_neg q] at h
          omega
      obtain ⟨h1, h2, h3⟩ := ih j hj
      exact ⟨by omega, h2, h3⟩
theorem aP_at {P : Nat → Bool} {i n : Nat} (hi : i < n) (hp : P i = true) : aP P n (cP P i) = i := by
  obtain ⟨h1, h2, h3⟩ := aP_in n _ (cP_lt hi hp)
  rcases Nat.lt_trichotomy (aP P n (cP P i)) i with q | q | q
  · have := cP_lt q h2; omega
  · exact q
  · have := cP_lt q hp; omega
def wP (V : MV) (i : Nat) : Bool := decide (mvD V i 4 = 0)
theorem wP_iff {V : MV} {i : Nat} : wP V i = true ↔ mvD V i 4 = 0 := by unfold wP; exact decide_eq_true_iff
abbrev nW (V : MV) : Nat := cP (wP V) (mvN V)
abbrev at' (V : MV) (j : Nat) : Nat := aP (wP V) (mvN V) j
/-- what the class notes of those that wait -/
def TW (c : Nat → Nat → Int32) (V : MV) : Prop := c 84 4 = nI (nW V) ∧ c 84 5 = nI (2 ^ nW V) ∧ ∀ j, j < nW V → c 85 j = nI (at' V j) ∧ c 86 j = nI (mvD V (at' V j) 0) ∧ c 87 j = nI (mvD V (at' V j) 1) ∧ c 88 j = nI (mvD V (at' V j) 3)
section HO
variable {n : Nat} {A : AS} {y : Dy} {sh : Nat → Shp} {c c' : Nat → Nat → Int32} {z : Nat × Nat}
theorem takeWaiting_eq (W : Wz sh z) (hs : SC sh y) {law price : Nat} {V : MV} (hcm : CM c 10 law price V) (hV : WFV V) : ∃ c', f_X1_takeWaiting 84 10 (HH sh c z) = some (HH sh c' z) ∧ (∀ a, a < 84 ∨ 88 < a → c' a = c a) ∧ TW c' V := by
  have hn := hV.1
  unfold f_X1_takeWaiting
  rw [HG W hs.a84, bnd_s, HP (k := 4) W hs.a84 rfl, bnd_s]
  refine wl2_fuel (fun i x h => x = nI i ∧ ∃ c', h = HH sh c' z ∧ (∀ a, a < 84 ∨ 88 < a → c' a = c a) ∧ c' 84 4 = nI (cP (wP V) (min i (mvN V))) ∧ ∀ q, q < min i (mvN V) → mvD V q 4 = 0 → c' 85 (cP (wP V) q) = nI q ∧ c' 86 (cP (wP V) q) = nI (mvD V q 0) ∧ c' 87 (cP (wP V) q) = nI (mvD V q 1) ∧ c' 88 (cP (wP V) q) = nI (mvD V q 3)) 10 (by omega) (fun t => ∃ c', t = some (HH sh c' z) ∧ (∀ a, a < 84 ∨ 88 < a → c' a = c a) ∧ TW c' V) ?_ _ _ ⟨rfl, _, rfl, fun a ha => u2_other _ _ _ (by omega), by rw [u2_same, Nat.zero_min]; rfl, fun q hq => absurd hq (by omega)⟩
  intro rec i x h hi hx
  obtain ⟨rfl, c1, rfl, f1, w1, r1⟩ := hx
  simp only [jn0_s]
  rcases Nat.lt_or_ge i 10 with h5 | h5
  · refine Or.inl ⟨h5, ?_⟩
    have hcm1 : CM c1 10 law price V := hcm.kept (fun a q1 q2 => f1 a (by omega))
    have hcl := cP_le (wP V) (min i (mvN V))
    rw [if_neg (ten_ge h5), HI (k := 4) W hs.a84 rfl, bnd_s, w1, if_neg (ten_ge (by omega))]
    simp only [jn1_s]
    rcases Nat.lt_or_ge i (mvN V) with q | q
    · have hmi : min i (mvN V) = i := by omega
      have hmi1 : min (i + 1) (mvN V) = i + 1 := by omega
      rw [hmi] at w1 r1 hcl
      rw [hmi1, waits_in W hs.m10 hcm1 hV q, bnd_s]
      by_cases e : mvD V i 4 = 0
      · rw [if_pos e, if_neg i10, HR (k := 0) W hs.a84 rfl, bnd_s, bnd_s, hmi, HS W hs.r8.1 (show cP (wP V) i < 10 by omega) (by omega), bnd_s, HR (k := 1) W hs.a84 rfl, bnd_s, HI (k := 4) W hs.a84 rfl, bnd_s, u2_ne (b := 84) (j := 4) _ _ (Or.inl (by omega)), w1, HR (k := 3) W hs.m10.1 rfl, bnd_s, HL W hs.m10.row.1 h5 (by omega), bnd_s, HS W hs.r8.2.1 (show cP (wP V) i < 10 by omega) (by omega), bnd_s, HR (k := 2) W hs.a84 rfl, bnd_s, HI (k := 4) W hs.a84 rfl, bnd_s, u2_ne (b := 84) (j := 4) _ _ (Or.inl (by omega)), u2_ne (b := 84) (j := 4) _ _ (Or.inl (by omega)), w1, HR (k := 4) W hs.m10.1 rfl, bnd_s, HL W hs.m10.row.2.1 h5 (by omega), bnd_s, HS W hs.r8.2.2.1 (show cP (wP V) i < 10 by omega) (by omega), bnd_s, HR (k := 3) W hs.a84 rfl, bnd_s, HI (k := 4) W hs.a84 rfl, bnd_s, u2_ne (b := 84) (j := 4) _ _ (Or.inl (by omega)), u2_ne (b := 84) (j := 4) _ _ (Or.inl (by omega)), u2_ne (b := 84) (j := 4) _ _ (Or.inl (by omega)), w1, HR (k := 6) W hs.m10.1 rfl, bnd_s, HL W hs.m10.row.2.2.2.1 h5 (by omega), bnd_s, HS W hs.r8.2.2.2.1 (show cP (wP V) i < 10 by omega) (by omega), bnd_s, HI (k := 4) W hs.a84 rfl, bnd_s, HP (k := 4) W hs.a84 rfl, bnd_s, nI_1]
        simp only [nrw0]
        have hwi : wP V i = true := wP_iff.mpr e
        refine ⟨_, _, ⟨rfl, _, rfl, ?_, ?_, ?_⟩, rfl⟩
        · intro a ha
          rw [u2_other _ _ _ (by omega), u2_other _ _ _ (by omega), u2_other _ _ _ (by omega), u2_other _ _ _ (by omega), u2_other _ _ _ (by omega)]
          exact f1 a ha
        · rw [u2_same, u2_ne (b := 84) (j := 4) _ _ (Or.inl (by omega)), u2_ne (b := 84) (j := 4) _ _ (Or.inl (by omega)), u2_ne (b := 84) (j := 4) _ _ (Or.inl (by omega)), u2_ne (b := 84) (j := 4) _ _ (Or.inl (by omega)), w1]
          simp only [cP]
          rw [if_pos hwi]
          exact nI_1 _
        · intro p hp hp4
          have hwp : wP V p = true := wP_iff.mpr hp4
          rw [u2_other _ _ _ (show 85 ≠ 84 by omega), u2_other _ _ _ (show 85 ≠ 88 by omega), u2_other _ _ _ (show 85 ≠ 87 by omega), u2_other _ _ _ (show 85 ≠ 86 by omega), u2_other _ _ _ (show 86 ≠ 84 by omega), u2_other _ _ _ (show 86 ≠ 88 by omega), u2_other _ _ _ (show 86 ≠ 87 by omega), u2_other _ _ _ (show 87 ≠ 84 by omega), u2_other _ _ _ (show 87 ≠ 88 by omega), u2_other _ _ _ (show 88 ≠ 84 by omega)]
          rcases Nat.lt_or_ge p i with g | g
          · have hlt := cP_lt g hwp
            have hne : cP (wP V) p ≠ cP (wP V) i := by omega
            have R := r1 p g hp4
            refine ⟨?_, ?_, ?_, ?_⟩
            · repeat (rw [u2_ne _ _ (Or.inr hne)])
              exact R.1
            · repeat (rw [u2_ne _ _ (Or.inr hne)])
              exact R.2.1
            · repeat (rw [u2_ne _ _ (Or.inr hne)])
              exact R.2.2.1
            · repeat (rw [u2_ne _ _ (Or.inr hne)])
              exact R.2.2.2
          · rw [show p = i by omega, u2_same, u2_same, u2_same, u2_same]
            have hat := hcm1.at q
            refine ⟨rfl, ?_, ?_, ?_⟩
            · rw [u2_other _ _ _ (by omega)]; exact hat.1
            · rw [u2_other _ _ _ (by omega), u2_other _ _ _ (by omega)]; exact hat.2.1
            · rw [u2_other _ _ _ (by omega), u2_other _ _ _ (by omega), u2_other _ _ _ (by omega)]; exact hat.2.2.2.1
      · rw [if_neg e, if_pos rfl, nI_1]
        refine ⟨_, _, ⟨rfl, c1, rfl, f1, ?_, ?_⟩, rfl⟩
        · simp only [cP]
          rw [if_neg (fun r => e (wP_iff.mp r)), Nat.add_zero]
          exact w1
        · intro p hp hp4
          rcases Nat.lt_or_ge p i with g | g
          · exact r1 p g hp4
          · rw [show p = i by omega] at hp4
            exact absurd hp4 e
    · rw [waits_out W hs.m10 hcm1 (Or.inr (nI_le q (by omega))), bnd_s, if_pos rfl, nI_1]
      refine ⟨_, _, ⟨rfl, c1, rfl, f1, ?_, ?_⟩, rfl⟩
      · rw [show min (i + 1) (mvN V) = min i (mvN V) by omega]; exact w1
      · rw [show min (i + 1) (mvN V) = min i (mvN V) by omega]; exact r1
  · refine Or.inr ?_
    have hmi : min i (mvN V) = mvN V := by omega
    rw [hmi] at w1 r1
    have hcl := cP_le (wP V) (mvN V)
    rw [if_pos (ten_le h5 (by omega)), HI (k := 4) W hs.a84 rfl, bnd_s, w1, sh_one (by omega), HP (k := 5) W hs.a84 rfl, bnd_s]
    refine ⟨_, rfl, fun a ha => by rw [u2_other _ _ _ (by omega)]; exact f1 a ha, ?_, ?_, ?_⟩
    · rw [u2_ne _ _ (Or.inr (by omega))]; exact w1
    · rw [u2_same]
    · intro j hj
      obtain ⟨g1, g2, g3⟩ := aP_in _ _ hj
      have := r1 _ g1 (wP_iff.mp g2)
      rw [g3] at this
      rw [u2_other _ _ _ (by omega), u2_other _ _ _ (by omega), u2_other _ _ _ (by omega), u2_other _ _ _ (by omega)]
      exact this
end HO
