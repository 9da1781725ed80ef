/-! ===== the queue ===== -/
section QU
variable {n : Nat} {h : Hp} {A : AS} {sh : Nat → Shp} {c c' : Nat → Nat → Int32} {z : Nat × Nat}
/-- whether j is among the first n -/
def inB (Q : Nat → Nat) (j : Nat) : Nat → Bool
  | 0 => false
  | n + 1 => inB Q j n || (Q n == j)
abbrev inQ (Q : Nat → Nat) (n j : Nat) : Prop := inB Q j n = true
theorem inQ_iff (Q : Nat → Nat) (j : Nat) : ∀ n, inQ Q n j ↔ ∃ i, i < n ∧ Q i = j := by
  intro n
  induction n with
  | zero => exact ⟨fun h => (by cases h), fun ⟨i, h, _⟩ => absurd h (by omega)⟩
  | succ n ih =>
    simp only [inQ, inB, Bool.or_eq_true, beq_iff_eq] at ih ⊢
    rw [ih]
    constructor
    · rintro (⟨i, h1, h2⟩ | h1)
      · exact ⟨i, by omega, h2⟩
      · exact ⟨n, by omega, h1⟩
    · rintro ⟨i, h1, h2⟩
      rcases Nat.lt_or_ge i n with g | g
      · exact Or.inl ⟨i, g, h2⟩
      · right; rw [show n = i by omega]; exact h2
/-- as many different numbers below n as n are all of them -/
theorem onto : ∀ (n : Nat) (Q : Nat → Nat), (∀ i, i < n → Q i < n) → (∀ i j, i < n → j < n → Q i = Q j → i = j) → ∀ j, j < n → ∃ i, i < n ∧ Q i = j := by
  intro n
  induction n with
  | zero => intro Q h1 h2 j hj; omega
  | succ n ih =>
    intro Q h1 h2 j hj
    by_cases hm : Q n = j
    · exact ⟨n, by omega, hm⟩
    · have q1 : ∀ i, i < n → (fun i => if Q i = n then Q n else Q i) i < n := by
        intro i hi
        have a1 := h1 i (by omega)
        have a2 := h1 n (by omega)
        by_cases hq : Q i = n
        · simp only [if_pos hq]
          rcases Nat.lt_or_ge (Q n) n with g | g
          · exact g
          · exact absurd (h2 i n (by omega) (by omega) (by omega)) (by omega)
        · simp only [if_neg hq]; omega
      have q2 : ∀ i k, i < n → k < n → (fun i => if Q i = n then Q n else Q i) i = (fun i => if Q i = n then Q n else Q i) k → i = k := by
        intro i k hi hk e
        by_cases ha : Q i = n
        · by_cases hb : Q k = n
          · exact h2 i k (by omega) (by omega) (by omega)
          · simp only [if_pos ha, if_neg hb] at e
            exact absurd (h2 n k (by omega) (by omega) e) (by omega)
        · by_cases hb : Q k = n
          · simp only [if_neg ha, if_pos hb] at e
            exact absurd (h2 i n (by omega) (by omega) e) (by omega)
          · simp only [if_neg ha, if_neg hb] at e
            exact h2 i k (by omega) (by omega) e
      have hsur := ih _ q1 q2
      rcases Nat.lt_or_ge j n with g | g
      · obtain ⟨i, g1, g2⟩ := hsur j g
        by_cases hq : Q i = n
        · simp only [if_pos hq] at g2
          exact absurd g2 hm
        · simp only [if_neg hq] at g2
          exact ⟨i, by omega, g2⟩
      · have e : j = n := by omega
        have a2 := h1 n (by omega)
        obtain ⟨i, g1, g2⟩ := hsur (Q n) (by omega)
        by_cases hq : Q i = n
        · exact ⟨i, by omega, by omega⟩
        · simp only [if_neg hq] at g2
          exact absurd (h2 i n (by omega) (by omega) g2) (by omega)
theorem isInLine_eq {y : Dy} (W : Wz sh z) (hs : SC sh y) (hc : ClsR A sh c) (hA : WFA A) {j : Nat} (hj : j < 100) : ∃ b : Bool, f_X6_isInLine 0 (nI j) (HH sh c z) = some (if b then 1 else 0) ∧ (b = true ↔ inQ (asQ A) (asN A) j) := by
  have hq := hA.2.2.2.2.2.2.2.2
  unfold f_X6_isInLine
  simp only [HG W hs.1, bnd_s, HI (k := 10) W hs.1 rfl, HR (k := 9) W hs.1 rfl, hc.2.2.2.2.1]
  refine wl1_fuel (fun i x => x = nI i ∧ ∀ k, k < i → asQ A k ≠ j) (asN A) (by omega) (fun t => ∃ b : Bool, t = some (if b then 1 else 0) ∧ (b = true ↔ inQ (asQ A) (asN A) j)) ?_ _ ⟨rfl, fun k hk => absurd hk (by omega)⟩
  intro rec i x hi hx
  obtain ⟨rfl, hn⟩ := hx
  rcases Nat.lt_or_ge i (asN A) with hl | hl
  · have hb := (hq.2.1 i hl).1
    have hV := hA.2.2.2.1.1
    rw [if_neg (by rw [nle (by omega) (by omega)]; omega), HL W hs.2.2.2.2.2.2.1 (show i < 10 by omega) (by omega), bnd_s, hc.2.2.2.2.2.1 i hl]
    by_cases he : asQ A i = j
    · refine Or.inr ⟨true, ?_, ?_⟩
      · rw [if_pos (by rw [he])]; exact rZp_1
      · exact ⟨fun _ => (inQ_iff _ _ _).mpr ⟨i, hl, he⟩, fun _ => rfl⟩
    · refine Or.inl ⟨hl, nI (i + 1), ⟨rfl, fun k hk => ?_⟩, ?_⟩
      · rcases Nat.lt_or_ge k i with g | g
        · exact hn k g
        · rw [show k = i by omega]; exact he
      · rw [if_neg (by rw [neq (by omega) (by omega)]; exact he), nI_1]
  · refine Or.inr ⟨false, ?_, ?_⟩
    · rw [if_pos (by rw [nle (by omega) (by omega)]; omega)]; exact rZp_0
    · refine ⟨fun q => (by cases q), fun q => ?_⟩
      obtain ⟨k, h1, h2⟩ := (inQ_iff _ _ _).mp q
      exact absurd h2 (hn k (by omega))
/-- ten different numbers below ten are all of them -/
theorem full10 (Q : Nat → Nat) (h1 : ∀ i, i < 10 → Q i < 10) (h2 : ∀ i j, i < 10 → j < 10 → Q i = Q j → i = j) (j : Nat) (hj : j < 10) : inQ Q 10 j := (inQ_iff Q j 10).mpr (onto 10 Q h1 h2 j hj)
theorem op_queue (hI : Inv n h) (x : Int32) : ∃ r h1 h2, f_X6_queue 0 x h = some (r, h1) ∧ f_X7_queue 99 x h1 = some (r, h2) ∧ Inv (n + 1) h2 := by
  obtain ⟨A, sh, c, z, rfl, hA, hC, hS, hR⟩ := hI
  obtain ⟨y, W, hs, hb, hc⟩ := id hC
  have hcm := hc.2.2.2.2.2.2.1
  have hV := hA.2.2.2.1
  have hq := hA.2.2.2.2.2.2.2.2
  have hV1 := hV.1
  have same : Inv (n + 1) (HH sh c z) := ⟨A, sh, c, z, rfl, hA, hC.more, hS, hR⟩
  rcases i_cases x (mvN (asV A)) (by have := hV.1; omega) with ⟨j, hj, rfl⟩ | hx
  · have h10 : j < 10 := by have := hV.1; omega
    obtain ⟨b, eb, hb2⟩ := isInLine_eq W hs hc hA (j := j) (by omega)
    -- the reference's loop
    have hmod : ∀ (c : Nat → Nat → Int32) (hR : ModR A c), f_X7_queue 99 (nI j) (HH sh c z) = (if mvD (asV A) j 4 = 0 ∧ ¬ inQ (asQ A) (asN A) j then (if asN A < 10 then some (nI (asN A + 1), HH sh (u2 (u2 c 105 (asN A) (nI j)) 99 9 (nI (asN A + 1))) z) else none) else some (-2, HH sh c z)) := by
      intro c hR
      unfold f_X7_queue
      simp only [HG W hS.1, bnd_s]
      rw [isSack_in W hS hR hV hj, bnd_s, if_neg (by decide), isWaiting_in W hS hR hV hj, bnd_s]
      refine wl2_fuel (fun i w k => k = nI i ∧ w = (if mvD (asV A) j 4 = 0 ∧ ¬ inQ (asQ A) i j then 1 else 0)) (asN A) (by omega) (fun t => t = _) ?_ _ _ ⟨rfl, ?_⟩
      · intro rec i w k hi hx
        obtain ⟨rfl, rfl⟩ := hx
        simp only [HI (k := 9) W hS.1 rfl, bnd_s, hR.2.2.2.2.1, HR (k := 10) W hS.1 rfl, jn1_s, jn0_s]
        rcases Nat.lt_or_ge i (asN A) with hl | hl
        · have hbq := (hq.2.1 i hl).1
          refine Or.inl ⟨hl, _, nI (i + 1), ⟨rfl, rfl⟩, ?_⟩
          rw [if_neg (by rw [nle (by omega) (by omega)]; omega), HL W hS.2.2.2.2.2.2.1 (show i < 10 by omega) (by omega), bnd_s, hR.2.2.2.2.2.1 i hl, nI_1]
          have hstep : inQ (asQ A) (i + 1) j ↔ inQ (asQ A) i j ∨ asQ A i = j := by
            simp only [inQ, inB, Bool.or_eq_true, beq_iff_eq]
          simp only [hstep]
          by_cases h1 : mvD (asV A) j 4 = 0 ∧ ¬ inQ (asQ A) i j
          · simp only [if_pos h1, if_neg i10]
            by_cases he : asQ A i = j
            · rw [if_pos (by rw [he]), if_neg (by intro q; exact q.2 (Or.inr he))]
            · rw [if_neg (by rw [neq (by omega) (by omega)]; exact he), if_pos ⟨h1.1, by rintro (q | q); exact h1.2 q; exact he q⟩]
          · simp only [if_neg h1, if_true]
            rw [if_neg (by intro q; exact h1 ⟨q.1, fun w => q.2 (Or.inl w)⟩)]
        · refine Or.inr ?_
          rw [if_pos (by rw [nle (by omega) (by omega)]; omega), show i = asN A by omega]
          by_cases h1 : mvD (asV A) j 4 = 0 ∧ ¬ inQ (asQ A) (asN A) j
          · simp only [if_pos h1, if_neg i10]
            have hN : asN A < 10 := by
              rcases Nat.lt_or_ge (asN A) 10 with g | g
              · exact g
              · exfalso
                have e10 : asN A = 10 := by omega
                refine h1.2 ?_
                rw [e10]
                refine full10 (asQ A) (fun i hi => ?_) (fun i k hi hk e => hq.2.2 i k (by omega) (by omega) e) j h10
                have := (hq.2.1 i (by omega)).1
                have := hV.1
                omega
            rw [if_pos hN, HS W hS.2.2.2.2.2.2.1 hN (by omega), bnd_s]
            simp only [HI (k := 9) W hS.1 rfl, HP (k := 9) W hS.1 rfl, bnd_s, nrw]
            have e1 : u2 c 105 (asN A) (nI j) 99 9 = nI (asN A) := by rw [u2_ne _ _ (Or.inl (by decide))]; exact hR.2.2.2.2.1
            rw [e1, nI_1, u2_same]
          · simp only [if_neg h1, if_true]
      · by_cases h0 : mvD (asV A) j 4 = 0
        · rw [if_pos h0, if_pos ⟨h0, fun q => by cases q⟩]
        · rw [if_neg h0, if_neg (fun q => h0 q.1)]
    by_cases h1 : mvD (asV A) j 4 = 0 ∧ ¬ inQ (asQ A) (asN A) j
    · have hbf : b = false := by
        cases b with
        | false => rfl
        | true => exact absurd (hb2.mp rfl) h1.2
      subst hbf
      have hN : asN A < 10 := by
        rcases Nat.lt_or_ge (asN A) 10 with g | g
        · exact g
        · exfalso
          have e10 : asN A = 10 := by omega
          refine h1.2 ?_
          rw [e10]
          refine full10 (asQ A) (fun i hi => ?_) (fun i k hi hk e => hq.2.2 i k (by omega) (by omega) e) j h10
          have := (hq.2.1 i (by omega)).1
          have := hV.1
          omega
      have e6 : f_X6_queue 0 (nI j) (HH sh c z) = some (nI (asN A + 1), HH sh (u2 (u2 c 78 (asN A) (nI j)) 0 10 (nI (asN A + 1))) z) := by
        unfold f_X6_queue
        simp only [HG W hs.1, bnd_s, HR (k := 4) W hs.1 rfl, jn0_s]
        rw [has_in W hs.m10 hcm hV.1 hj, bnd_s, if_neg (by decide), waits_in W hs.m10 hcm hV hj, bnd_s, if_pos h1.1, if_neg (by decide), eb, bnd_s]
        simp only [HI (k := 10) W hs.1 rfl, HP (k := 10) W hs.1 rfl, HR (k := 9) W hs.1 rfl, bnd_s, hc.2.2.2.2.1]
        rw [if_pos (by rfl), if_pos (by rw [show (10 : Int32) = nI 10 from rfl, nlt (by omega) (by omega)]; omega), HS W hs.2.2.2.2.2.2.1 hN (by omega), bnd_s]
        simp only [HI (k := 10) W hs.1 rfl, HP (k := 10) W hs.1 rfl, bnd_s, nrw]
        have e1 : u2 c 78 (asN A) (nI j) 0 10 = nI (asN A) := by rw [u2_ne _ _ (Or.inl (by decide))]; exact hc.2.2.2.2.1
        rw [e1, nI_1, u2_same]
      have fM : FrM sh c sh (u2 (u2 c 78 (asN A) (nI j)) 0 10 (nI (asN A + 1))) := fun b g1 g2 => ⟨rfl, by rw [u2_other _ _ _ (by omega), u2_other _ _ _ (by omega)]⟩
      have hR1 := hR.kept fM
      refine ⟨_, _, _, e6, by rw [hmod _ hR1, if_pos h1, if_pos hN], ?_⟩
      have f : ∀ b, b ≠ 0 → b ≠ 78 → b ≠ 99 → b ≠ 105 → u2 (u2 (u2 (u2 c 78 (asN A) (nI j)) 0 10 (nI (asN A + 1))) 105 (asN A) (nI j)) 99 9 (nI (asN A + 1)) b = c b := fun b g1 g2 g3 g4 => by rw [u2_other _ _ _ g3, u2_other _ _ _ g4, u2_other _ _ _ g1, u2_other _ _ _ g2]
      let Q : Nat → Nat := fun i => if i = asN A then j else asQ A i
      have hQ : ∀ i, i < asN A + 1 → Q i < mvN (asV A) ∧ mvD (asV A) (Q i) 4 = 0 := by
        intro i hi
        by_cases he : i = asN A
        · simp only [Q, if_pos he]; exact ⟨hj, h1.1⟩
        · simp only [Q, if_neg he]; exact hq.2.1 i (by omega)
      have hinj : ∀ i k, i < asN A + 1 → k < asN A + 1 → Q i = Q k → i = k := by
        intro i k hi hk e
        by_cases he : i = asN A
        · by_cases hf : k = asN A
          · omega
          · simp only [Q, if_pos he, if_neg hf] at e
            exact absurd ((inQ_iff _ _ _).mpr ⟨k, by omega, e.symm⟩) h1.2
        · by_cases hf : k = asN A
          · simp only [Q, if_neg he, if_pos hf] at e
            exact absurd ((inQ_iff _ _ _).mpr ⟨i, by omega, e⟩) h1.2
          · simp only [Q, if_neg he, if_neg hf] at e
            exact hq.2.2 i k (by omega) (by omega) e
      refine ⟨_, sh, _, z, rfl, hA.set0 (asT A) (asD A) (asE A) (asN A + 1) Q hA.1 (Nat.le_refl _) (Nat.le_refl _) (by omega) hQ hinj, hC.set0 hA (fun b g1 g2 g3 => f b g1 g2 (by omega) (by omega)) (asT A) (asD A) (asE A) (asN A + 1) Q ?_ ?_ ?_ ?_ (Nat.le_refl _) (Nat.le_refl _) ?_, hS, hR.set0 (fun b g => f b (by omega) (by omega) (by omega) (by omega)) (asT A) (asD A) (asE A) (asN A + 1) Q ?_ ?_ ?_ ?_ (Nat.le_refl _) (Nat.le_refl _) ?_⟩
      · simp [u2]; exact hc.2.1
      · simp [u2]; exact hc.2.2.1
      · simp [u2]; exact hc.2.2.2.1
      · simp [u2]
      · intro i hi
        by_cases he : i = asN A
        · simp [u2, Q, he]
        · simp [u2, Q, he]; exact hc.2.2.2.2.2.1 i (by omega)
      · simp [u2]; exact hR.2.1
      · simp [u2]; exact hR.2.2.1
      · simp [u2]; exact hR.2.2.2.1
      · simp [u2]
      · intro i hi
        by_cases he : i = asN A
        · simp [u2, Q, he]
        · simp [u2, Q, he]; exact hR.2.2.2.2.2.1 i (by omega)
    · have e6 : f_X6_queue 0 (nI j) (HH sh c z) = some (-2, HH sh c z) := by
        unfold f_X6_queue
        simp only [HG W hs.1, bnd_s, HR (k := 4) W hs.1 rfl, jn0_s]
        rw [has_in W hs.m10 hcm hV.1 hj, bnd_s, if_neg (by decide), waits_in W hs.m10 hcm hV hj, bnd_s]
        by_cases h0 : mvD (asV A) j 4 = 0
        · have hbt : b = true := hb2.mpr (Decidable.byContradiction fun q => h1 ⟨h0, q⟩)
          subst hbt
          rw [if_pos h0, if_neg (by decide), eb, bnd_s, if_neg (by decide)]
        · rw [if_neg h0, if_pos rfl]
      exact ⟨_, _, _, e6, by rw [hmod _ hR, if_neg h1], same⟩
  · refine ⟨-1, HH sh c z, HH sh c z, ?_, ?_, same⟩
    · unfold f_X6_queue
      simp only [HG W hs.1, bnd_s, HR (k := 4) W hs.1 rfl, jn0_s]
      rw [has_out W hs.m10 hcm hx, bnd_s, if_pos rfl]
    · unfold f_X7_queue
      simp only [HG W hS.1, bnd_s]
      rw [isSack_out W hS hR hV hx, bnd_s, if_pos rfl]
end QU
