/-! ===== what is remembered; sacks poured, sold, halved ===== -/
def remM (A : AS) : Nat := min (asD A) 7
def asRem (A : AS) : AS := (asX A, asT A, asL A, asP A, asV A, (fun p => if p = remM A then asV A else asU A (p + (asD A - remM A))), remM A + 1, asK A, asE A, asQ A, asN A)
theorem uS_uS (sh : Nat → Shp) (a : Nat) (s t : Shp) : uS (uS sh a s) a t = uS sh a t := by
  funext b
  by_cases h : b = a <;> simp [uS, h]
theorem uS_ne (sh : Nat → Shp) {a b : Nat} (s : Shp) (h : b ≠ a) : uS sh a s b = sh b := by simp [uS, h]
theorem uS_same (sh : Nat → Shp) (a : Nat) (s : Shp) : uS sh a s a = s := by simp [uS]
theorem uS_self (sh : Nat → Shp) (a : Nat) {s : Shp} (h : sh a = s) : uS sh a s = sh := by
  funext b
  by_cases hb : b = a
  · rw [hb, uS_same, h]
  · rw [uS_ne _ _ hb]
section CH
variable {n : Nat} {h : Hp} {A : AS} {sh sh' : Nat → Shp} {c c' : Nat → Nat → Int32} {z : Nat × Nat}
/-- only the row of what can be undone has another shape -/
theorem SC.set16 {y : Dy} (h : SC sh y) (s : Shp) : SC (uS sh 16 s) y := by
  obtain ⟨s0, s1, s2, s3, s4, s65, s78, s79, s80, s81, s82, s84, s85, s86, s87, s88, s89, s93, s94, s95, s96, s97, s98, hd⟩ := h
  have g : ∀ b, b ≠ 16 → uS sh 16 s b = sh b := fun b hb => uS_ne _ _ hb
  obtain ⟨d1, d2, d3, d4, d5, d6, d7, d8, d9⟩ := hd
  refine ⟨by rw [g 0 (by omega)]; exact s0, by rw [g 1 (by omega)]; exact s1, by rw [g 2 (by omega)]; exact s2, by rw [g 3 (by omega)]; exact s3, fun a ha => (s4 a ha).kept (fun b h1 h2 => g b ?_), by rw [g 65 (by omega)]; exact s65, by rw [g 78 (by omega)]; exact s78, by rw [g 79 (by omega)]; exact s79, by rw [g 80 (by omega)]; exact s80, by rw [g 81 (by omega)]; exact s81, by rw [g 82 (by omega)]; exact s82, by rw [g 84 (by omega)]; exact s84, by rw [g 85 (by omega)]; exact s85, by rw [g 86 (by omega)]; exact s86, by rw [g 87 (by omega)]; exact s87, by rw [g 88 (by omega)]; exact s88, by rw [g 89 (by omega)]; exact s89, by rw [g 93 (by omega)]; exact s93, by rw [g 94 (by omega)]; exact s94, by rw [g 95 (by omega)]; exact s95, by rw [g 96 (by omega)]; exact s96, by rw [g 97 (by omega)]; exact s97, by rw [g 98 (by omega)]; exact s98, by rw [g _ (by omega)]; exact d1, by rw [g _ (by omega)]; exact d2, by rw [g _ (by omega)]; exact d3, by rw [g _ (by omega)]; exact d4, d5, d6, d7, d8, d9⟩
  rcases ha with rfl | rfl | rfl | rfl | ⟨q, g1, rfl⟩ <;> omega
theorem remember_eq {y : Dy} (W : Wz sh z) (hs : SC sh y) (hc : ClsR A sh c) (hA : WFA A) : ∃ sh' c', f_X6_remember 0 (HH sh c z) = some (HH sh' c' z) ∧ Wz sh' z ∧ SC sh' y ∧ ClsR (asRem A) sh' c' ∧ (∀ b, b ≠ 0 → (b < 17 ∨ 65 ≤ b) → c' b = c b) ∧ (∀ b, b ≠ 16 → sh' b = sh b) ∧ ∀ j, j ≠ 6 → c' 0 j = c 0 j := by
  obtain ⟨c1, c2, c3, c4, c5, c6, c7, ⟨σ, c8, c9, c10, c11⟩, c12⟩ := hc
  have w5 := hA.2.2.2.2.1
  have w7 := hA.2.2.2.2.2.2.1
  have w4 := hA.2.2.2.1
  -- what the last part does, from any order of the row
  have fin : ∀ (τ : Nat → Nat) (d : Nat → Nat → Int32), (∀ p, p < 8 → τ p < 8) → (∀ p q, p < 8 → q < 8 → τ p = τ q → p = q) → d 0 6 = nI (remM A) → (∀ b, b ≠ 0 → d b = c b) → (∀ j, j ≠ 6 → d 0 j = c 0 j) → (∀ p, p < remM A → CM c (17 + 6 * τ p) (asL A) (asP A) (asU A (p + (asD A - remM A)))) →
      ∃ c', (bnd (gR (HH (uS sh 16 (sC (aR 8 (pRow τ)))) d z) 0 6 5) fun a4 => bnd (gI (HH (uS sh 16 (sC (aR 8 (pRow τ)))) d z) 0 6 6) fun x5 => bnd (ldR (HH (uS sh 16 (sC (aR 8 (pRow τ)))) d z) a4 x5) fun a6 => bnd (gR (HH (uS sh 16 (sC (aR 8 (pRow τ)))) d z) 0 6 4) fun a7 => bnd (f_X2_copyFrom a6 a7 (HH (uS sh 16 (sC (aR 8 (pRow τ)))) d z)) fun h8 => bnd (gI h8 0 6 6) fun x9 => bnd (pF h8 0 6 6 (.int (x9 + (1 : Int32)))) fun h10 => some h10) = some (HH (uS sh 16 (sC (aR 8 (pRow τ)))) c' z) ∧ ClsR (asRem A) (uS sh 16 (sC (aR 8 (pRow τ)))) c' ∧ (∀ b, b ≠ 0 → (b < 17 ∨ 65 ≤ b) → c' b = c b) ∧ ∀ j, j ≠ 6 → c' 0 j = c 0 j := by
    intro τ d t1 t2 d06 fd fd0 tU
    have W' : Wz (uS sh 16 (sC (aR 8 (pRow τ)))) z := W.put (by rw [c8]; exact fun h => by cases h)
    have hs' := hs.set16 (sC (aR 8 (pRow τ)))
    have hm : remM A < 8 := by unfold remM; omega
    have hτ := t1 _ hm
    obtain ⟨e, e1, e2, e3⟩ := copyFrom_eq (c := d) W' (hs'.mp hτ) hs'.m10 (by omega)
    have e06 : e 0 6 = nI (remM A) := by rw [e3 0 (by omega)]; exact d06
    have fe : ∀ b, b ≠ 0 → (b < 17 + 6 * τ (remM A) ∨ 17 + 6 * τ (remM A) + 6 ≤ b) → u2 e 0 6 (nI (remM A + 1)) b = c b := fun b g1 g2 => by rw [u2_other _ _ _ g1, e3 b g2, fd b g1]
    have fe0 : ∀ j, j ≠ 6 → u2 e 0 6 (nI (remM A + 1)) 0 j = c 0 j := fun j hj => by rw [u2_ne _ _ (Or.inr hj), e3 0 (by omega), fd0 j hj]
    refine ⟨u2 e 0 6 (nI (remM A + 1)), ?_, ⟨?_, ?_, ?_, ?_, ?_, ?_, ?_, ⟨τ, uS_same _ _ _, t1, t2, ?_⟩, ?_⟩, fun b g1 g2 => fe b g1 (by omega), fe0⟩
    · simp only [HR (k := 5) W' hs'.1 rfl, HR (k := 4) W' hs'.1 rfl, HI (k := 6) W' hs'.1 rfl, bnd_s, d06]
      rw [HLR W' (uS_same _ _ _) hm (by omega), pRow_at hm, bnd_s, e1, bnd_s]
      simp only [HI (k := 6) W' hs'.1 rfl, HP (k := 6) W' hs'.1 rfl, bnd_s, e06]
      rw [nI_1]
    · rw [fe 1 (by omega) (by omega)]; exact c1
    · rw [fe0 1 (by omega)]; exact c2
    · rw [u2_same]; rfl
    · rw [fe0 8 (by omega)]; exact c4
    · rw [fe0 10 (by omega)]; exact c5
    · intro i hi; rw [fe 78 (by omega) (by omega)]; exact c6 i hi
    · exact c7.kept (fun b g1 g2 => fe b (by omega) (by omega))
    · intro p hp
      have hp : p < remM A + 1 := hp
      show CM _ (17 + 6 * τ p) (asL A) (asP A) (if p = remM A then asV A else asU A (p + (asD A - remM A)))
      by_cases g : p = remM A
      · rw [if_pos g, g]
        refine (e2 _ _ _ w4.1 ?_).kept (fun b g1 g2 => u2_other _ _ _ (by omega))
        exact c7.kept (fun b g1 g2 => fd b (by omega))
      · rw [if_neg g]
        have a1 := t1 p (by omega)
        have a2 : τ p ≠ τ (remM A) := fun q => g (t2 p (remM A) (by omega) hm q)
        exact (tU p (by omega)).kept (fun b g1 g2 => fe b (by omega) (by omega))
    · intro k hk
      have hk : k < asE A := hk
      exact (c12 k hk).kept (fun b g1 g2 => fe b (by omega) (by omega))
  by_cases h8 : asD A < 8
  · have hm : remM A = asD A := by unfold remM; omega
    obtain ⟨c', g1, g2, g3, g4⟩ := fin σ c c9 c10 (by rw [hm]; exact c3) (fun b _ => rfl) (fun j _ => rfl) (fun p hp => by rw [hm, Nat.sub_self, Nat.add_zero]; exact c11 p (by omega))
    rw [uS_self sh 16 c8] at g1 g2
    refine ⟨sh, c', ?_, W, hs, g2, g3, fun b _ => rfl, g4⟩
    unfold f_X6_remember
    rw [HG W hs.1, bnd_s, HI (k := 6) W hs.1 rfl, bnd_s, jn1_s, c3, if_pos (show nI (asD A) < 8 from nI_lt (b := 8) h8 (by omega))]
    exact g1
  · have h8' : asD A = 8 := by omega
    have hm : remM A = 7 := by unfold remM; omega
    let τ : Nat → Nat := fun p => if p < 7 then σ (p + 1) else if p = 7 then σ 0 else σ p
    have t1 : ∀ p, p < 8 → τ p < 8 := by
      intro p hp
      by_cases g : p < 7
      · simp only [τ, if_pos g]; exact c9 _ (by omega)
      · simp only [τ, if_neg g, if_pos (show p = 7 by omega)]; exact c9 _ (by omega)
    have t2 : ∀ p q, p < 8 → q < 8 → τ p = τ q → p = q := by
      intro p q hp hq e
      by_cases g : p < 7
      · by_cases g2 : q < 7
        · simp only [τ, if_pos g, if_pos g2] at e
          have := c10 _ _ (by omega) (by omega) e
          omega
        · simp only [τ, if_pos g, if_neg g2, if_pos (show q = 7 by omega)] at e
          have := c10 _ _ (by omega) (by omega) e
          omega
      · by_cases g2 : q < 7
        · simp only [τ, if_neg g, if_pos g2, if_pos (show p = 7 by omega)] at e
          have := c10 _ _ (by omega) (by omega) e
          omega
        · omega
    obtain ⟨c', g1, g2, g3, g4⟩ := fin τ (u2 c 0 6 7) t1 t2 (by rw [hm, u2_same]; rfl) (fun b hb => u2_other _ _ _ hb) (fun j hj => u2_ne _ _ (Or.inr hj)) (fun p hp => by
      rw [hm] at hp ⊢
      simp only [τ, if_pos hp]
      have := c11 (p + 1) (by omega)
      rw [h8']
      exact this)
    have W' : Wz (uS sh 16 (sC (aR 8 (pRow τ)))) z := W.put (by rw [c8]; exact fun h => by cases h)
    refine ⟨uS sh 16 (sC (aR 8 (pRow τ))), c', ?_, W', hs.set16 _, g2, g3, fun b hb => uS_ne _ _ hb, g4⟩
    unfold f_X6_remember
    rw [HG W hs.1, bnd_s, HI (k := 6) W hs.1 rfl, bnd_s, jn1_s, c3, if_neg (show ¬ nI (asD A) < 8 from nI_nlt (b := 8) (by omega) (by omega)), HR (k := 5) W hs.1 rfl, bnd_s, show ldR (HH sh c z) 16 0 = _ from HLR W c8 (i := 0) (by omega) (by omega), pRow_at (show 0 < 8 by omega), bnd_s]
    refine wl2_fuel (fun i x h => x = nI (i + 1) ∧ h = HH (uS sh 16 (sC (aR 8 (fun p => if p < i then some (17 + 6 * σ (p + 1)) else pRow σ p)))) c z) 7 (by omega) (fun t => t = _) ?_ _ _ ⟨rfl, ?_⟩
    · intro rec i x h hi hx
      obtain ⟨rfl, rfl⟩ := hx
      have Wi : Wz (uS sh 16 (sC (aR 8 (fun p => if p < i then some (17 + 6 * σ (p + 1)) else pRow σ p)))) z := W.put (by rw [c8]; exact fun h => by cases h)
      have hsi := hs.set16 (sC (aR 8 (fun p => if p < i then some (17 + 6 * σ (p + 1)) else pRow σ p)))
      rcases Nat.lt_or_ge i 7 with hl | hl
      · refine Or.inl ⟨hl, _, _, ⟨rfl, rfl⟩, ?_⟩
        rw [if_neg (show ¬ (8 : Int32) ≤ nI (i + 1) from nI_ge (b := 8) (by omega) (by omega))]
        simp only [HR (k := 5) Wi hsi.1 rfl, bnd_s]
        rw [HLR Wi (uS_same _ _ _) (i := i + 1) (by omega) (by omega), if_neg (by omega), pRow_at (show i + 1 < 8 by omega), bnd_s, nI_pred, HSR Wi (uS_same _ _ _) (HG Wi (hsi.mp (c9 (i + 1) (by omega))).1) (i := i) (by omega) (by omega), bnd_s, uS_uS, nI_1]
        congr 6
        funext p
        simp only [va_up]
        by_cases g : p = i
        · rw [if_pos g, if_pos (by omega), g]
        · rw [if_neg g]
          by_cases g5 : p < i
          · rw [if_pos g5, if_pos (by omega)]
          · rw [if_neg g5, if_neg (by omega)]
      · refine Or.inr ?_
        have e7 : i = 7 := by omega
        subst e7
        rw [if_pos (show (8 : Int32) ≤ nI (7 + 1) from by decide)]
        simp only [HR (k := 5) Wi hsi.1 rfl, bnd_s]
        rw [show stR (HH (uS sh 16 (sC (aR 8 (fun p => if p < 7 then some (17 + 6 * σ (p + 1)) else pRow σ p)))) c z) 16 7 (17 + 6 * σ 0) = _ from HSR Wi (uS_same _ _ _) (HG Wi (hsi.mp (c9 0 (by omega))).1) (i := 7) (by omega) (by omega), bnd_s, uS_uS]
        have ef : (va_up (fun p => if p < 7 then some (17 + 6 * σ (p + 1)) else pRow σ p) 7 (some (17 + 6 * σ 0))) = pRow τ := by
          funext p
          simp only [va_up]
          by_cases g : p = 7
          · rw [if_pos g, g, pRow_at (by omega)]
            simp [τ]
          · rw [if_neg g]
            by_cases g5 : p < 7
            · rw [if_pos g5, pRow_at (by omega)]
              simp only [τ]
              rw [if_pos g5]
            · rw [if_neg g5]
              unfold pRow
              rw [if_neg (by omega), if_neg (by omega)]
        rw [ef, HP (k := 6) W' (hs.set16 _).1 rfl, bnd_s]
        exact g1
    · have ef : (fun p => if p < 0 then some (17 + 6 * σ (p + 1)) else pRow σ p) = pRow σ := by
        funext p
        rw [if_neg (by omega)]
      rw [ef, uS_self sh 16 c8]
end CH
