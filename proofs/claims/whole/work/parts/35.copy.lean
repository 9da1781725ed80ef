/-! ===== mills copied: in the class, in the reference ===== -/
section CP
variable {n : Nat} {h : Hp} {A : AS} {sh : Nat → Shp} {c c' : Nat → Nat → Int32} {z : Nat × Nat}
theorem HC10 (W : Wz sh z) {a0 a : Nat} (hs : sh a = sA 0 10) (hs0 : sh a0 = sA 0 10) : cpI (HH sh c z) a0 0 a 0 10 = some (HH sh (uR c a (va_cpy (c a0) (c a) 0 0 10)) z) := HCp (sp := 0) (dp := 0) (m := 10) W hs hs0 (by omega) (by omega) (by omega) (by omega)
set_option maxHeartbeats 1000000 in
theorem copyFrom_eq (W : Wz sh z) {a b : Nat} (ha : isM sh a) (hb : isM sh b) (hab : a + 6 ≤ b ∨ b + 6 ≤ a) : ∃ c', f_X2_copyFrom a b (HH sh c z) = some (HH sh c' z) ∧ (∀ law price V, mvN V ≤ 10 → CM c b law price V → CM c' a law price V) ∧ ∀ q, q < a ∨ a + 6 ≤ q → c' q = c q := by
  refine ⟨?_, ?_, ?_, ?_⟩
  rotate_left
  · unfold f_X2_copyFrom
    simp only [HG W ha.1, bnd_s, HI (k := 0) W hb.1 rfl, HP (k := 0) W ha.1 rfl, HI (k := 1) W hb.1 rfl, HP (k := 1) W ha.1 rfl, HI (k := 2) W hb.1 rfl, HP (k := 2) W ha.1 rfl, HR (k := 3) W hb.1 rfl, HR (k := 3) W ha.1 rfl, HR (k := 4) W hb.1 rfl, HR (k := 4) W ha.1 rfl, HR (k := 5) W hb.1 rfl, HR (k := 5) W ha.1 rfl, HR (k := 6) W hb.1 rfl, HR (k := 6) W ha.1 rfl, HR (k := 7) W hb.1 rfl, HR (k := 7) W ha.1 rfl, HC10 W ha.row.1 hb.row.1, HC10 W ha.row.2.1 hb.row.2.1, HC10 W ha.row.2.2.1 hb.row.2.2.1, HC10 W ha.row.2.2.2.1 hb.row.2.2.2.1, HC10 W ha.row.2.2.2.2 hb.row.2.2.2.2, HI (k := 8) W hb.1 rfl, HP (k := 8) W ha.1 rfl, HI (k := 9) W hb.1 rfl, HP (k := 9) W ha.1 rfl, HI (k := 10) W hb.1 rfl, HP (k := 10) W ha.1 rfl, HI (k := 11) W hb.1 rfl, HP (k := 11) W ha.1 rfl]
    exact rfl
  · intro law price V hn hV
    obtain ⟨h1, h2, h3, h4, h5, h6, h7, h8⟩ := hV
    have hne : b ≠ a := by omega
    have hd : ∀ w, w < 5 → b ≠ a + 1 + w ∧ a ≠ a + 1 + w := fun w hw => by omega
    have nb : ∀ k, 1 ≤ k → k ≤ 5 → b ≠ a + k ∧ a ≠ a + k := fun k g1 g2 => by omega
    refine ⟨?_, ?_, ?_, ?_, ?_, ?_, ?_, ?_⟩
    · simp [u2, uR, hne, nb]; exact h1
    · simp [u2, uR, hne, nb]; exact h2
    · simp [u2, uR, hne, nb]; exact h3
    · intro i hi w hw
      have hi10 : i < 10 := by omega
      rcases (show w = 0 ∨ w = 1 ∨ w = 2 ∨ w = 3 ∨ w = 4 by omega) with rfl | rfl | rfl | rfl | rfl
      · rw [← h4 i hi 0 (by omega)]
        have e1 : b + 1 ≠ a := by omega
        simp [u2, uR, va_cpy, hi10, e1]
      · rw [← h4 i hi 1 (by omega)]
        have e1 : b + 2 ≠ a := by omega
        have e2 : b + 2 ≠ a + 1 := by omega
        simp [u2, uR, va_cpy, hi10, e1, e2, Nat.add_assoc]
      · rw [← h4 i hi 2 (by omega)]
        have e1 : b + 3 ≠ a := by omega
        have e2 : b + 3 ≠ a + 1 := by omega
        have e3 : b + 3 ≠ a + 2 := by omega
        simp [u2, uR, va_cpy, hi10, e1, e2, e3, Nat.add_assoc]
      · rw [← h4 i hi 3 (by omega)]
        have e1 : b + 4 ≠ a := by omega
        have e2 : b + 4 ≠ a + 1 := by omega
        have e3 : b + 4 ≠ a + 2 := by omega
        have e4 : b + 4 ≠ a + 3 := by omega
        simp [u2, uR, va_cpy, hi10, e1, e2, e3, e4, Nat.add_assoc]
      · rw [← h4 i hi 4 (by omega)]
        have e1 : b + 5 ≠ a := by omega
        have e2 : b + 5 ≠ a + 1 := by omega
        have e3 : b + 5 ≠ a + 2 := by omega
        have e4 : b + 5 ≠ a + 3 := by omega
        have e5 : b + 5 ≠ a + 4 := by omega
        simp [u2, uR, va_cpy, hi10, e1, e2, e3, e4, e5, Nat.add_assoc]
    · simp [u2, uR, hne, nb]; exact h5
    · simp [u2, uR, hne, nb]; exact h6
    · simp [u2, uR, hne, nb]; exact h7
    · simp [u2, uR, hne, nb]; exact h8
  · intro q hq
    have g0 : q ≠ a := by omega
    have g1 : q ≠ a + 1 := by omega
    have g2 : q ≠ a + 2 := by omega
    have g3 : q ≠ a + 3 := by omega
    have g4 : q ≠ a + 4 := by omega
    have g5 : q ≠ a + 5 := by omega
    funext j
    simp [u2, uR, g0, g1, g2, g3, g4, g5]
/-- slot a of the reference's row, laid over slot b -/
def slCopy (s : Nat → Int32) (a b : Nat) (m : Nat) : Nat → Int32 := fun k => if 55 * b ≤ k ∧ k < 55 * b + m then s (55 * a + (k - 55 * b)) else s k
theorem copies_eq (W : Wz sh z) (hS : SMo sh) {a b : Nat} (ha : a < 11) (hb : b < 11) (hne : a ≠ b) : f_X7_copies 99 (nI a) (nI b) (HH sh c z) = some (HH sh (uR c 104 (slCopy (c 104) a b 55)) z) := by
  unfold f_X7_copies
  simp only [HG W hS.1, bnd_s]
  refine wl2_fuel (fun i x h => x = nI i ∧ h = HH sh (uR c 104 (slCopy (c 104) a b i)) z) 55 (by omega) (fun t => t = some (HH sh (uR c 104 (slCopy (c 104) a b 55)) z)) ?_ _ _ ⟨rfl, ?_⟩
  · intro rec i x h hi hx
    obtain ⟨rfl, rfl⟩ := hx
    rcases Nat.lt_or_ge i 55 with hl | hl
    · refine Or.inl ⟨hl, _, _, ⟨rfl, rfl⟩, ?_⟩
      rw [if_neg (show ¬ (55 : Int32) ≤ nI i from nI_ge (b := 55) hl (by omega))]
      simp only [HR (k := 6) W hS.1 rfl, bnd_s]
      rw [show (55 : Int32) = nI 55 from rfl, pk_mul, pk_mul, nI_add, nI_add, HL W hS.2.2.2.2.2.1 (show 55 * a + i < 605 by omega) (by omega), bnd_s, HS W hS.2.2.2.2.2.1 (show 55 * b + i < 605 by omega) (by omega), bnd_s, nI_1]
      congr 2
      funext q
      by_cases hq : q = 104
      · subst hq
        rw [u2_row, uR_same, uR_same]
        funext k
        simp only [upd, nrw, slCopy]
        by_cases hk : k = 55 * b + i
        · subst hk
          rw [if_pos rfl, if_neg (by omega), if_pos (by omega)]
          congr 1
          omega
        · rw [if_neg hk]
          by_cases hk2 : 55 * b ≤ k ∧ k < 55 * b + i
          · rw [if_pos hk2, if_pos (by omega)]
          · rw [if_neg hk2, if_neg (by omega)]
      · rw [u2_other _ _ _ hq, uR_other _ _ hq, uR_other _ _ hq]
    · refine Or.inr ?_
      rw [if_pos (show (55 : Int32) ≤ nI i from nI_le (a := 55) hl (by omega)), show i = 55 by omega]
  · congr 1
    funext q
    by_cases hq : q = 104
    · subst hq
      rw [uR_same]
      funext k
      simp only [slCopy]
      rw [if_neg (by omega)]
    · rw [uR_other _ _ hq]
theorem SlM.copied {s : Nat → Int32} {a b : Nat} {V : MV} (hn : mvN V ≤ 10) (h : SlM s a V) : SlM (slCopy s a b 55) b V := by
  obtain ⟨h1, h2, h3, h4, h5, h6⟩ := h
  refine ⟨fun i hi w hw => ?_, ?_, ?_, ?_, ?_, ?_⟩
  · simp only [slCopy]
    rw [if_pos (by omega), ← h1 i hi w hw]
    congr 1
    omega
  · simp only [slCopy]; rw [if_pos (by omega), ← h2]; congr 1; omega
  · simp only [slCopy]; rw [if_pos (by omega), ← h3]; congr 1; omega
  · simp only [slCopy]; rw [if_pos (by omega), ← h4]; congr 1; omega
  · simp only [slCopy]; rw [if_pos (by omega), ← h5]; congr 1; omega
  · simp only [slCopy]; rw [if_pos (by omega), ← h6]; congr 1; omega
/-- a slot is as it was, when its 55 places are -/
theorem SlM.keep {s s' : Nat → Int32} {q : Nat} {V : MV} (hn : mvN V ≤ 10) (h : SlM s q V) (f : ∀ k, 55 * q ≤ k → k < 55 * q + 55 → s' k = s k) : SlM s' q V := by
  obtain ⟨h1, h2, h3, h4, h5, h6⟩ := h
  exact ⟨fun i hi w hw => by rw [f _ (by omega) (by omega)]; exact h1 i hi w hw, by rw [f _ (by omega) (by omega)]; exact h2, by rw [f _ (by omega) (by omega)]; exact h3, by rw [f _ (by omega) (by omega)]; exact h4, by rw [f _ (by omega) (by omega)]; exact h5, by rw [f _ (by omega) (by omega)]; exact h6⟩
theorem slCopy_off (s : Nat → Int32) (a b : Nat) {k : Nat} (h : k < 55 * b ∨ 55 * b + 55 ≤ k) : slCopy s a b 55 k = s k := by
  simp only [slCopy]
  rw [if_neg (by omega)]
end CP
