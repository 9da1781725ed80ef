/-! ===== kept, brought back, undone, remembered ===== -/
section UN
variable {n : Nat} {h : Hp} {A : AS} {sh sh' : Nat → Shp} {c c' : Nat → Nat → Int32} {z : Nat × Nat}
theorem SC.mk {y : Dy} (h : SC sh y) {k : Nat} (hk : k < 2) : isM sh (66 + 6 * k) := by
  rcases (show k = 0 ∨ k = 1 by omega) with rfl | rfl
  · exact h.2.2.2.2.1 66 (Or.inr (Or.inr (Or.inl rfl)))
  · exact h.2.2.2.2.1 72 (Or.inr (Or.inr (Or.inr (Or.inl rfl))))
theorem SC.mp {y : Dy} (h : SC sh y) {q : Nat} (hq : q < 8) : isM sh (17 + 6 * q) := h.2.2.2.2.1 _ (Or.inr (Or.inr (Or.inr (Or.inr ⟨q, hq, rfl⟩))))
/-- the slots in question are as they were -/
theorem slFr {s s' : Nat → Int32} {q : Nat} {V : MV} (hn : mvN V ≤ 10) (h : SlM s q V) (a b : Nat) (hb : b ≠ q) (e : s' = slCopy s a b 55) : SlM s' q V := by
  subst e
  exact h.keep hn (fun k g1 g2 => slCopy_off _ _ _ (by omega))
theorem op_keep (hI : Inv n h) : ∃ r h1 h2, f_X6_keep 0 h = some (r, h1) ∧ f_X7_keep 99 h1 = some (r, h2) ∧ Inv (n + 1) h2 := by
  obtain ⟨A, sh, c, z, rfl, hA, hC, hS, hR⟩ := hI
  obtain ⟨y, W, hs, hb, hc⟩ := id hC
  obtain ⟨c1, c2, c3, c4, c5, c6, c7, ⟨σ, c8, c9, c10, c11⟩, c12⟩ := hc
  obtain ⟨r1, r2, r3, r4, r5, r6, r7, r8, r9, r10, r11⟩ := hR
  obtain ⟨w1, w2, w3, w4, w5, w6, w7, w8, w9, w10, w11⟩ := hA
  by_cases h2 : asE A < 2
  · obtain ⟨d, e1, e2, e3⟩ := copyFrom_eq (c := c) W (hs.mk h2) hs.m10 (by omega)
    have ldk : ldR (HH sh c z) 65 (nI (asE A)) = some (66 + 6 * asE A) := by
      rw [HLR W hs.2.2.2.2.2.1 (i := asE A) (by omega) (by omega)]
      rcases (show asE A = 0 ∨ asE A = 1 by omega) with g | g <;> rw [g] <;> rfl
    have ed : d 0 8 = nI (asE A) := by rw [e3 0 (by omega)]; exact c4
    have ed97 : d 99 7 = nI (asE A) := by rw [e3 99 (by omega)]; exact r4
    refine ⟨nI (asE A + 1), HH sh (u2 d 0 8 (nI (asE A + 1))) z, HH sh (uR (u2 (u2 d 0 8 (nI (asE A + 1))) 99 7 (nI (asE A + 1))) 104 (slCopy (c 104) 0 (asE A + 1) 55)) z, ?_, ?_, ?_⟩
    · unfold f_X6_keep
      simp only [HG W hs.1, bnd_s, HI (k := 8) W hs.1 rfl, HR (k := 7) W hs.1 rfl, HR (k := 4) W hs.1 rfl, c4]
      rw [if_pos (show nI (asE A) < 2 from nI_lt (b := 2) h2 (by omega)), ldk, bnd_s, e1, bnd_s]
      simp only [HI (k := 8) W hs.1 rfl, HP (k := 8) W hs.1 rfl, bnd_s, ed]
      rw [nI_1, u2_same]
    · unfold f_X7_keep
      simp only [HG W hS.1, bnd_s, HI (k := 7) W hS.1 rfl, HP (k := 7) W hS.1 rfl]
      have e97 : u2 d 0 8 (nI (asE A + 1)) 99 7 = nI (asE A) := by rw [u2_ne _ _ (Or.inl (by decide))]; exact ed97
      rw [e97, if_neg (show ¬ nI (asE A) = 2 from by rw [show (2 : Int32) = nI 2 from rfl, neq (by omega) (by omega)]; omega), nI_1, u2_same]
      rw [show f_X7_copies 99 0 (nI (asE A + 1)) _ = _ from copies_eq (a := 0) (b := asE A + 1) W hS (by omega) (by omega) (by omega), bnd_s]
      simp only [HI (k := 7) W hS.1 rfl, bnd_s]
      rw [uR_other _ _ (by decide), u2_same]
      have e102 : u2 (u2 d 0 8 (nI (asE A + 1))) 99 7 (nI (asE A + 1)) 104 = c 104 := by rw [u2_other _ _ _ (by decide), u2_other _ _ _ (by decide), e3 104 (by omega)]
      rw [e102]
    · have f : ∀ b, b ≠ 0 → b ≠ 99 → b ≠ 104 → (b < 66 + 6 * asE A ∨ 66 + 6 * asE A + 6 ≤ b) → uR (u2 (u2 d 0 8 (nI (asE A + 1))) 99 7 (nI (asE A + 1))) 104 (slCopy (c 104) 0 (asE A + 1) 55) b = c b := fun b g1 g2 g3 g4 => by rw [uR_other _ _ g3, u2_other _ _ _ g2, u2_other _ _ _ g1, e3 b g4]
      have f0 : ∀ j, j ≠ 8 → uR (u2 (u2 d 0 8 (nI (asE A + 1))) 99 7 (nI (asE A + 1))) 104 (slCopy (c 104) 0 (asE A + 1) 55) 0 j = c 0 j := fun j hj => by rw [uR_other _ _ (by decide), u2_other _ _ _ (by decide), u2_ne _ _ (Or.inr hj), e3 0 (by omega)]
      have f97 : ∀ j, j ≠ 7 → uR (u2 (u2 d 0 8 (nI (asE A + 1))) 99 7 (nI (asE A + 1))) 104 (slCopy (c 104) 0 (asE A + 1) 55) 99 j = c 99 j := fun j hj => by rw [uR_other _ _ (by decide), u2_ne _ _ (Or.inr hj), u2_other _ _ _ (by decide), e3 99 (by omega)]
      have fk : ∀ b, 66 + 6 * asE A ≤ b → b < 66 + 6 * asE A + 6 → uR (u2 (u2 d 0 8 (nI (asE A + 1))) 99 7 (nI (asE A + 1))) 104 (slCopy (c 104) 0 (asE A + 1) 55) b = d b := fun b g1 g2 => by rw [uR_other _ _ (by omega), u2_other _ _ _ (by omega), u2_other _ _ _ (by omega)]
      refine ⟨(asX A, asT A, asL A, asP A, asV A, asU A, asD A, (fun k => if k = asE A then asV A else asK A k), asE A + 1, asQ A, asN A), sh, _, z, rfl, ⟨w1, w2, w3, w4, w5, w6, by show asE A + 1 ≤ 2; omega, fun k hk => ?_, w9, w10, w11⟩, ⟨y, W, hs, ⟨hb.1, by have := hb.2.1; omega, by have := hb.2.2; omega⟩, ?_, ?_, ?_, ?_, ?_, ?_, ?_, ⟨σ, c8, c9, c10, ?_⟩, ?_⟩, hS, ?_, ?_, ?_, ?_, ?_, ?_, ?_, ?_, ?_, ?_, ?_⟩
      · have hk : k < asE A + 1 := hk
        show WFV (if k = asE A then asV A else asK A k)
        by_cases g : k = asE A
        · rw [if_pos g]; exact w4
        · rw [if_neg g]; exact w8 k (by omega)
      · rw [f 1 (by omega) (by omega) (by omega) (by omega)]; exact c1
      · rw [f0 1 (by omega)]; exact c2
      · rw [f0 6 (by omega)]; exact c3
      · rw [uR_other _ _ (by decide), u2_other _ _ _ (by decide), u2_same]
      · rw [f0 10 (by omega)]; exact c5
      · intro i hi; rw [f 78 (by omega) (by omega) (by omega) (by omega)]; exact c6 i hi
      · exact c7.kept (fun b g1 g2 => f b (by omega) (by omega) (by omega) (by omega))
      · intro p hp
        have hp : p < asD A := hp
        have := c9 p (by omega)
        exact (c11 p hp).kept (fun b g1 g2 => f b (by omega) (by omega) (by omega) (by omega))
      · intro k hk
        have hk : k < asE A + 1 := hk
        show CM _ (66 + 6 * k) (asL A) (asP A) (if k = asE A then asV A else asK A k)
        by_cases g : k = asE A
        · rw [if_pos g, g]
          exact (e2 _ _ _ w4.1 c7).kept fk
        · rw [if_neg g]
          exact (c12 k (by omega)).kept (fun b g1 g2 => f b (by omega) (by omega) (by omega) (by omega))
      · rw [f 100 (by omega) (by omega) (by omega) (by omega)]; exact r1
      · rw [f97 0 (by omega)]; exact r2
      · rw [f97 8 (by omega)]; exact r3
      · rw [uR_other _ _ (by decide), u2_same]
      · rw [f97 9 (by omega)]; exact r5
      · intro i hi; rw [f 105 (by omega) (by omega) (by omega) (by omega)]; exact r6 i hi
      · rw [f 101 (by omega) (by omega) (by omega) (by omega)]; exact r7
      · rw [f 101 (by omega) (by omega) (by omega) (by omega)]; exact r8
      · rw [uR_same]; exact slFr w4.1 r9 0 (asE A + 1) (by omega) rfl
      · intro k hk
        have hk : k < asE A + 1 := hk
        rw [uR_same]
        show SlM _ (1 + k) (if k = asE A then asV A else asK A k)
        by_cases g : k = asE A
        · rw [if_pos g, g, Nat.add_comm 1]
          exact r9.copied w4.1
        · rw [if_neg g]
          exact slFr (w8 k (by omega)).1 (r10 k (by omega)) 0 (asE A + 1) (by omega) rfl
      · intro p hp
        have hp : p < asD A := hp
        rw [uR_same]
        exact slFr (w6 p hp).1 (r11 p hp) 0 (asE A + 1) (by omega) rfl
  · refine ⟨-3, HH sh c z, HH sh c z, ?_, ?_, ⟨A, sh, c, z, rfl, ⟨w1, w2, w3, w4, w5, w6, w7, w8, w9, w10, w11⟩, hC.more, hS, r1, r2, r3, r4, r5, r6, r7, r8, r9, r10, r11⟩⟩
    · unfold f_X6_keep
      simp only [HG W hs.1, bnd_s, HI (k := 8) W hs.1 rfl, c4]
      rw [if_neg (show ¬ nI (asE A) < 2 from nI_nlt (b := 2) (by omega) (by omega))]
    · unfold f_X7_keep
      simp only [HG W hS.1, bnd_s, HI (k := 7) W hS.1 rfl, r4]
      rw [if_pos (show nI (asE A) = 2 from by rw [show (2 : Int32) = nI 2 from rfl, neq (by omega) (by omega)]; omega)]
theorem op_undo (hI : Inv n h) : ∃ r h1 h2, f_X6_undo 0 h = some (r, h1) ∧ f_X7_undo 99 h1 = some (r, h2) ∧ Inv (n + 1) h2 := by
  obtain ⟨A, sh, c, z, rfl, hA, hC, hS, hR⟩ := hI
  obtain ⟨y, W, hs, hb, hc⟩ := id hC
  obtain ⟨c1, c2, c3, c4, c5, c6, c7, ⟨σ, c8, c9, c10, c11⟩, c12⟩ := hc
  obtain ⟨r1, r2, r3, r4, r5, r6, r7, r8, r9, r10, r11⟩ := hR
  obtain ⟨w1, w2, w3, w4, w5, w6, w7, w8, w9, w10, w11⟩ := hA
  by_cases h2 : 0 < asD A
  · obtain ⟨m, hm⟩ : ∃ m, asD A = m + 1 := ⟨asD A - 1, by omega⟩
    have hσ := c9 m (by omega)
    obtain ⟨d, e1, e2, e3⟩ := copyFrom_eq (c := u2 c 0 6 (nI m)) W hs.m10 (hs.mp hσ) (by omega)
    have ldk : ldR (HH sh (u2 c 0 6 (nI m)) z) 16 (nI m) = some (17 + 6 * σ m) := by
      rw [HLR W c8 (i := m) (by omega) (by omega), pRow_at (by omega)]
    have em : nI (asD A) - 1 = nI m := by rw [hm]; exact nI_pred m
    have f1 : ∀ b, b ≠ 0 → (b < 10 ∨ 16 ≤ b) → d b = c b := fun b g1 g2 => by rw [e3 b (by omega), u2_other _ _ _ g1]
    have f10 : ∀ j, j ≠ 6 → d 0 j = c 0 j := fun j hj => by rw [e3 0 (by omega), u2_ne _ _ (Or.inr hj)]
    have d06 : d 0 6 = nI m := by rw [e3 0 (by omega), u2_same]
    have d978 : d 99 8 = nI (m + 1) := by rw [f1 99 (by omega) (by omega), ← hm]; exact r3
    refine ⟨nI m, HH sh (u2 d 0 10 0) z, HH sh (u2 (uR (u2 (u2 d 0 10 0) 99 8 (nI m)) 104 (slCopy (c 104) (3 + m) 0 55)) 99 9 0) z, ?_, ?_, ?_⟩
    · unfold f_X6_undo
      simp only [HG W hs.1, bnd_s, HI (k := 6) W hs.1 rfl, HP (k := 6) W hs.1 rfl, HR (k := 5) W hs.1 rfl, HR (k := 4) W hs.1 rfl, c3]
      rw [if_pos (show 0 < nI (asD A) from nI_lt (a := 0) h2 (by omega)), em, u2_same, ldk, bnd_s, e1, bnd_s]
      simp only [HI (k := 6) W hs.1 rfl, HP (k := 10) W hs.1 rfl, bnd_s]
      rw [u2_ne _ _ (Or.inr (by decide)), d06]
    · unfold f_X7_undo
      simp only [HG W hS.1, bnd_s, HI (k := 8) W hS.1 rfl, HP (k := 8) W hS.1 rfl]
      have e97 : u2 d 0 10 0 99 8 = nI (m + 1) := by rw [u2_ne _ _ (Or.inl (by decide))]; exact d978
      rw [e97, if_neg (show ¬ nI (m + 1) = 0 from nI_ne0 (by omega) (by omega)), nI_pred, u2_same, show (3 : Int32) = nI 3 from rfl, nI_add]
      rw [show f_X7_copies 99 (nI (3 + m)) 0 _ = _ from copies_eq (a := 3 + m) (b := 0) W hS (by omega) (by omega) (by omega), bnd_s]
      simp only [HI (k := 8) W hS.1 rfl, HP (k := 9) W hS.1 rfl, bnd_s]
      rw [u2_ne _ _ (Or.inr (by decide)), uR_other _ _ (by decide), u2_same]
      have e102 : u2 (u2 d 0 10 0) 99 8 (nI m) 104 = c 104 := by rw [u2_other _ _ _ (by decide), u2_other _ _ _ (by decide), f1 104 (by omega) (by omega)]
      rw [e102]
    · generalize hcc : u2 (uR (u2 (u2 d 0 10 0) 99 8 (nI m)) 104 (slCopy (c 104) (3 + m) 0 55)) 99 9 0 = cc
      have f : ∀ b, b ≠ 0 → b ≠ 99 → b ≠ 104 → (b < 10 ∨ 16 ≤ b) → cc b = c b := fun b g1 g2 g3 g4 => by rw [← hcc, u2_other _ _ _ g2, uR_other _ _ g3, u2_other _ _ _ g2, u2_other _ _ _ g1, f1 b g1 g4]
      have fk : ∀ b, 10 ≤ b → b < 16 → cc b = d b := fun b g1 g2 => by rw [← hcc, u2_other _ _ _ (by omega), uR_other _ _ (by omega), u2_other _ _ _ (by omega), u2_other _ _ _ (by omega)]
      have f0 : ∀ j, cc 0 j = if j = 10 then 0 else if j = 6 then nI m else c 0 j := by
        intro j
        rw [← hcc, u2_other _ _ _ (by decide), uR_other _ _ (by decide), u2_other _ _ _ (by decide)]
        by_cases g : j = 10
        · rw [if_pos g, g, u2_same]
        · rw [if_neg g, u2_ne _ _ (Or.inr g)]
          by_cases g6 : j = 6
          · rw [if_pos g6, g6]; exact d06
          · rw [if_neg g6]; exact f10 j g6
      have f97 : ∀ j, cc 99 j = if j = 9 then 0 else if j = 8 then nI m else c 99 j := by
        intro j
        rw [← hcc]
        by_cases g : j = 9
        · rw [if_pos g, g, u2_same]
        · rw [if_neg g, u2_ne _ _ (Or.inr g), uR_other _ _ (by decide)]
          by_cases g6 : j = 8
          · rw [if_pos g6, g6, u2_same]
          · rw [if_neg g6, u2_ne _ _ (Or.inr g6), u2_other _ _ _ (by decide), f1 99 (by omega) (by omega)]
      have f102 : cc 104 = slCopy (c 104) (3 + m) 0 55 := by rw [← hcc, u2_other _ _ _ (by decide), uR_same]
      refine ⟨(asX A, asT A, asL A, asP A, asU A m, asU A, m, asK A, asE A, asQ A, 0), sh, _, z, rfl, ⟨w1, w2, w3, w6 m (by omega), by show m ≤ 8; omega, fun p hp => w6 p (by have : p < m := hp; omega), w7, w8, by show 0 ≤ 10; omega, fun i hi => absurd hi (Nat.not_lt_zero i), fun i j hi => absurd hi (Nat.not_lt_zero i)⟩, ⟨y, W, hs, ⟨hb.1, by have := hb.2.1; omega, by have := hb.2.2; omega⟩, ?_, ?_, ?_, ?_, ?_, ?_, ?_, ⟨σ, c8, c9, c10, ?_⟩, ?_⟩, hS, ?_, ?_, ?_, ?_, ?_, ?_, ?_, ?_, ?_, ?_, ?_⟩
      · rw [f 1 (by omega) (by omega) (by omega) (by omega)]; exact c1
      · rw [f0]; exact c2
      · rw [f0]; rfl
      · rw [f0]; exact c4
      · rw [f0]; rfl
      · exact fun i hi => absurd hi (Nat.not_lt_zero i)
      · refine (e2 _ _ _ (w6 m (by omega)).1 ?_).kept fk
        exact (c11 m (by omega)).kept (fun b g1 g2 => u2_other _ _ _ (by omega))
      · intro p hp
        have hp : p < m := hp
        have := c9 p (by omega)
        exact (c11 p (by omega)).kept (fun b g1 g2 => f b (by omega) (by omega) (by omega) (by omega))
      · intro k hk
        have hk : k < asE A := hk
        exact (c12 k hk).kept (fun b g1 g2 => f b (by omega) (by omega) (by omega) (by omega))
      · rw [f 100 (by omega) (by omega) (by omega) (by omega)]; exact r1
      · rw [f97]; exact r2
      · rw [f97]; rfl
      · rw [f97]; exact r4
      · rw [f97]; rfl
      · exact fun i hi => absurd hi (Nat.not_lt_zero i)
      · rw [f 101 (by omega) (by omega) (by omega) (by omega)]; exact r7
      · rw [f 101 (by omega) (by omega) (by omega) (by omega)]; exact r8
      · rw [f102]; exact (r11 m (by omega)).copied (w6 m (by omega)).1
      · intro k hk
        have hk : k < asE A := hk
        exact slFr (w8 k hk).1 (r10 k hk) (3 + m) 0 (by omega) f102
      · intro p hp
        have hp : p < m := hp
        exact slFr (w6 p (by omega)).1 (r11 p (by omega)) (3 + m) 0 (by omega) f102
  · refine ⟨-2, HH sh c z, HH sh c z, ?_, ?_, ⟨A, sh, c, z, rfl, ⟨w1, w2, w3, w4, w5, w6, w7, w8, w9, w10, w11⟩, hC.more, hS, r1, r2, r3, r4, r5, r6, r7, r8, r9, r10, r11⟩⟩
    · unfold f_X6_undo
      simp only [HG W hs.1, bnd_s, HI (k := 6) W hs.1 rfl, c3]
      rw [show asD A = 0 by omega, if_neg (show ¬ 0 < nI 0 by decide)]
    · unfold f_X7_undo
      simp only [HG W hS.1, bnd_s, HI (k := 8) W hS.1 rfl, r3]
      rw [show asD A = 0 by omega, if_pos (show nI 0 = 0 from rfl)]
theorem op_back (hI : Inv n h) : ∃ r h1 h2, f_X6_back 0 h = some (r, h1) ∧ f_X7_back 99 h1 = some (r, h2) ∧ Inv (n + 1) h2 := by
  obtain ⟨A, sh, c, z, rfl, hA, hC, hS, hR⟩ := hI
  obtain ⟨y, W, hs, hb, hc⟩ := id hC
  obtain ⟨c1, c2, c3, c4, c5, c6, c7, ⟨σ, c8, c9, c10, c11⟩, c12⟩ := hc
  obtain ⟨r1, r2, r3, r4, r5, r6, r7, r8, r9, r10, r11⟩ := hR
  obtain ⟨w1, w2, w3, w4, w5, w6, w7, w8, w9, w10, w11⟩ := hA
  by_cases h2 : 0 < asE A
  · obtain ⟨m, hm⟩ : ∃ m, asE A = m + 1 := ⟨asE A - 1, by omega⟩
    obtain ⟨d, e1, e2, e3⟩ := copyFrom_eq (c := u2 c 0 8 (nI m)) W hs.m10 (hs.mk (k := m) (by omega)) (by omega)
    have ldk : ldR (HH sh (u2 c 0 8 (nI m)) z) 65 (nI m) = some (66 + 6 * m) := by
      rw [HLR W hs.2.2.2.2.2.1 (i := m) (by omega) (by omega)]
      rcases (show m = 0 ∨ m = 1 by omega) with g | g <;> rw [g] <;> rfl
    have em : nI (asE A) - 1 = nI m := by rw [hm]; exact nI_pred m
    have f1 : ∀ b, b ≠ 0 → (b < 10 ∨ 16 ≤ b) → d b = c b := fun b g1 g2 => by rw [e3 b (by omega), u2_other _ _ _ g1]
    have f10 : ∀ j, j ≠ 8 → d 0 j = c 0 j := fun j hj => by rw [e3 0 (by omega), u2_ne _ _ (Or.inr hj)]
    have d08 : d 0 8 = nI m := by rw [e3 0 (by omega), u2_same]
    have d977 : d 99 7 = nI (m + 1) := by rw [f1 99 (by omega) (by omega), ← hm]; exact r4
    refine ⟨nI m, HH sh (u2 (u2 d 0 10 0) 0 6 0) z, HH sh (u2 (u2 (u2 (uR (u2 (u2 d 0 10 0) 0 6 0) 104 (slCopy (c 104) (m + 1) 0 55)) 99 7 (nI m)) 99 9 0) 99 8 0) z, ?_, ?_, ?_⟩
    · unfold f_X6_back
      simp only [HG W hs.1, bnd_s, HI (k := 8) W hs.1 rfl, HP (k := 8) W hs.1 rfl, HR (k := 7) W hs.1 rfl, HR (k := 4) W hs.1 rfl, c4]
      rw [if_pos (show 0 < nI (asE A) from nI_lt (a := 0) h2 (by omega)), em, u2_same, ldk, bnd_s, e1, bnd_s]
      simp only [HI (k := 8) W hs.1 rfl, HP (k := 10) W hs.1 rfl, HP (k := 6) W hs.1 rfl, bnd_s]
      rw [u2_ne _ _ (Or.inr (by decide)), u2_ne _ _ (Or.inr (by decide)), d08]
    · unfold f_X7_back
      simp only [HG W hS.1, bnd_s, HI (k := 7) W hS.1 rfl]
      have e97 : u2 (u2 d 0 10 0) 0 6 0 99 7 = nI (m + 1) := by rw [u2_ne _ _ (Or.inl (by decide)), u2_ne _ _ (Or.inl (by decide))]; exact d977
      rw [e97, if_neg (show ¬ nI (m + 1) = 0 from nI_ne0 (by omega) (by omega))]
      rw [show f_X7_copies 99 (nI (m + 1)) 0 _ = _ from copies_eq (a := m + 1) (b := 0) W hS (by omega) (by omega) (by omega), bnd_s]
      simp only [HI (k := 7) W hS.1 rfl, HP (k := 7) W hS.1 rfl, HP (k := 9) W hS.1 rfl, HP (k := 8) W hS.1 rfl, bnd_s]
      rw [uR_other _ _ (show (99 : Nat) ≠ 104 by decide), e97, nI_pred, u2_ne _ _ (Or.inr (by decide)), u2_ne _ _ (Or.inr (by decide)), u2_same]
      have e102 : u2 (u2 d 0 10 0) 0 6 0 104 = c 104 := by rw [u2_other _ _ _ (by decide), u2_other _ _ _ (by decide), f1 104 (by omega) (by omega)]
      rw [e102]
    · generalize hcc : u2 (u2 (u2 (uR (u2 (u2 d 0 10 0) 0 6 0) 104 (slCopy (c 104) (m + 1) 0 55)) 99 7 (nI m)) 99 9 0) 99 8 0 = cc
      have f : ∀ b, b ≠ 0 → b ≠ 99 → b ≠ 104 → (b < 10 ∨ 16 ≤ b) → cc b = c b := fun b g1 g2 g3 g4 => by rw [← hcc, u2_other _ _ _ g2, u2_other _ _ _ g2, u2_other _ _ _ g2, uR_other _ _ g3, u2_other _ _ _ g1, u2_other _ _ _ g1, f1 b g1 g4]
      have fk : ∀ b, 10 ≤ b → b < 16 → cc b = d b := fun b g1 g2 => by rw [← hcc, u2_other _ _ _ (by omega), u2_other _ _ _ (by omega), u2_other _ _ _ (by omega), uR_other _ _ (by omega), u2_other _ _ _ (by omega), u2_other _ _ _ (by omega)]
      have f0 : ∀ j, cc 0 j = if j = 6 then 0 else if j = 10 then 0 else if j = 8 then nI m else c 0 j := by
        intro j
        rw [← hcc, u2_other _ _ _ (by decide), u2_other _ _ _ (by decide), u2_other _ _ _ (by decide), uR_other _ _ (by decide)]
        by_cases g : j = 6
        · rw [if_pos g, g, u2_same]
        · rw [if_neg g, u2_ne _ _ (Or.inr g)]
          by_cases g1 : j = 10
          · rw [if_pos g1, g1, u2_same]
          · rw [if_neg g1, u2_ne _ _ (Or.inr g1)]
            by_cases g6 : j = 8
            · rw [if_pos g6, g6]; exact d08
            · rw [if_neg g6]; exact f10 j g6
      have f97 : ∀ j, cc 99 j = if j = 8 then 0 else if j = 9 then 0 else if j = 7 then nI m else c 99 j := by
        intro j
        rw [← hcc]
        by_cases g : j = 8
        · rw [if_pos g, g, u2_same]
        · rw [if_neg g, u2_ne _ _ (Or.inr g)]
          by_cases g1 : j = 9
          · rw [if_pos g1, g1, u2_same]
          · rw [if_neg g1, u2_ne _ _ (Or.inr g1)]
            by_cases g6 : j = 7
            · rw [if_pos g6, g6, u2_same]
            · rw [if_neg g6, u2_ne _ _ (Or.inr g6), uR_other _ _ (by decide), u2_other _ _ _ (by decide), u2_other _ _ _ (by decide), f1 99 (by omega) (by omega)]
      have f102 : cc 104 = slCopy (c 104) (m + 1) 0 55 := by rw [← hcc, u2_other _ _ _ (by decide), u2_other _ _ _ (by decide), u2_other _ _ _ (by decide), uR_same]
      refine ⟨(asX A, asT A, asL A, asP A, asK A m, asU A, 0, asK A, m, asQ A, 0), sh, _, z, rfl, ⟨w1, w2, w3, w8 m (by omega), by show 0 ≤ 8; omega, fun p hp => absurd hp (Nat.not_lt_zero p), by show m ≤ 2; omega, fun k hk => w8 k (by have : k < m := hk; omega), by show 0 ≤ 10; omega, fun i hi => absurd hi (Nat.not_lt_zero i), fun i j hi => absurd hi (Nat.not_lt_zero i)⟩, ⟨y, W, hs, ⟨hb.1, by have := hb.2.1; omega, by have := hb.2.2; omega⟩, ?_, ?_, ?_, ?_, ?_, ?_, ?_, ⟨σ, c8, c9, c10, fun p hp => absurd hp (Nat.not_lt_zero p)⟩, ?_⟩, hS, ?_, ?_, ?_, ?_, ?_, ?_, ?_, ?_, ?_, ?_, fun p hp => absurd hp (Nat.not_lt_zero p)⟩
      · rw [f 1 (by omega) (by omega) (by omega) (by omega)]; exact c1
      · rw [f0]; exact c2
      · rw [f0]; rfl
      · rw [f0]; rfl
      · rw [f0]; rfl
      · exact fun i hi => absurd hi (Nat.not_lt_zero i)
      · refine (e2 _ _ _ (w8 m (by omega)).1 ?_).kept fk
        exact (c12 m (by omega)).kept (fun b g1 g2 => u2_other _ _ _ (by omega))
      · intro k hk
        have hk : k < m := hk
        exact (c12 k (by omega)).kept (fun b g1 g2 => f b (by omega) (by omega) (by omega) (by omega))
      · rw [f 100 (by omega) (by omega) (by omega) (by omega)]; exact r1
      · rw [f97]; exact r2
      · rw [f97]; rfl
      · rw [f97]; rfl
      · rw [f97]; rfl
      · exact fun i hi => absurd hi (Nat.not_lt_zero i)
      · rw [f 101 (by omega) (by omega) (by omega) (by omega)]; exact r7
      · rw [f 101 (by omega) (by omega) (by omega) (by omega)]; exact r8
      · rw [f102]
        have := r10 m (by omega)
        rw [Nat.add_comm 1 m] at this
        exact this.copied (w8 m (by omega)).1
      · intro k hk
        have hk : k < m := hk
        exact slFr (w8 k (by omega)).1 (r10 k (by omega)) (m + 1) 0 (by omega) f102
  · refine ⟨-2, HH sh c z, HH sh c z, ?_, ?_, ⟨A, sh, c, z, rfl, ⟨w1, w2, w3, w4, w5, w6, w7, w8, w9, w10, w11⟩, hC.more, hS, r1, r2, r3, r4, r5, r6, r7, r8, r9, r10, r11⟩⟩
    · unfold f_X6_back
      simp only [HG W hs.1, bnd_s, HI (k := 8) W hs.1 rfl, c4]
      rw [show asE A = 0 by omega, if_neg (show ¬ 0 < nI 0 by decide)]
    · unfold f_X7_back
      simp only [HG W hS.1, bnd_s, HI (k := 7) W hS.1 rfl, r4]
      rw [show asE A = 0 by omega, if_pos (show nI 0 = 0 from rfl)]
end UN
