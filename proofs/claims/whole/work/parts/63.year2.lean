/-! ===== a year, asked of both ===== -/
section YF
variable {n : Nat} {A : AS} {y : Dy} {sh : Nat → Shp} {c c' : Nat → Nat → Int32} {z : Nat × Nat} {law : Nat} {s : YS}
theorem Jn.inv0 (hA : WFA A) (h : Jn n A y sh c z) : Inv n (HH sh c z) := by
  obtain ⟨W, hs, hb, hc, hS, hR⟩ := h
  exact ⟨A, sh, c, z, rfl, hA, ⟨y, W, hs, hb, hc⟩, hS, hR⟩
/-- the class's year at its beginning -/
theorem startY {a : Nat} (W : Wz sh z) (hH : YH sh a) : ∃ c', f_X5_start a (nI law) (HH sh c z) = some (HH sh c' z) ∧ FrY a c c' ∧ YC c' a law (fun _ => 0, 5, 5, 0) := by
  unfold f_X5_start
  rw [HG W hH.1, bnd_s, HP (k := 0) W hH.1 rfl, bnd_s, HR (k := 1) W hH.1 rfl, bnd_s]
  obtain ⟨c1, e1, f1, v1⟩ := fillRow (c := u2 c a 0 (nI law)) W 0 hH.2 (by omega)
  rw [e1, bnd_s, HP (k := 2) W hH.1 rfl, bnd_s, HP (k := 3) W hH.1 rfl, bnd_s, HP (k := 4) W hH.1 rfl, bnd_s]
  refine ⟨_, rfl, ?_, ?_, ?_, ?_, ?_, ?_⟩
  · intro b h1 h2
    rw [u2_other _ _ _ h1, u2_other _ _ _ h1, u2_other _ _ _ h1, f1 b h2, u2_other _ _ _ h1]
  · rw [u2_ne _ _ (Or.inr (by omega)), u2_ne _ _ (Or.inr (by omega)), u2_ne _ _ (Or.inr (by omega)), f1 a (by omega), u2_same]
  · rw [u2_ne _ _ (Or.inr (by omega)), u2_ne _ _ (Or.inr (by omega)), u2_same]; rfl
  · rw [u2_ne _ _ (Or.inr (by omega)), u2_same]
    show (5 : Int32) = nI (if law = 1 then 5 else 5)
    split <;> rfl
  · rw [u2_same]; rfl
  · intro k hk
    rw [u2_other _ _ _ (by omega), u2_other _ _ _ (by omega), u2_other _ _ _ (by omega), v1 k hk]; rfl
theorem yearC (hA : WFA A) (J : Jn n A y sh c z) {w m p : Nat} (hw : w ≤ 9999) (hm1 : 1 ≤ m) (hm : m ≤ 100) (hp : p ≤ 1) : ∃ c', f_X6_year 0 (nI w) (nI m) (nI p) (HH sh c z) = some (nI (if p = 0 then (yRun (asL A) w m).2.2.2 else m - (yRun (asL A) w m).2.2.2), HH sh c' z) ∧ Jn n A y sh c' z := by
  have W := J.1
  have hs := J.2.1
  have hH : YH sh 97 := hs.a97
  have hcm := J.2.2.2.1.2.2.2.2.2.2.1
  unfold f_X6_year
  rw [HG W hs.1, bnd_s]
  simp only [jn0_s]
  rw [if_neg (nI_pos (by omega)), if_neg (show ¬ (9999 : Int32) < nI w from nI_nlt (a := 9999) (by omega) (by omega)), if_neg (show ¬ nI m < (1 : Int32) from nI_nlt (b := 1) (by omega) (by omega)), if_neg (show ¬ (100 : Int32) < nI m from nI_nlt (a := 100) (by omega) (by omega)), if_neg (nI_pos (by omega)), if_pos (show nI p ≤ (1 : Int32) from nI_le (b := 1) (by omega) (by omega))]
  obtain ⟨c1, e1, f1, hY⟩ := startY (c := c) (law := asL A) W hH
  rw [HR (k := 14) W hs.1 rfl, bnd_s, HR (k := 4) W hs.1 rfl, bnd_s, HI (k := 0) W hs.m10.1 rfl, bnd_s, hcm.1, e1, bnd_s]
  clear e1
  have hL := hA.2.1
  refine wl2_fuel (fun i x h => x = nI i ∧ ∃ c', h = HH sh c' z ∧ FrY 97 c c' ∧ YC c' 97 (asL A) (yRun (asL A) w i)) m (by omega) (fun t => ∃ c', t = some (nI (if p = 0 then (yRun (asL A) w m).2.2.2 else m - (yRun (asL A) w m).2.2.2), HH sh c' z) ∧ Jn n A y sh c' z) ?_ _ _ ⟨rfl, c1, rfl, f1, hY⟩
  intro rec i x h hi hx
  obtain ⟨rfl, c2, rfl, f2, y2⟩ := hx
  have hgd := yRun_good (asL A) w i
  rcases Nat.lt_or_ge i m with h5 | h5
  · refine Or.inl ⟨h5, ?_⟩
    obtain ⟨c3, e3, f3, y3⟩ := bring_eq (k := dK w i) W hH hL (dK_lt w i) (by omega) hgd y2
    rw [if_neg (nI_ge h5 (by omega)), HR (k := 14) W hs.1 rfl, bnd_s, drawnKind_eq hw (by omega), bnd_s, e3, bnd_s, nI_1]
    exact ⟨_, _, ⟨rfl, c3, rfl, f2.trans f3, y3⟩, rfl⟩
  · refine Or.inr ?_
    have hp4 := hgd.1
    rw [if_pos (nI_le h5 (by omega)), HR (k := 14) W hs.1 rfl]
    simp only [jn1_s, bnd_s]
    rw [HI (k := 4) W hH.1 rfl]
    simp only [bnd_s, y2.2.2.2.1]
    have ei : i = m := by omega
    subst ei
    refine ⟨c2, ?_, J.cc hA (Kp.of (fun b q => f2 b (by omega) (by omega)))⟩
    rcases (show p = 0 ∨ p = 1 by omega) with rfl | rfl
    · rw [if_pos (show nI 0 = 0 from rfl), if_pos rfl]
    · rw [if_neg (show ¬ nI 1 = 0 by decide), if_neg (by omega), pk_sub (by omega)]
/-- the reference's year in state s -/
def YM (c : Nat → Nat → Int32) (s : YS) : Prop := c 99 22 = nI s.2.1 ∧ c 99 23 = nI s.2.2.1 ∧ ∀ k, k < 5 → c 110 k = nI (s.1 k)
/-- nothing but the reference's year has changed -/
def FrZ (c c' : Nat → Nat → Int32) : Prop := (∀ b, b ≠ 99 → b ≠ 110 → c' b = c b) ∧ ∀ k, k ≠ 22 → k ≠ 23 → c' 99 k = c 99 k
theorem FrZ.trans {c c' c'' : Nat → Nat → Int32} (h : FrZ c c') (g : FrZ c' c'') : FrZ c c'' := ⟨fun b h1 h2 => (g.1 b h1 h2).trans (h.1 b h1 h2), fun k h1 h2 => (g.2 k h1 h2).trans (h.2 k h1 h2)⟩
theorem FrZ.kp {c c' : Nat → Nat → Int32} (h : FrZ c c') : Kp c c' := ⟨fun b q => h.1 b (by omega) (by omega), fun b q => h.1 b (by omega) (by omega), fun k q => h.2 k (by omega) (by omega)⟩
theorem FrZ.refl (c : Nat → Nat → Int32) : FrZ c c := ⟨fun _ _ _ => rfl, fun _ _ _ => rfl⟩
theorem pours_eq {k : Nat} (W : Wz sh z) (hS : SMo sh) (hY : YM c s) : ∃ c', f_X7_pours 99 (nI k) (HH sh c z) = some (HH sh c' z) ∧ FrZ c c' ∧ YM c' (yTk s k) := by
  unfold f_X7_pours
  rw [HG W hS.1, bnd_s, HI (k := 22) W hS.1 rfl, bnd_s, HP (k := 23) W hS.1 rfl, bnd_s, HP (k := 22) W hS.1 rfl, bnd_s]
  refine ⟨_, rfl, ⟨?_, ?_⟩, ?_, ?_, ?_⟩
  · intro b h1 h2
    rw [u2_other _ _ _ h1, u2_other _ _ _ h1]
  · intro j h1 h2
    rw [u2_ne _ _ (Or.inr h1), u2_ne _ _ (Or.inr h2)]
  · rw [u2_same]; rfl
  · rw [u2_ne _ _ (Or.inr (by omega)), u2_same]; exact hY.1
  · intro j hj
    rw [u2_other _ _ _ (by omega), u2_other _ _ _ (by omega)]
    exact hY.2.2 j hj
theorem mixed_y {k : Nat} (hA : WFA A) (W : Wz sh z) (hS : SMo sh) (hR : ModR A c) (hk : k < 5) (hg : s.2.1 ≤ 5 ∧ s.2.2.1 ≤ 5) : f_X7_isMixed 99 (nI k) (nI s.2.1) (nI s.2.2.1) (HH sh c z) = some (if yMx (asL A) s k then 1 else 0) := isMixed_eq W hS hR hA.2.1 (by omega) (by omega) (by omega)
theorem waitsY_eq (hA : WFA A) (W : Wz sh z) (hS : SMo sh) (hR : ModR A c) (hg : s.2.1 ≤ 5 ∧ s.2.2.1 ≤ 5) (hm : ∀ k, k < 5 → s.1 k ≤ 100) (hY : YM c s) : f_X7_waits 99 (HH sh c z) = some (yI (yLow (asL A) s)) := by
  unfold f_X7_waits
  rw [HG W hS.1, bnd_s]
  refine wl1_fuel (fun i x => x = nI i ∧ ∀ j, j < i → ¬ yOK (asL A) s j) 5 (by omega) (fun t => t = some (yI (yLow (asL A) s))) ?_ _ ⟨rfl, fun j hj => absurd hj (by omega)⟩
  intro rec i x hi hx
  obtain ⟨rfl, hno⟩ := hx
  rcases Nat.lt_or_ge i 5 with h5 | h5
  · have hmi := hm i h5
    rw [if_neg (five_ge h5), HR (k := 16) W hS.1 rfl, bnd_s, HL W hS.rb.1 h5 (by omega), bnd_s, hY.2.2 i h5]
    simp only [jn0_s]
    have cont : ¬ yOK (asL A) s i → ∀ j, j < i + 1 → ¬ yOK (asL A) s j := by
      intro q j hj
      rcases Nat.lt_or_ge j i with r | r
      · exact hno j r
      · rw [show j = i by omega]; exact q
    by_cases g1 : 0 < s.1 i
    · rw [if_neg (nI_nle g1 (by omega)), HI (k := 22) W hS.1 rfl, bnd_s, HI (k := 23) W hS.1 rfl, bnd_s, hY.1, hY.2.1, mixed_y hA W hS hR h5 hg, bnd_s]
      by_cases g2 : yMx (asL A) s i
      · refine Or.inr ?_
        rw [if_pos g2, if_neg i10, yLow_at h5 hno ⟨g1, g2⟩]
        unfold yI
        rw [if_pos h5]
      · refine Or.inl ⟨h5, ?_⟩
        rw [if_neg g2, if_pos rfl, nI_1]
        exact ⟨_, ⟨rfl, cont (fun q => g2 q.2)⟩, rfl⟩
    · refine Or.inl ⟨h5, ?_⟩
      rw [show s.1 i = 0 by omega, if_pos (by decide), nI_1]
      exact ⟨_, ⟨rfl, cont (fun q => g1 q.1)⟩, rfl⟩
  · refine Or.inr ?_
    rw [if_pos (five_le h5 (by omega)), yLow_no (fun j hj => hno j (by omega))]
    rfl
theorem yearM (hA : WFA A) (J : Jn n A y sh c z) {w m p : Nat} (hw : w ≤ 9999) (hm1 : 1 ≤ m) (hm : m ≤ 100) (hp : p ≤ 1) : ∃ c', f_X7_year 99 (nI w) (nI m) (nI p) (HH sh c z) = some (nI (if p = 0 then (yRun (asL A) w m).2.2.2 else m - (yRun (asL A) w m).2.2.2), HH sh c' z) ∧ Jn n A y sh c' z := by
  have W := J.1
  have hS := J.2.2.2.2.1
  unfold f_X7_year
  rw [HG W hS.1, bnd_s, in_n (lo := 0) (hi := 9999) 0 9999 rfl rfl (by omega) (by omega) (by omega), bnd_s]
  simp only [jn0_s]
  rw [if_neg i10, in_n (lo := 1) (hi := 100) 1 100 rfl rfl (by omega) (by omega) (by omega), bnd_s, if_neg i10, in_n (lo := 0) (hi := 1) 0 1 rfl rfl (by omega) (by omega) (by omega), bnd_s, if_neg i10]
  refine wl2_fuel (fun i x h => x = nI i ∧ ∃ c', h = HH sh c' z ∧ FrZ c c' ∧ ∀ k, k < i → c' 110 k = 0) 5 (by omega) (fun t => ∃ c', t = some (nI (if p = 0 then (yRun (asL A) w m).2.2.2 else m - (yRun (asL A) w m).2.2.2), HH sh c' z) ∧ Jn n A y sh c' z) ?_ _ _ ⟨rfl, c, rfl, FrZ.refl c, fun k hk => absurd hk (by omega)⟩
  intro rec i x h hi hx
  obtain ⟨rfl, c1, rfl, f1, z1⟩ := hx
  rcases Nat.lt_or_ge i 5 with h5 | h5
  · refine Or.inl ⟨h5, ?_⟩
    rw [if_neg (five_ge h5), HR (k := 16) W hS.1 rfl, bnd_s, HS W hS.rb.1 h5 (by omega), bnd_s, nI_1]
    refine ⟨_, _, ⟨rfl, _, rfl, f1.trans ⟨fun b r1 r2 => u2_other _ _ _ r2, fun k r1 r2 => u2_ne _ _ (Or.inl (by omega))⟩, ?_⟩, rfl⟩
    intro k hk
    rcases Nat.lt_or_ge k i with g | g
    · rw [u2_ne _ _ (Or.inr (by omega))]; exact z1 k g
    · rw [show k = i by omega, u2_same]; rfl
  · refine Or.inr ?_
    rw [if_pos (five_le h5 (by omega)), HP (k := 22) W hS.1 rfl, bnd_s, HP (k := 23) W hS.1 rfl, bnd_s]
    have f2 : FrZ c (u2 (u2 c1 99 22 5) 99 23 5) := f1.trans ⟨fun b r1 r2 => by rw [u2_other _ _ _ r1, u2_other _ _ _ r1], fun k r1 r2 => by rw [u2_ne _ _ (Or.inr r2), u2_ne _ _ (Or.inr r1)]⟩
    have y2 : YM (u2 (u2 c1 99 22 5) 99 23 5) (yRun (asL A) w 0) := by
      refine ⟨?_, ?_, ?_⟩
      · rw [u2_ne _ _ (Or.inr (by omega)), u2_same]; rfl
      · rw [u2_same]; rfl
      · intro k hk
        rw [u2_other _ _ _ (by omega), u2_other _ _ _ (by omega), z1 k (by omega)]; rfl
    refine wl3_fuel (fun i v x h => v = nI (yRun (asL A) w i).2.2.2 ∧ x = nI i ∧ ∃ c', h = HH sh c' z ∧ FrZ c c' ∧ YM c' (yRun (asL A) w i)) m (by omega) (fun t => ∃ c', t = some (nI (if p = 0 then (yRun (asL A) w m).2.2.2 else m - (yRun (asL A) w m).2.2.2), HH sh c' z) ∧ Jn n A y sh c' z) ?_ _ _ _ ⟨rfl, rfl, _, rfl, f2, y2⟩
    intro rec2 i v x h hi hx
    obtain ⟨rfl, rfl, c3, rfl, f3, y3⟩ := hx
    have hgd := yRun_good (asL A) w i
    have hR3 : ModR A c3 := J.2.2.2.2.2.kp f3.kp
    generalize hs : yRun (asL A) w i = s at hgd y3
    obtain ⟨g1, g2, g3⟩ := id hgd
    rcases Nat.lt_or_ge i m with hlt | hlt
    · refine Or.inl ⟨hlt, ?_⟩
      have hk := dK_lt w i
      rw [if_neg (nI_ge hlt (by omega)), nm_s, if_neg (by decide), if_neg (by decide), nm_s, drawn hw (by omega), HI (k := 22) W hS.1 rfl, bnd_s, HI (k := 23) W hS.1 rfl, bnd_s, y3.1, y3.2.1, mixed_y hA W hS hR3 hk ⟨g2, g3⟩, bnd_s]
      simp only [jn2_s]
      rw [show (nI i + 1) = nI (i + 1) from nI_1 i]
      have hstep : yRun (asL A) w (i + 1) = yBr (asL A) s (dK w i) := by rw [← hs]; rfl
      generalize dK w i = k at hk hstep
      by_cases e : yMx (asL A) s k
      · rw [if_pos e, if_neg i10]
        obtain ⟨c4, e4, f4, y4⟩ := pours_eq (k := k) W hS y3
        have hR4 : ModR A c4 := hR3.kp f4.kp
        rw [e4, bnd_s, waitsY_eq hA W hS hR4 ⟨by show k ≤ 5; omega, g2⟩ (fun j hj => Nat.le_trans (m_le hj (Nat.le_refl _)) (by show sum5 s.1 5 ≤ 100; omega)) y4, bnd_s, nI_1]
        have hst2 : yRun (asL A) w (i + 1) = yDr (asL A) (sum5 s.1 5) (yTk s k) := by
          rw [hstep]
          unfold yBr
          rw [if_pos e]
        refine wl3_fuel (fun t q x h => ∃ s1 c2, q = nI s1.2.2.2 ∧ h = HH sh c2 z ∧ FrZ c c2 ∧ YM c2 s1 ∧ x = yI (yLow (asL A) s1) ∧ yGood s1 (i + 1) ∧ sum5 s1.1 5 + t = sum5 s.1 5 ∧ yDr (asL A) (sum5 s1.1 5) s1 = yDr (asL A) (sum5 s.1 5) (yTk s k)) (sum5 s.1 5) (by omega) (fun t => ∃ y1 y2 y3, (y1 = nI (yRun (asL A) w (i + 1)).2.2.2 ∧ y2 = nI (i + 1) ∧ ∃ c', y3 = HH sh c' z ∧ FrZ c c' ∧ YM c' (yRun (asL A) w (i + 1))) ∧ t = rec2 y1 y2 y3) ?_ _ _ _ ⟨yTk s k, c4, rfl, rfl, f3.trans f4, y4, rfl, ⟨by show sum5 s.1 5 + (s.2.2.2 + 1) = i + 1; omega, by show k ≤ 5; omega, g2⟩, rfl, rfl⟩
        intro rec3 t q x h ht hx
        obtain ⟨s1, c5, rfl, rfl, f5, y5, rfl, q1, q2, q3⟩ := hx
        by_cases g : yLow (asL A) s1 < 5
        · have hok := yLow_ok g
          have hsd := sum_dn g hok.1
          have hms : s1.1 (yLow (asL A) s1) ≤ 100 := m_le g (by omega)
          refine Or.inl ⟨by omega, ?_⟩
          have ey : yI (yLow (asL A) s1) = nI (yLow (asL A) s1) := by unfold yI; rw [if_pos g]
          rw [ey, if_neg (nI_pos (by omega)), HR (k := 16) W hS.1 rfl, bnd_s, HL W hS.rb.1 g (by omega), bnd_s, HS W hS.rb.1 g (by omega), bnd_s, nrw0, y5.2.2 _ g, show nI (s1.1 (yLow (asL A) s1)) - 1 = nI (s1.1 (yLow (asL A) s1) - 1) from pk_sub hok.1]
          have yd : YM (u2 c5 110 (yLow (asL A) s1) (nI (s1.1 (yLow (asL A) s1) - 1))) (yDn s1 (yLow (asL A) s1)) := by
            refine ⟨?_, ?_, ?_⟩
            · rw [u2_other _ _ _ (by omega)]; exact y5.1
            · rw [u2_other _ _ _ (by omega)]; exact y5.2.1
            · intro j hj
              show _ = nI (if j = yLow (asL A) s1 then s1.1 j - 1 else s1.1 j)
              by_cases r : j = yLow (asL A) s1
              · rw [if_pos r, r, u2_same]
              · rw [if_neg r, u2_ne _ _ (Or.inr r)]; exact y5.2.2 j hj
          obtain ⟨c6, e6, f6, y6⟩ := pours_eq (k := yLow (asL A) s1) W hS yd
          have f7 : FrZ c c6 := (f5.trans ⟨fun b r1 r2 => u2_other _ _ _ r2, fun k r1 r2 => u2_ne _ _ (Or.inl (by omega))⟩).trans f6
          have hR6 : ModR A c6 := J.2.2.2.2.2.kp f7.kp
          have gd : yGood (yTk (yDn s1 (yLow (asL A) s1)) (yLow (asL A) s1)) (i + 1) := by
            obtain ⟨r1, r2, r3⟩ := q1
            refine ⟨?_, by show yLow (asL A) s1 ≤ 5; omega, r2⟩
            show sum5 (yDn s1 (yLow (asL A) s1)).1 5 + (s1.2.2.2 + 1) = i + 1
            omega
          have hs3 : sum5 (yTk (yDn s1 (yLow (asL A) s1)) (yLow (asL A) s1)).1 5 + 1 = sum5 s1.1 5 := hsd
          rw [e6, bnd_s, waitsY_eq hA W hS hR6 ⟨gd.2.1, gd.2.2⟩ (fun j hj => m_le hj (by omega)) y6, bnd_s, nI_1]
          refine ⟨_, _, _, ⟨_, c6, rfl, rfl, f7, y6, rfl, gd, by omega, ?_⟩, rfl⟩
          rw [← q3, ← hs3]
          show _ = yDr (asL A) (sum5 (yTk (yDn s1 (yLow (asL A) s1)) (yLow (asL A) s1)).1 5 + 1) s1
          simp only [yDr]
          rw [if_pos g]
        · refine Or.inr ?_
          have ey : yI (yLow (asL A) s1) = -4 := by unfold yI; rw [if_neg g]
          have es : yRun (asL A) w (i + 1) = s1 := by rw [hst2, ← q3, yDr_end g]
          rw [ey, if_pos (by decide), es]
          exact ⟨_, _, _, ⟨rfl, rfl, c5, rfl, f5, y5⟩, rfl⟩
      · have hms : s.1 k ≤ 100 := m_le hk (by omega)
        have es : yRun (asL A) w (i + 1) = yUp s k := by
          rw [hstep]
          unfold yBr
          rw [if_neg e]
        rw [if_neg e, if_pos rfl, HR (k := 16) W hS.1 rfl, bnd_s, HL W hS.rb.1 hk (by omega), bnd_s, HS W hS.rb.1 hk (by omega), bnd_s, nrw0, y3.2.2 k hk, nI_1, es]
        refine ⟨_, _, _, ⟨rfl, rfl, _, rfl, f3.trans ⟨fun b r1 r2 => u2_other _ _ _ r2, fun k r1 r2 => u2_ne _ _ (Or.inl (by omega))⟩, ?_, ?_, ?_⟩, rfl⟩
        · show u2 c3 110 k (nI (s.1 k + 1)) 99 22 = _
          rw [u2_other _ _ _ (by omega)]; exact y3.1
        · show u2 c3 110 k (nI (s.1 k + 1)) 99 23 = _
          rw [u2_other _ _ _ (by omega)]; exact y3.2.1
        · intro j hj
          show u2 c3 110 k (nI (s.1 k + 1)) 110 j = nI (if j = k then s.1 j + 1 else s.1 j)
          by_cases r : j = k
          · rw [if_pos r, r, u2_same]
          · rw [if_neg r, u2_ne _ _ (Or.inr r)]; exact y3.2.2 j hj
    · refine Or.inr ?_
      have ei : i = m := by omega
      subst ei
      rw [if_pos (nI_le hlt (by omega)), hs]
      simp only [jn1_s]
      refine ⟨c3, ?_, J.cc hA f3.kp⟩
      rcases (show p = 0 ∨ p = 1 by omega) with rfl | rfl
      · rw [if_pos (show nI 0 = 0 from rfl), if_pos rfl]
      · rw [if_neg (show ¬ nI 1 = 0 by decide), if_neg (by omega), pk_sub (by omega)]
theorem Jn.up (h : Jn n A y sh c z) : Jn (n + 1) A y sh c z := by
  obtain ⟨W, hs, ⟨b1, b2, b3⟩, hc, hS, hR⟩ := h
  exact ⟨W, hs, ⟨b1, by omega, by omega⟩, hc, hS, hR⟩
theorem op_year {n : Nat} {h : Hp} (hn : n ≤ 10000) (hI : Inv n h) (p1 p2 p3 : Int32) : ∃ r h1 h2, f_X6_year 0 p1 p2 p3 h = some (r, h1) ∧ f_X7_year 99 p1 p2 p3 h1 = some (r, h2) ∧ Inv (n + 1) h2 := by
  obtain ⟨A, y, sh, c, z, rfl, hA, J⟩ := hI.jn
  by_cases hb : (0 ≤ p1.toInt ∧ p1.toInt ≤ 9999) ∧ (1 ≤ p2.toInt ∧ p2.toInt ≤ 100) ∧ 0 ≤ p3.toInt ∧ p3.toInt ≤ 1
  · obtain ⟨⟨a1, a2⟩, ⟨b1, b2⟩, d1, d2⟩ := hb
    have nn : ∀ x : Int32, ∀ m : Nat, 0 ≤ x.toInt → x.toInt ≤ m → m < 100000 → ∃ k : Nat, k ≤ m ∧ x = nI k ∧ (k : Int) = x.toInt := by
      intro x m h1 h2 h3
      refine ⟨x.toInt.toNat, by omega, ?_, by omega⟩
      rw [i_eq, nI_T _ (by omega)]
      omega
    obtain ⟨w, hw, rfl, -⟩ := nn p1 9999 a1 a2 (by omega)
    obtain ⟨m, hm, rfl, em⟩ := nn p2 100 (by omega) b2 (by omega)
    obtain ⟨p, hp, rfl, -⟩ := nn p3 1 d1 d2 (by omega)
    obtain ⟨c1, e1, J1⟩ := yearC hA J hw (by omega) hm hp
    obtain ⟨c2, e2, J2⟩ := yearM hA J1 hw (by omega) hm hp
    exact ⟨_, _, _, e1, e2, J2.inv hA⟩
  · refine ⟨-1, HH sh c z, _, ?_, ?_, J.inv hA⟩
    · unfold f_X6_year
      rw [HG J.1 J.2.1.1, bnd_s]
      simp only [jn0_s, i_lt, i_le, show (0 : Int32).toInt = 0 from rfl, show (9999 : Int32).toInt = 9999 from rfl, show (1 : Int32).toInt = 1 from rfl, show (100 : Int32).toInt = 100 from rfl]
      by_cases q1 : p1.toInt < 0
      · rw [if_pos q1]
      rw [if_neg q1]
      by_cases q2 : 9999 < p1.toInt
      · rw [if_pos q2]
      rw [if_neg q2]
      by_cases q3 : p2.toInt < 1
      · rw [if_pos q3]
      rw [if_neg q3]
      by_cases q4 : 100 < p2.toInt
      · rw [if_pos q4]
      rw [if_neg q4]
      by_cases q5 : p3.toInt < 0
      · rw [if_pos q5]
      rw [if_neg q5, if_neg (by omega)]
    · unfold f_X7_year
      rw [HG J.1 J.2.2.2.2.1.1, bnd_s, in_int, bnd_s]
      simp only [jn0_s]
      rw [in_int, bnd_s, in_int, bnd_s]
      simp only [show (0 : Int64).toInt = 0 from rfl, show (9999 : Int64).toInt = 9999 from rfl, show (1 : Int64).toInt = 1 from rfl, show (100 : Int64).toInt = 100 from rfl]
      by_cases q1 : 0 ≤ p1.toInt ∧ p1.toInt ≤ 9999
      · rw [if_pos q1, if_neg i10]
        by_cases q2 : 1 ≤ p2.toInt ∧ p2.toInt ≤ 100
        · rw [if_pos q2, if_neg i10, if_neg (show ¬ (0 ≤ p3.toInt ∧ p3.toInt ≤ 1) from fun r => hb ⟨q1, q2, r⟩), if_pos rfl]
        · rw [if_neg q2, if_pos rfl]
      · rw [if_neg q1, if_pos rfl]
end YF
