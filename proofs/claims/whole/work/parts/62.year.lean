/-! ===== years ===== -/
/-- what is put by; the last kind, the one ahead of it; how many were poured -/
abbrev YS : Type := (Nat → Nat) × Nat × Nat × Nat
abbrev yMx (law : Nat) (s : YS) (k : Nat) : Prop := k ≠ s.2.1 ∧ (law = 0 ∨ k ≠ s.2.2.1)
abbrev yOK (law : Nat) (s : YS) (k : Nat) : Prop := 0 < s.1 k ∧ yMx law s k
def yLow (law : Nat) (s : YS) : Nat := if yOK law s 0 then 0 else if yOK law s 1 then 1 else if yOK law s 2 then 2 else if yOK law s 3 then 3 else if yOK law s 4 then 4 else 5
theorem yLow_at {law : Nat} {s : YS} {i : Nat} (h5 : i < 5) (h : ∀ j, j < i → ¬ yOK law s j) (hi : yOK law s i) : yLow law s = i := by
  unfold yLow
  rcases (show i = 0 ∨ i = 1 ∨ i = 2 ∨ i = 3 ∨ i = 4 by omega) with e | e | e | e | e <;> subst e
  · rw [if_pos hi]
  · rw [if_neg (h 0 (by omega)), if_pos hi]
  · rw [if_neg (h 0 (by omega)), if_neg (h 1 (by omega)), if_pos hi]
  · rw [if_neg (h 0 (by omega)), if_neg (h 1 (by omega)), if_neg (h 2 (by omega)), if_pos hi]
  · rw [if_neg (h 0 (by omega)), if_neg (h 1 (by omega)), if_neg (h 2 (by omega)), if_neg (h 3 (by omega)), if_pos hi]
theorem yLow_no {law : Nat} {s : YS} (h : ∀ j, j < 5 → ¬ yOK law s j) : yLow law s = 5 := by
  unfold yLow
  rw [if_neg (h 0 (by omega)), if_neg (h 1 (by omega)), if_neg (h 2 (by omega)), if_neg (h 3 (by omega)), if_neg (h 4 (by omega))]
theorem yLow_le (law : Nat) (s : YS) : yLow law s ≤ 5 := by
  unfold yLow
  repeat (first | omega | split)
theorem yLow_ok {law : Nat} {s : YS} (h : yLow law s < 5) : yOK law s (yLow law s) := by
  rcases Classical.em (yOK law s (yLow law s)) with g | g
  · exact g
  · exfalso
    unfold yLow at g h
    split at g
    · exact g (by assumption)
    · split at g
      · exact g (by assumption)
      · split at g
        · exact g (by assumption)
        · split at g
          · exact g (by assumption)
          · split at g
            · exact g (by assumption)
            · rename_i a b c d e
              rw [if_neg a, if_neg b, if_neg c, if_neg d, if_neg e] at h
              omega
def yTk (s : YS) (k : Nat) : YS := (s.1, k, s.2.1, s.2.2.2 + 1)
def yDn (s : YS) (k : Nat) : YS := ((fun j => if j = k then s.1 j - 1 else s.1 j), s.2)
def yUp (s : YS) (k : Nat) : YS := ((fun j => if j = k then s.1 j + 1 else s.1 j), s.2)
def yDr (law : Nat) : Nat → YS → YS
  | 0, s => s
  | f + 1, s => if yLow law s < 5 then yDr law f (yTk (yDn s (yLow law s)) (yLow law s)) else s
theorem yDr_end {law : Nat} {s : YS} (h : ¬ yLow law s < 5) : ∀ f, yDr law f s = s := by
  intro f
  cases f with
  | zero => rfl
  | succ f => simp only [yDr]; rw [if_neg h]
def yBr (law : Nat) (s : YS) (k : Nat) : YS := if yMx law s k then yDr law (sum5 s.1 5) (yTk s k) else yUp s k
theorem sum_dn {s : YS} {k : Nat} (hk : k < 5) (h : 0 < s.1 k) : sum5 (yDn s k).1 5 + 1 = sum5 s.1 5 := by
  have := sum5_up (b := s.1) (r := k) (v := s.1 k - 1) hk
  have e : (yDn s k).1 = bUp s.1 k (s.1 k - 1) := by
    funext j
    show (if j = k then s.1 j - 1 else s.1 j) = if j = k then s.1 k - 1 else s.1 j
    by_cases q : j = k
    · rw [if_pos q, if_pos q, q]
    · rw [if_neg q, if_neg q]
  rw [e]
  omega
theorem sum_up {s : YS} {k : Nat} (hk : k < 5) : sum5 (yUp s k).1 5 = sum5 s.1 5 + 1 := by
  have := sum5_up (b := s.1) (r := k) (v := s.1 k + 1) hk
  have e : (yUp s k).1 = bUp s.1 k (s.1 k + 1) := by
    funext j
    show (if j = k then s.1 j + 1 else s.1 j) = if j = k then s.1 k + 1 else s.1 j
    by_cases q : j = k
    · rw [if_pos q, if_pos q, q]
    · rw [if_neg q, if_neg q]
  rw [e]
  omega
def yGood (s : YS) (i : Nat) : Prop := sum5 s.1 5 + s.2.2.2 = i ∧ s.2.1 ≤ 5 ∧ s.2.2.1 ≤ 5
theorem yDr_good {law : Nat} : ∀ f s i, yGood s i → yGood (yDr law f s) i := by
  intro f
  induction f with
  | zero => intro s i h; exact h
  | succ f ih =>
    intro s i h
    simp only [yDr]
    by_cases g : yLow law s < 5
    · rw [if_pos g]
      apply ih
      have h1 := sum_dn g (yLow_ok g).1
      obtain ⟨a, b, c⟩ := h
      refine ⟨?_, by show yLow law s ≤ 5; omega, b⟩
      show sum5 (yDn s (yLow law s)).1 5 + (s.2.2.2 + 1) = i
      omega
    · rw [if_neg g]; exact h
theorem yBr_good {law k i : Nat} {s : YS} (hk : k < 5) (h : yGood s i) : yGood (yBr law s k) (i + 1) := by
  unfold yBr
  obtain ⟨a, b, c⟩ := h
  split
  · exact yDr_good _ _ _ ⟨by show sum5 s.1 5 + (s.2.2.2 + 1) = i + 1; omega, by show k ≤ 5; omega, b⟩
  · refine ⟨?_, b, c⟩
    rw [sum_up hk]
    show sum5 s.1 5 + 1 + s.2.2.2 = i + 1
    omega
def dK (w k : Nat) : Nat := (7919 * w + 6151 * k + 1) * (7919 * w + 6151 * k + 1) % 65521 % 5
def yRun (law w : Nat) : Nat → YS
  | 0 => (fun _ => 0, 5, 5, 0)
  | i + 1 => yBr law (yRun law w i) (dK w i)
theorem dK_lt (w k : Nat) : dK w k < 5 := Nat.mod_lt _ (by omega)
theorem yRun_good (law w : Nat) : ∀ i, yGood (yRun law w i) i := by
  intro i
  induction i with
  | zero => exact ⟨rfl, Nat.le_refl 5, Nat.le_refl 5⟩
  | succ i ih => exact yBr_good (dK_lt _ _) ih
theorem drawn {w k : Nat} (hw : w ≤ 9999) (hk : k ≤ 100) : (((((7919 : Int64) * (nI w).toInt64 + (6151 : Int64) * (nI k).toInt64 + (1 : Int64)) * ((7919 : Int64) * (nI w).toInt64 + (6151 : Int64) * (nI k).toInt64 + (1 : Int64))) - (((7919 : Int64) * (nI w).toInt64 + (6151 : Int64) * (nI k).toInt64 + (1 : Int64)) * ((7919 : Int64) * (nI w).toInt64 + (6151 : Int64) * (nI k).toInt64 + (1 : Int64))) / (65521 : Int64) * (65521 : Int64)) - ((((7919 : Int64) * (nI w).toInt64 + (6151 : Int64) * (nI k).toInt64 + (1 : Int64)) * ((7919 : Int64) * (nI w).toInt64 + (6151 : Int64) * (nI k).toInt64 + (1 : Int64))) - (((7919 : Int64) * (nI w).toInt64 + (6151 : Int64) * (nI k).toInt64 + (1 : Int64)) * ((7919 : Int64) * (nI w).toInt64 + (6151 : Int64) * (nI k).toInt64 + (1 : Int64))) / (65521 : Int64) * (65521 : Int64)) / (5 : Int64) * (5 : Int64)).toInt32 = nI (dK w k) := by
  have e : (7919 : Int64) * (nI w).toInt64 + (6151 : Int64) * (nI k).toInt64 + (1 : Int64) = lN (7919 * w + 6151 * k + 1) := by
    rw [nI_l (by omega), nI_l (by omega), show (7919 : Int64) = lN 7919 from rfl, show (6151 : Int64) = lN 6151 from rfl, lN_mul, lN_mul, lN_add, lN_1]
  have hx : (7919 * w + 6151 * k + 1) * (7919 * w + 6151 * k + 1) ≤ 80000000 * 80000000 := Nat.mul_le_mul (by omega) (by omega)
  have hm : (7919 * w + 6151 * k + 1) * (7919 * w + 6151 * k + 1) % 65521 < 65521 := Nat.mod_lt _ (by omega)
  rw [e, lN_mul, show (65521 : Int64) = lN 65521 from rfl, show (5 : Int64) = lN 5 from rfl, pk_lRem (by omega) (by omega) (by omega), pk_lRem (by omega) (by omega) (by omega), lN_i]
  rfl
theorem drawnKind_eq {w k : Nat} (hw : w ≤ 9999) (hk : k ≤ 100) : f_X6_drawnKind (nI w) (nI k) = some (nI (dK w k)) := by
  unfold f_X6_drawnKind
  rw [nm_s, if_neg (by decide), if_neg (by decide), drawn hw hk]
/-- the low one, as the code gives it -/
def yI (k : Nat) : Int32 := if k < 5 then nI k else -4
section YE
variable {n : Nat} {A : AS} {y : Dy} {sh : Nat → Shp} {c c' : Nat → Nat → Int32} {z : Nat × Nat} {law : Nat} {s : YS}
/-- the class's year at a, in state s -/
def YC (c : Nat → Nat → Int32) (a law : Nat) (s : YS) : Prop := c a 0 = nI law ∧ c a 2 = nI s.2.1 ∧ c a 3 = nI (if law = 1 then s.2.2.1 else 5) ∧ c a 4 = nI s.2.2.2 ∧ ∀ k, k < 5 → c (a + 1) k = nI (s.1 k)
def YH (sh : Nat → Shp) (a : Nat) : Prop := sh a = sO 5 [none, some (a + 1), none, none, none] ∧ sh (a + 1) = sA 0 5
theorem fits_y {a k : Nat} (hl : law ≤ 1) (hk : k < 5) (hg : s.2.1 ≤ 5 ∧ s.2.2.1 ≤ 5) : f_X6_fits (nI k) (nI s.2.1) (nI (if law = 1 then s.2.2.1 else 5)) = some (if yMx law s k then 1 else 0) := by
  rw [fits_eq]
  have hh : (if law = 1 then s.2.2.1 else 5) ≤ 5 := by split <;> omega
  have e : (nI k = nI s.2.1 ∨ nI k = nI (if law = 1 then s.2.2.1 else 5)) ↔ ¬ yMx law s k := by
    rw [nI_eq (by omega) (by omega), nI_eq (by omega) (by omega)]
    unfold yMx
    split <;> omega
  by_cases g : yMx law s k
  · rw [if_pos g, if_neg (fun q => e.mp q g)]
  · rw [if_neg g, if_pos (e.mpr g)]
theorem low_eq {a : Nat} (W : Wz sh z) (hH : YH sh a) (hl : law ≤ 1) (hg : s.2.1 ≤ 5 ∧ s.2.2.1 ≤ 5) (hm : ∀ k, k < 5 → s.1 k ≤ 100) (hY : YC c a law s) : f_X5_lowestPutBy a (HH sh c z) = some (yI (yLow law s)) := by
  unfold f_X5_lowestPutBy
  rw [HG W hH.1, bnd_s]
  refine wl1_fuel (fun i x => x = nI i ∧ ∀ j, j < i → ¬ yOK law s j) 5 (by omega) (fun t => t = some (yI (yLow law s))) ?_ _ ⟨rfl, fun j hj => absurd hj (by omega)⟩
  intro rec i x hi hx
  obtain ⟨rfl, hno⟩ := hx
  rcases Nat.lt_or_ge i 5 with h5 | h5
  · have hmi := hm i h5
    rw [if_neg (five_ge h5), HR (k := 1) W hH.1 rfl, bnd_s, HL W hH.2 h5 (by omega), bnd_s, hY.2.2.2.2 i h5]
    simp only [jn0_s]
    have cont : ¬ yOK law s i → ∀ j, j < i + 1 → ¬ yOK law s j := by
      intro q j hj
      rcases Nat.lt_or_ge j i with r | r
      · exact hno j r
      · rw [show j = i by omega]; exact q
    by_cases g1 : 0 < s.1 i
    · rw [if_neg (nI_nle g1 (by omega)), HI (k := 2) W hH.1 rfl, bnd_s, HI (k := 3) W hH.1 rfl, bnd_s, hY.2.1, hY.2.2.1, fits_y (a := a) hl h5 hg, bnd_s]
      by_cases g2 : yMx law s i
      · refine Or.inr ?_
        rw [if_pos g2, if_neg i10, yLow_at h5 hno ⟨g1, g2⟩]
        unfold yI
        rw [if_pos h5]
      · refine Or.inl ⟨h5, ?_⟩
        rw [if_neg g2, if_pos rfl, nI_1]
        exact ⟨_, ⟨rfl, cont (fun q => g2 q.2)⟩, rfl⟩
    · refine Or.inl ⟨h5, ?_⟩
      rw [show s.1 i = 0 by omega, if_pos (by decide), nI_1]
      exact ⟨_, ⟨rfl, cont (fun q => g1 q.1)⟩, rfl⟩
  · refine Or.inr ?_
    rw [if_pos (five_le h5 (by omega)), yLow_no (fun j hj => hno j (by omega))]
    rfl
/-- nothing but the year has changed -/
def FrY (a : Nat) (c c' : Nat → Nat → Int32) : Prop := ∀ b, b ≠ a → b ≠ a + 1 → c' b = c b
theorem take_eq {a k : Nat} (W : Wz sh z) (hH : YH sh a) (hl : law ≤ 1) (hY : YC c a law s) : ∃ c', f_X5_take a (nI k) (HH sh c z) = some (HH sh c' z) ∧ FrY a c c' ∧ YC c' a law (yTk s k) := by
  unfold f_X5_take
  rw [HG W hH.1, bnd_s, HI (k := 0) W hH.1 rfl, bnd_s, HI (k := 2) W hH.1 rfl, bnd_s, hY.1, hY.2.1, held_n hl, bnd_s, HP (k := 3) W hH.1 rfl, bnd_s, HP (k := 2) W hH.1 rfl, bnd_s, HI (k := 4) W hH.1 rfl, bnd_s, HP (k := 4) W hH.1 rfl, bnd_s]
  refine ⟨_, rfl, ?_, ?_, ?_, ?_, ?_, ?_⟩
  · intro b h1 h2
    rw [u2_other _ _ _ h1, u2_other _ _ _ h1, u2_other _ _ _ h1]
  · rw [u2_ne _ _ (Or.inr (by omega)), u2_ne _ _ (Or.inr (by omega)), u2_ne _ _ (Or.inr (by omega))]; exact hY.1
  · rw [u2_ne _ _ (Or.inr (by omega)), u2_same]; rfl
  · rw [u2_ne _ _ (Or.inr (by omega)), u2_ne _ _ (Or.inr (by omega)), u2_same]; rfl
  · rw [u2_same, u2_ne _ _ (Or.inr (by omega)), u2_ne _ _ (Or.inr (by omega)), hY.2.2.2.1]
    exact nI_1 _
  · intro j hj
    rw [u2_other _ _ _ (by omega), u2_other _ _ _ (by omega), u2_other _ _ _ (by omega)]
    exact hY.2.2.2.2 j hj
theorem FrY.trans {a : Nat} {c c' c'' : Nat → Nat → Int32} (h : FrY a c c') (g : FrY a c' c'') : FrY a c c'' := fun b h1 h2 => (g b h1 h2).trans (h b h1 h2)
theorem m_le {m : Nat → Nat} {k i : Nat} (hk : k < 5) (h : sum5 m 5 ≤ i) : m k ≤ i := Nat.le_trans (b_one hk) h
theorem bring_eq {a k i : Nat} (W : Wz sh z) (hH : YH sh a) (hl : law ≤ 1) (hk : k < 5) (hi : i < 100) (hg : yGood s i) (hY : YC c a law s) : ∃ c', f_X5_bring a (nI k) (HH sh c z) = some (HH sh c' z) ∧ FrY a c c' ∧ YC c' a law (yBr law s k) := by
  unfold f_X5_bring
  obtain ⟨g1, g2, g3⟩ := hg
  rw [HG W hH.1, bnd_s, kind_in hk, bnd_s, if_neg i10, HI (k := 2) W hH.1 rfl, bnd_s, HI (k := 3) W hH.1 rfl, bnd_s, hY.2.1, hY.2.2.1, fits_y (a := a) hl hk ⟨g2, g3⟩, bnd_s]
  unfold yBr
  by_cases e : yMx law s k
  · rw [if_pos e, if_neg i10, if_pos e]
    obtain ⟨c1, e1, f1, y1⟩ := take_eq (k := k) W hH hl hY
    rw [e1, bnd_s, low_eq W hH hl ⟨by show k ≤ 5; omega, g2⟩ (fun j hj => Nat.le_trans (m_le hj (Nat.le_refl _)) (by show sum5 s.1 5 ≤ 100; omega)) y1, bnd_s]
    have hF : sum5 (yTk s k).1 5 = sum5 s.1 5 := rfl
    have hr := yDr_good (law := law) (sum5 s.1 5) (yTk s k) (i + 1) ⟨by show sum5 s.1 5 + (s.2.2.2 + 1) = i + 1; omega, by show k ≤ 5; omega, g2⟩
    refine wl3_fuel (fun t x j h => j = nI t ∧ ∃ s1 c2, h = HH sh c2 z ∧ FrY a c c2 ∧ YC c2 a law s1 ∧ x = yI (yLow law s1) ∧ yGood s1 (i + 1) ∧ sum5 s1.1 5 + t = sum5 s.1 5 ∧ yDr law (sum5 s1.1 5) s1 = yDr law (sum5 s.1 5) (yTk s k)) (sum5 s.1 5) (by omega) (fun t => ∃ c', t = some (HH sh c' z) ∧ FrY a c c' ∧ YC c' a law (yDr law (sum5 s.1 5) (yTk s k))) ?_ _ _ _ ⟨rfl, yTk s k, c1, rfl, f1, y1, rfl, ⟨by show sum5 s.1 5 + (s.2.2.2 + 1) = i + 1; omega, by show k ≤ 5; omega, g2⟩, rfl, rfl⟩
    intro rec t x j h ht hx
    obtain ⟨rfl, s1, c2, rfl, f2, y2, rfl, q1, q2, q3⟩ := hx
    simp only [jn0_s]
    rw [if_neg (show ¬ (100 : Int32) ≤ nI t from nI_ge (b := 100) (by omega) (by omega))]
    by_cases g : yLow law s1 < 5
    · have hok := yLow_ok g
      have hsd := sum_dn g hok.1
      have hms : s1.1 (yLow law s1) ≤ 100 := m_le g (by omega)
      refine Or.inl ⟨by omega, ?_⟩
      have ey : yI (yLow law s1) = nI (yLow law s1) := by unfold yI; rw [if_pos g]
      rw [ey, kind_in g, bnd_s, if_neg i10, HR (k := 1) W hH.1 rfl, bnd_s, HL W hH.2 g (by omega), bnd_s, HS W hH.2 g (by omega), bnd_s, nrw0, y2.2.2.2.2 _ g, show nI (s1.1 (yLow law s1)) - 1 = nI (s1.1 (yLow law s1) - 1) from pk_sub hok.1]
      have yd : YC (u2 c2 (a + 1) (yLow law s1) (nI (s1.1 (yLow law s1) - 1))) a law (yDn s1 (yLow law s1)) := by
        refine ⟨?_, ?_, ?_, ?_, ?_⟩
        · rw [u2_other _ _ _ (by omega)]; exact y2.1
        · rw [u2_other _ _ _ (by omega)]; exact y2.2.1
        · rw [u2_other _ _ _ (by omega)]; exact y2.2.2.1
        · rw [u2_other _ _ _ (by omega)]; exact y2.2.2.2.1
        · intro j hj
          show _ = nI (if j = yLow law s1 then s1.1 j - 1 else s1.1 j)
          by_cases r : j = yLow law s1
          · rw [if_pos r, r, u2_same]
          · rw [if_neg r, u2_ne _ _ (Or.inr r)]; exact y2.2.2.2.2 j hj
      obtain ⟨c3, e3, f3, y3⟩ := take_eq (k := yLow law s1) W hH hl yd
      have gd : yGood (yTk (yDn s1 (yLow law s1)) (yLow law s1)) (i + 1) := by
        obtain ⟨r1, r2, r3⟩ := q1
        refine ⟨?_, by show yLow law s1 ≤ 5; omega, r2⟩
        show sum5 (yDn s1 (yLow law s1)).1 5 + (s1.2.2.2 + 1) = i + 1
        omega
      have hs3 : sum5 (yTk (yDn s1 (yLow law s1)) (yLow law s1)).1 5 + 1 = sum5 s1.1 5 := hsd
      rw [e3, bnd_s, low_eq W hH hl ⟨gd.2.1, gd.2.2⟩ (fun j hj => m_le hj (by omega)) y3, bnd_s, nI_1]
      refine ⟨_, _, _, ⟨rfl, _, c3, rfl, (f2.trans (fun b r1 r2 => u2_other _ _ _ r2)).trans f3, y3, rfl, gd, by omega, ?_⟩, rfl⟩
      rw [← q3, ← hs3]
      show _ = yDr law (sum5 (yTk (yDn s1 (yLow law s1)) (yLow law s1)).1 5 + 1) s1
      simp only [yDr]
      rw [if_pos g]
    · refine Or.inr ?_
      have ey : yI (yLow law s1) = -4 := by unfold yI; rw [if_neg g]
      rw [ey, kind_out (Or.inl (by decide)), bnd_s, if_pos rfl]
      refine ⟨c2, rfl, f2, ?_⟩
      rw [← q3, yDr_end g]
      exact y2
  · have hms : s.1 k ≤ 100 := m_le hk (by omega)
    rw [if_neg e, if_pos rfl, if_neg e, HR (k := 1) W hH.1 rfl, bnd_s, HL W hH.2 hk (by omega), bnd_s, HS W hH.2 hk (by omega), bnd_s, nrw0, hY.2.2.2.2 k hk, nI_1]
    refine ⟨_, rfl, fun b r1 r2 => u2_other _ _ _ r2, ?_, ?_, ?_, ?_, ?_⟩
    · rw [u2_other _ _ _ (by omega)]; exact hY.1
    · rw [u2_other _ _ _ (by omega)]; exact hY.2.1
    · rw [u2_other _ _ _ (by omega)]; exact hY.2.2.1
    · rw [u2_other _ _ _ (by omega)]; exact hY.2.2.2.1
    · intro j hj
      show _ = nI (if j = k then s.1 j + 1 else s.1 j)
      by_cases r : j = k
      · rw [if_pos r, r, u2_same]
      · rw [if_neg r, u2_ne _ _ (Or.inr r)]; exact hY.2.2.2.2 j hj
end YE
