/-! ===== the table of kinds: what it should hold ===== -/
def stp (b : Nat → Nat) : Nat → Nat
  | 0 => 1
  | k + 1 => stp b k * (b k + 1)
def dig (b : Nat → Nat) (k code : Nat) : Nat := code / stp b k % (b k + 1)
theorem stp_pos (b : Nat → Nat) : ∀ k, 1 ≤ stp b k := by
  intro k
  induction k with
  | zero => exact Nat.le_refl 1
  | succ k ih =>
    simp only [stp]
    exact Nat.le_trans ih (Nat.le_mul_of_pos_right _ (by omega))
theorem dig_top (b : Nat → Nat) (k code : Nat) : code % stp b (k + 1) / stp b k = dig b k code := by
  simp only [stp, dig]
  exact Nat.mod_mul_right_div_self _ _ _
theorem dig_le {b : Nat → Nat} {k code : Nat} (h : 0 < dig b k code) : stp b k ≤ code := by
  unfold dig at h
  rcases Nat.lt_or_ge code (stp b k) with g | g
  · rw [Nat.div_eq_of_lt g, Nat.zero_mod] at h
    omega
  · exact g
theorem dig_lt (b : Nat → Nat) (k code : Nat) : dig b k code ≤ b k := by
  unfold dig
  have := Nat.mod_lt (code / stp b k) (show 0 < b k + 1 by omega)
  omega
def sum5 (b : Nat → Nat) : Nat → Nat
  | 0 => 0
  | k + 1 => sum5 b k + b k
/-- the greatest product of j numbers, one more each, that are s together -/
def prM (j s : Nat) : Nat := if j = 0 then 1 else (s / j + 2) ^ (s % j) * (s / j + 1) ^ (j - s % j)
theorem prM_step : ∀ j, j < 5 → ∀ s, s < 12 → ∀ x, x < 12 → x ≤ s → prM j (s - x) * (x + 1) ≤ prM (j + 1) s := by decide
theorem prM_top : ∀ s, s < 12 → prM 5 s ≤ 324 := by decide
theorem stp_le (b : Nat → Nat) : ∀ j, j ≤ 5 → sum5 b j < 12 → stp b j ≤ prM j (sum5 b j) := by
  intro j
  induction j with
  | zero => intro _ _; exact Nat.le_refl 1
  | succ j ih =>
    intro hj hs
    simp only [sum5] at hs ⊢
    have h1 := ih (by omega) (by omega)
    have h2 := prM_step j (by omega) (sum5 b j + b j) hs (b j) (by omega) (by omega)
    rw [Nat.add_sub_cancel] at h2
    simp only [stp]
    exact Nat.le_trans (Nat.mul_le_mul_right _ h1) h2
theorem size_le {b : Nat → Nat} (h : sum5 b 5 < 12) : stp b 5 ≤ 324 := Nat.le_trans (stp_le b 5 (Nat.le_refl 5) h) (prM_top _ h)
theorem stp_mono (b : Nat → Nat) {j k : Nat} (h : j ≤ k) : stp b j ≤ stp b k := by
  induction k with
  | zero => rw [show j = 0 by omega]; exact Nat.le_refl _
  | succ k ih =>
    rcases Nat.lt_or_ge j (k + 1) with g | g
    · refine Nat.le_trans (ih (by omega)) ?_
      simp only [stp]
      exact Nat.le_mul_of_pos_right _ (by omega)
    · rw [show j = k + 1 by omega]; exact Nat.le_refl _
/-- the value at a code, behind a last kind and the one ahead of it, from what lower codes have (k kinds looked at) -/
def dpF (m : Bool) (law : Nat) (b : Nat → Nat) (R : Nat → Nat → Nat → Nat) (code l a : Nat) : Nat → Nat
  | 0 => if m = true ∧ code = 0 then 1 else 0
  | k + 1 => if 0 < dig b k code ∧ k ≠ l ∧ (law = 0 ∨ k ≠ a) then (if m = true then dpF m law b R code l a k + R (code - stp b k) k l else max (dpF m law b R code l a k) (1 + R (code - stp b k) k l)) else dpF m law b R code l a k
theorem dpF_congr {m : Bool} {law : Nat} {b : Nat → Nat} {R R' : Nat → Nat → Nat → Nat} {code l a : Nat} (h : ∀ q, q < code → ∀ x y, R q x y = R' q x y) : ∀ k, dpF m law b R code l a k = dpF m law b R' code l a k := by
  intro k
  induction k with
  | zero => rfl
  | succ k ih =>
    simp only [dpF, ih]
    by_cases g : 0 < dig b k code ∧ k ≠ l ∧ (law = 0 ∨ k ≠ a)
    · have h1 := dig_le g.1
      have h2 := stp_pos b k
      rw [h (code - stp b k) (by omega) k l]
    · simp only [if_neg g]
def dpv (m : Bool) (law : Nat) (b : Nat → Nat) : Nat → Nat → Nat → Nat → Nat
  | 0, _, _, _ => 0
  | f + 1, code, l, a => dpF m law b (dpv m law b f) code l a 5
theorem dpv_fuel (m : Bool) (law : Nat) (b : Nat → Nat) : ∀ f f' code l a, code < f → code < f' → dpv m law b f code l a = dpv m law b f' code l a := by
  intro f
  induction f with
  | zero => intro f' code l a h; omega
  | succ f ih =>
    intro f' code l a h1 h2
    cases f' with
    | zero => omega
    | succ f' =>
      simp only [dpv]
      exact dpF_congr (fun q hq x y => ih f' q x y (by omega) (by omega)) 5
def DV (m : Bool) (law : Nat) (b : Nat → Nat) (code l a : Nat) : Nat := dpv m law b (code + 1) code l a
theorem DV_eq (m : Bool) (law : Nat) (b : Nat → Nat) (code l a : Nat) : DV m law b code l a = dpF m law b (DV m law b) code l a 5 := by
  show dpF m law b (dpv m law b code) code l a 5 = _
  exact dpF_congr (fun q hq x y => dpv_fuel m law b code (q + 1) q x y hq (by omega)) 5
theorem dpF_law0 {m : Bool} {b : Nat → Nat} {R : Nat → Nat → Nat → Nat} {code l a a' : Nat} : ∀ k, dpF m 0 b R code l a k = dpF m 0 b R code l a' k := by
  intro k
  induction k with
  | zero => rfl
  | succ k ih => simp only [dpF, ih, true_or, and_true]
theorem DV_law0 (m : Bool) (b : Nat → Nat) (code l a a' : Nat) : DV m 0 b code l a = DV m 0 b code l a' := by
  rw [DV_eq, DV_eq m 0 b code l a']
  exact dpF_law0 5
theorem dpF_le {law : Nat} {b : Nat → Nat} {R : Nat → Nat → Nat → Nat} {code l a : Nat} (h : ∀ q, q < code → ∀ x y, R q x y ≤ q) : ∀ k, dpF false law b R code l a k ≤ code := by
  intro k
  induction k with
  | zero => simp [dpF]
  | succ k ih =>
    simp only [dpF]
    by_cases g : 0 < dig b k code ∧ k ≠ l ∧ (law = 0 ∨ k ≠ a)
    · have h1 := dig_le g.1
      have h2 := stp_pos b k
      have h3 := h (code - stp b k) (by omega) k l
      rw [if_pos g]
      simp only [Bool.false_eq_true, if_false]
      omega
    · rw [if_neg g]; exact ih
theorem DV_le (law : Nat) (b : Nat → Nat) : ∀ code l a, DV false law b code l a ≤ code := by
  intro code
  induction code using Nat.strongRecOn with
  | _ code ih =>
    intro l a
    rw [DV_eq]
    exact dpF_le (fun q hq x y => ih q hq x y) 5
/-- digits together -/
def digS (b : Nat → Nat) (code : Nat) : Nat → Nat
  | 0 => 0
  | k + 1 => digS b code k + dig b k code
theorem stp_dvd (b : Nat → Nat) {j k : Nat} (h : j ≤ k) : ∃ m, stp b k = stp b j * m := by
  induction k with
  | zero => rw [show j = 0 by omega]; exact ⟨1, by simp⟩
  | succ k ih =>
    rcases Nat.lt_or_ge j (k + 1) with g | g
    · obtain ⟨m, e⟩ := ih (by omega)
      exact ⟨m * (b k + 1), by simp only [stp]; rw [e, Nat.mul_assoc]⟩
    · rw [show j = k + 1 by omega]; exact ⟨1, by simp⟩
theorem dig_sub_same {b : Nat → Nat} {k code : Nat} (h : 0 < dig b k code) : dig b k (code - stp b k) + 1 = dig b k code := by
  have h1 := dig_le h
  have hp := stp_pos b k
  unfold dig at h ⊢
  have e : (code - stp b k) / stp b k = code / stp b k - 1 := by
    have := Nat.sub_mul_div code (stp b k) 1
    rw [Nat.mul_one] at this
    exact this
  rw [e]
  generalize code / stp b k = x at h ⊢
  have hx : x % (b k + 1) ≤ x := Nat.mod_le _ _
  have hd := Nat.div_add_mod x (b k + 1)
  have hm := Nat.mod_lt x (show 0 < b k + 1 by omega)
  have e2 : x - 1 = (b k + 1) * (x / (b k + 1)) + (x % (b k + 1) - 1) := by omega
  rw [e2, Nat.mul_add_mod, Nat.mod_eq_of_lt (by omega)]
  omega
theorem dig_sub_lt {b : Nat → Nat} {j k code : Nat} (hjk : j < k) (h : 0 < dig b k code) : dig b j (code - stp b k) = dig b j code := by
  have h1 := dig_le h
  have hp := stp_pos b j
  obtain ⟨m, e⟩ := stp_dvd b (show j + 1 ≤ k by omega)
  simp only [stp] at e
  rw [Nat.mul_assoc] at e
  unfold dig
  rw [e, Nat.sub_mul_div]
  have hle : (b j + 1) * m ≤ code / stp b j := by
    rw [Nat.le_div_iff_mul_le (by omega), Nat.mul_comm, ← e]
    exact h1
  generalize code / stp b j = x at hle ⊢
  have e2 : x = (x - (b j + 1) * m) + (b j + 1) * m := by omega
  conv => rhs; rw [e2, Nat.add_mul_mod_self_left]
theorem dig_sub_gt {b : Nat → Nat} {j k code : Nat} (hjk : k < j) (h : 0 < dig b k code) : dig b j (code - stp b k) = dig b j code := by
  have hp := stp_pos b k
  have hpj := stp_pos b j
  obtain ⟨m, e⟩ := stp_dvd b (show k + 1 ≤ j by omega)
  unfold dig
  congr 1
  have h2 : stp b k ≤ code % stp b (k + 1) := by
    rw [← dig_top] at h
    rcases Nat.lt_or_ge (code % stp b (k + 1)) (stp b k) with g | g
    · rw [Nat.div_eq_of_lt g] at h; omega
    · exact g
  have h3 : code % stp b (k + 1) ≤ code % stp b j := by
    have : code % stp b j % stp b (k + 1) = code % stp b (k + 1) := by rw [e]; exact Nat.mod_mul_right_mod _ _ _
    rw [← this]
    exact Nat.mod_le _ _
  have h4 := Nat.div_add_mod code (stp b j)
  have h5 := Nat.mod_lt code (show 0 < stp b j by omega)
  have e2 : code - stp b k = stp b j * (code / stp b j) + (code % stp b j - stp b k) := by omega
  rw [e2]
  clear e2 h4
  generalize code / stp b j = q
  have h6 : code % stp b j - stp b k < stp b j := Nat.lt_of_le_of_lt (Nat.sub_le _ _) h5
  rw [Nat.mul_add_div hpj, Nat.div_eq_of_lt h6, Nat.add_zero]
theorem digS_sub {b : Nat → Nat} {k code : Nat} (h : 0 < dig b k code) : ∀ j, digS b (code - stp b k) j + (if k < j then 1 else 0) = digS b code j := by
  intro j
  induction j with
  | zero => simp [digS]
  | succ j ih =>
    simp only [digS]
    rcases Nat.lt_trichotomy k j with g | g | g
    · rw [dig_sub_gt g h, if_pos (by omega)]
      rw [if_pos g] at ih
      omega
    · subst g
      have := dig_sub_same h
      rw [if_pos (by omega)]
      rw [if_neg (by omega)] at ih
      omega
    · rw [dig_sub_lt g h, if_neg (by omega)]
      rw [if_neg (by omega)] at ih
      omega
theorem dpF_cnt {law : Nat} {b : Nat → Nat} {code l a : Nat} (h : ∀ q, q < code → ∀ x y, DV true law b q x y ≤ 5 ^ digS b q 5) : ∀ k, k ≤ 5 → dpF true law b (DV true law b) code l a k ≤ (if code = 0 then 1 else 0) + (if digS b code 5 = 0 then 0 else k * 5 ^ (digS b code 5 - 1)) := by
  intro k
  induction k with
  | zero => intro _; simp [dpF]
  | succ k ih =>
    intro hk
    have h0 := ih (by omega)
    simp only [dpF]
    by_cases g : 0 < dig b k code ∧ k ≠ l ∧ (law = 0 ∨ k ≠ a)
    · have h1 := dig_le g.1
      have h2 := stp_pos b k
      have h3 := h (code - stp b k) (by omega) k l
      have h4 := digS_sub g.1 5
      rw [if_pos (show k < 5 by omega)] at h4
      rw [if_pos g]
      simp only [if_true]
      have h5 : ¬ digS b code 5 = 0 := by omega
      rw [if_neg h5] at h0
      rw [if_neg h5]
      rw [show digS b (code - stp b k) 5 = digS b code 5 - 1 by omega] at h3
      rw [Nat.add_mul, Nat.one_mul]
      omega
    · rw [if_neg g]
      refine Nat.le_trans h0 (Nat.add_le_add_left ?_ _)
      by_cases h5 : digS b code 5 = 0
      · rw [if_pos h5, if_pos h5]; exact Nat.le_refl _
      · rw [if_neg h5, if_neg h5]
        exact Nat.mul_le_mul_right _ (Nat.le_succ k)
theorem dig_zero (b : Nat → Nat) (k : Nat) : dig b k 0 = 0 := by
  unfold dig
  simp
theorem digS_zero (b : Nat → Nat) : ∀ k, digS b 0 k = 0 := by
  intro k
  induction k with
  | zero => rfl
  | succ k ih => simp only [digS, ih, dig_zero]
theorem DV_cnt (law : Nat) (b : Nat → Nat) : ∀ code l a, DV true law b code l a ≤ 5 ^ digS b code 5 := by
  intro code
  induction code using Nat.strongRecOn with
  | _ code ih =>
    intro l a
    rw [DV_eq]
    have h := dpF_cnt (law := law) (b := b) (code := code) (l := l) (a := a) (fun q hq x y => ih q hq x y) 5 (Nat.le_refl 5)
    by_cases g : code = 0
    · subst g
      rw [digS_zero] at h ⊢
      simpa using h
    · rw [if_neg g] at h
      by_cases g2 : digS b code 5 = 0
      · rw [if_pos g2] at h
        exact Nat.le_trans h (Nat.zero_le _)
      · rw [if_neg g2] at h
        have e : 5 ^ digS b code 5 = 5 * 5 ^ (digS b code 5 - 1) := by
          rw [← Nat.pow_succ', show (digS b code 5 - 1).succ = digS b code 5 by omega]
        omega
theorem digS_le (b : Nat → Nat) (code : Nat) : ∀ k, digS b code k ≤ sum5 b k := by
  intro k
  induction k with
  | zero => exact Nat.le_refl 0
  | succ k ih =>
    have := dig_lt b k code
    simp only [digS, sum5]
    omega
theorem DV_cnt_lt {law : Nat} {b : Nat → Nat} (h : sum5 b 5 < 12) (code l a : Nat) : DV true law b code l a < 2147483648 := by
  have h1 := DV_cnt law b code l a
  have h2 := digS_le b code 5
  have h3 : 5 ^ digS b code 5 ≤ 5 ^ 11 := Nat.pow_le_pow_right (by omega) (by omega)
  have h4 : (5 : Nat) ^ 11 = 48828125 := by decide
  omega
