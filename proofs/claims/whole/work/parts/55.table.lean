/-! ===== the reference's table of kinds ===== -/
theorem lg_le (x y : Int64) : (lg_cmp x y ≤ 0) = (x ≤ y) := by
  have h := lg_gt x y
  simp only [eq_iff_iff] at h ⊢
  rw [i_lt, l_lt] at h
  rw [i_le, l_le]
  have e : (0 : Int32).toInt = 0 := rfl
  rw [e] at h ⊢
  omega
section TM
variable {n : Nat} {A : AS} {y : Dy} {sh : Nat → Shp} {c c' : Nat → Nat → Int32} {z : Nat × Nat} {b : Nat → Nat}
theorem SMo.rb (h : SMo sh) : sh 110 = sA 0 5 ∧ sh 111 = sA 0 5 ∧ sh 112 = sA 0 5 ∧ sh 113 = sA 0 5 := ⟨h.2.2.2.2.2.2.2.2.2.2.2.1, h.2.2.2.2.2.2.2.2.2.2.2.2.1, h.2.2.2.2.2.2.2.2.2.2.2.2.2.1, h.2.2.2.2.2.2.2.2.2.2.2.2.2.2.1⟩
/-- the loop that empties the numbers of kinds -/
theorem zero_loop {ρ : Type} (W : Wz sh z) (hS : SMo sh) (K : Hp → Option ρ) : ∃ c', wl2 (fun (r3 : Int32 → Hp → Option ρ) (i1 : Int32) (h2 : Hp) => if (5 : Int32) ≤ i1 then (K h2) else (bnd (gR h2 99 7 17) fun a19 => bnd (stI 0 h2 a19 i1 (0 : Int32)) fun h20 => r3 (i1 + (1 : Int32)) h20)) fuel (0 : Int32) (HH sh c z) = K (HH sh c' z) ∧ (∀ a, a ≠ 111 → c' a = c a) ∧ ∀ k, k < 5 → c' 111 k = 0 := by
  refine wl2_fuel (fun i x h => x = nI i ∧ ∃ c', h = HH sh c' z ∧ (∀ a, a ≠ 111 → c' a = c a) ∧ ∀ k, k < i → c' 111 k = 0) 5 (by omega) (fun t => ∃ c', t = K (HH sh c' z) ∧ (∀ a, a ≠ 111 → c' a = c a) ∧ ∀ k, k < 5 → c' 111 k = 0) ?_ _ _ ⟨rfl, c, rfl, fun _ _ => rfl, fun k hk => absurd hk (by omega)⟩
  intro rec i x h hi hx
  obtain ⟨rfl, c1, rfl, h1, h2⟩ := hx
  rcases Nat.lt_or_ge i 5 with h5 | h5
  · refine Or.inl ⟨h5, ?_⟩
    rw [if_neg (five_ge h5), HR (k := 17) W hS.1 rfl, bnd_s, HS W hS.rb.2.1 h5 (by omega), bnd_s, nI_1]
    refine ⟨_, _, ⟨rfl, _, rfl, fun a ha => by rw [u2_other _ _ _ ha]; exact h1 a ha, ?_⟩, rfl⟩
    intro k hk
    rcases Nat.lt_or_ge k i with g | g
    · rw [u2_ne _ _ (Or.inr (by omega))]; exact h2 k g
    · rw [show k = i by omega, u2_same]; rfl
  · refine Or.inr ?_
    rw [if_pos (five_le h5 (by omega))]
    exact ⟨c1, rfl, h1, fun k hk => h2 k (by omega)⟩
/-- the loop that counts -/
theorem base_loop {ρ : Type} (W : Wz sh z) (hS : SMo sh) (hR : ModR A c) (hV : WFV (asV A)) (g w : Nat → Nat) (hg : ∀ i, i < mvN (asV A) → g i < 5) (h0 : ∀ k, k < 5 → c 111 k = 0) (K : Hp → Option ρ) (S : (Int32 → Hp → Option ρ) → Int32 → Hp → Option ρ) (hst : ∀ rec i c1, i < mvN (asV A) → (∀ a, a ≠ 111 → c1 a = c a) → S rec (nI i) (HH sh c1 z) = rec (nI (i + 1)) (HH sh (u2 c1 111 (g i) (c1 111 (g i) + nI (w i))) z)) : ∃ c', wl2 (fun (r7 : Int32 → Hp → Option ρ) (i5 : Int32) (h6 : Hp) => bnd (gR h6 99 7 6) fun a8 => bnd (ldI 0 h6 a8 (50 : Int32)) fun x9 => if x9 ≤ i5 then (K h6) else S r7 i5 h6) fuel (0 : Int32) (HH sh c z) = K (HH sh c' z) ∧ (∀ a, a ≠ 111 → c' a = c a) ∧ ∀ k, k < 5 → c' 111 k = nI (kc g w (mvN (asV A)) k) := by
  have hn := hV.1
  have h50 : c 104 50 = nI (mvN (asV A)) := hR.2.2.2.2.2.2.2.2.1.2.1
  refine wl2_fuel (fun i x h => x = nI i ∧ ∃ c', h = HH sh c' z ∧ (∀ a, a ≠ 111 → c' a = c a) ∧ ∀ k, k < 5 → c' 111 k = nI (kc g w i k)) (mvN (asV A)) (by omega) (fun t => ∃ c', t = K (HH sh c' z) ∧ (∀ a, a ≠ 111 → c' a = c a) ∧ ∀ k, k < 5 → c' 111 k = nI (kc g w (mvN (asV A)) k)) ?_ _ _ ⟨rfl, c, rfl, fun _ _ => rfl, fun k hk => by rw [h0 k hk]; rfl⟩
  intro rec i x h hi hx
  obtain ⟨rfl, c1, rfl, h1, h2⟩ := hx
  rw [HR (k := 6) W hS.1 rfl, bnd_s, show (50 : Int32) = nI 50 from rfl, slotR W hS (by omega), bnd_s, h1 104 (by omega), h50]
  rcases Nat.lt_or_ge i (mvN (asV A)) with h5 | h5
  · refine Or.inl ⟨h5, ?_⟩
    rw [if_neg (nI_ge h5 (by omega)), hst rec i c1 h5 h1]
    refine ⟨_, _, ⟨rfl, _, rfl, fun a ha => by rw [u2_other _ _ _ ha]; exact h1 a ha, ?_⟩, rfl⟩
    intro k hk
    simp only [kc]
    by_cases e : g i = k
    · rw [e, u2_same, h2 k hk, if_pos rfl, nI_add]
    · rw [u2_ne _ _ (Or.inr (by omega)), h2 k hk, if_neg e, Nat.add_zero]
  · refine Or.inr ?_
    rw [if_pos (nI_le h5 (by omega)), show mvN (asV A) = i by omega]
    exact ⟨c1, rfl, h1, h2⟩
theorem counts_eq (W : Wz sh z) (hS : SMo sh) (hR : ModR A c) (hV : WFV (asV A)) : ∃ c', f_X7_counts 99 (HH sh c z) = some (HH sh c' z) ∧ (∀ a, a ≠ 111 → c' a = c a) ∧ ∀ k, k < 5 → c' 111 k = nI (kc (gK (mvD (asV A))) (wW (mvD (asV A))) (mvN (asV A)) k) := by
  unfold f_X7_counts
  rw [HG W hS.1, bnd_s]
  obtain ⟨c1, e1, f1, z1⟩ := zero_loop (c := c) (ρ := Hp) W hS _
  rw [e1]
  clear e1
  have hR1 : ModR A c1 := hR.kp (Kp.of (fun a q => f1 a (by omega)))
  obtain ⟨c2, e2, f2, b2⟩ := base_loop (c := c1) (ρ := Hp) W hS hR1 hV (gK (mvD (asV A))) (wW (mvD (asV A))) (fun i hi => (hV.2.1 i hi).1) z1 some (fun r7 i5 h6 => bnd (gR h6 99 7 17) fun a11 => bnd (f_X7_of 99 i5 (0 : Int32) h6) fun x12 => bnd (ldI 0 h6 a11 x12) fun x13 => bnd (f_X7_isWaiting 99 i5 h6) fun x14 => jn1 (fun (w15 : Int32) => bnd (stI 0 h6 a11 x12 (x13 + w15)) fun h17 => r7 (i5 + (1 : Int32)) h17) fun k16 => if x14 = 0 then (k16 (0 : Int32)) else (k16 (1 : Int32))) (by
    intro rec i c3 hi f3
    have hR3 : ModR A c3 := hR1.kp (Kp.of (fun a q => f3 a (by omega)))
    have hk := (hV.2.1 i hi).1
    rw [HR (k := 17) W hS.1 rfl, bnd_s, show (0 : Int32) = nI 0 from rfl, of_in W hS hR3 hV hi (by omega), bnd_s, HL W hS.rb.2.1 hk (by omega), bnd_s, isWaiting_in W hS hR3 hV hi, bnd_s]
    simp only [jn1_s]
    by_cases e : mvD (asV A) i 4 = 0
    · rw [if_pos e, if_neg (by decide), HS W hS.rb.2.1 hk (by omega), bnd_s, nI_1]
      unfold wW gK
      rw [if_pos e]
      rfl
    · rw [if_neg e, if_pos (show (0 : Int32) = nI 0 from rfl), HS W hS.rb.2.1 hk (by omega), bnd_s, nI_1]
      unfold wW gK
      rw [if_neg e]
      rfl)
  refine ⟨c2, e2, fun a ha => by rw [f2 a ha, f1 a ha], b2⟩
theorem stepM_eq (W : Wz sh z) (hS : SMo sh) (hb : ∀ k, k < 5 → c 111 k = nI (b k)) {k : Nat} (hk : k ≤ 5) : f_X7_step 99 (nI k) (HH sh c z) = some (nI (stp b k)) := by
  unfold f_X7_step
  rw [HG W hS.1, bnd_s]
  refine wl2_fuel (fun i x j => x = nI (stp b i) ∧ j = nI i) k (by omega) (fun t => t = some (nI (stp b k))) ?_ _ _ ⟨rfl, rfl⟩
  intro rec i x j hi hx
  obtain ⟨rfl, rfl⟩ := hx
  rcases Nat.lt_or_ge i k with h5 | h5
  · refine Or.inl ⟨h5, ?_⟩
    rw [if_neg (nI_ge h5 (by omega)), HR (k := 17) W hS.1 rfl, bnd_s, HL W hS.rb.2.1 (show i < 5 by omega) (by omega), bnd_s, nm_s, hb i (by omega), nI_1, pk_mul, nI_1]
    exact ⟨_, _, ⟨rfl, rfl⟩, rfl⟩
  · refine Or.inr ?_
    rw [if_pos (nI_le h5 (by omega)), show i = k by omega]
theorem sizeM_eq (W : Wz sh z) (hS : SMo sh) (hb : ∀ k, k < 5 → c 111 k = nI (b k)) : f_X7_size 99 (HH sh c z) = some (nI (stp b 5)) := stepM_eq W hS hb (Nat.le_refl 5)
theorem counted_eq (W : Wz sh z) (hS : SMo sh) (hz : sum5 b 5 < 12) (hb : ∀ k, k < 5 → c 111 k = nI (b k)) {code : Nat} (hc : code < stp b 5) : ∃ c', f_X7_counted 99 (nI code) (HH sh c z) = some (HH sh c' z) ∧ (∀ a, a ≠ 110 → c' a = c a) ∧ ∀ k, k < 5 → c' 110 k = nI (dig b k code) := by
  unfold f_X7_counted
  have hsz := size_le hz
  rw [HG W hS.1, bnd_s]
  refine wl3_fuel (fun i r x h => r = nI (code / stp b i) ∧ x = nI i ∧ ∃ c', h = HH sh c' z ∧ (∀ a, a ≠ 110 → c' a = c a) ∧ ∀ k, k < i → c' 110 k = nI (dig b k code)) 5 (by omega) (fun t => ∃ c', t = some (HH sh c' z) ∧ (∀ a, a ≠ 110 → c' a = c a) ∧ ∀ k, k < 5 → c' 110 k = nI (dig b k code)) ?_ _ _ _ ⟨by simp [stp], rfl, c, rfl, fun _ _ => rfl, fun k hk => absurd hk (by omega)⟩
  intro rec i r x h hi hx
  obtain ⟨rfl, rfl, c1, rfl, h1, h2⟩ := hx
  rcases Nat.lt_or_ge i 5 with h5 | h5
  · refine Or.inl ⟨h5, ?_⟩
    have hb1 : b i ≤ 324 := by
      have h1 := stp5_le (b := b) (k := i + 1) (by omega) hz
      simp only [stp] at h1
      have h2 := Nat.le_mul_of_pos_left (b i + 1) (stp_pos b i)
      omega
    have hq : code / stp b i ≤ code := Nat.div_le_self _ _
    have e109 : c1 111 i = nI (b i) := by rw [h1 111 (by omega)]; exact hb i h5
    have n0 : ¬ nI (b i + 1) = 0 := nI_ne0 (by omega) (by omega)
    rw [if_neg (five_ge h5), HR (k := 16) W hS.1 rfl, bnd_s, HR (k := 17) W hS.1 rfl, bnd_s, HL W hS.rb.2.1 h5 (by omega), bnd_s, e109, nI_1, if_neg n0, HS W hS.rb.1 h5 (by omega), bnd_s, HR (k := 17) W hS.1 rfl, bnd_s, HL W hS.rb.2.1 h5 (by omega), bnd_s, u2_other _ _ _ (by omega), e109, nI_1, if_neg n0, nm_s, pk_rem (by omega) (by omega) (by omega), pk_div (by omega) (by omega) (by omega), nI_1, Nat.div_div_eq_div_mul]
    refine ⟨_, _, _, ⟨rfl, rfl, _, rfl, fun a ha => by rw [u2_other _ _ _ ha]; exact h1 a ha, ?_⟩, rfl⟩
    intro k hk
    rcases Nat.lt_or_ge k i with g | g
    · rw [u2_ne _ _ (Or.inr (by omega))]; exact h2 k g
    · rw [show k = i by omega, u2_same]; rfl
  · refine Or.inr ?_
    rw [if_pos (five_le h5 (by omega))]
    exact ⟨c1, rfl, h1, fun k hk => h2 k (by omega)⟩
end TM
