/-! ===== the class's table of kinds ===== -/
section AH
variable {n : Nat} {A : AS} {y : Dy} {sh : Nat → Shp} {c c' : Nat → Nat → Int32} {z : Nat × Nat} {b : Nat → Nat}
theorem SC.a79 (h : SC sh y) : sh 79 = sO 0 [some 80, some 81, some 82, none, some y.1.1] := h.2.2.2.2.2.2.2.1
theorem SC.a80 (h : SC sh y) : sh 80 = sA 0 5 := h.2.2.2.2.2.2.2.2.1
theorem SC.a81 (h : SC sh y) : sh 81 = sA 0 5 := h.2.2.2.2.2.2.2.2.2.1
theorem SC.a82 (h : SC sh y) : sh 82 = sA 0 5 := h.2.2.2.2.2.2.2.2.2.2.1
theorem SC.a84 (h : SC sh y) : sh 84 = sO 1 [some 85, some 86, some 87, some 88, none, none, some 89, none, some y.2.1.1, some y.2.2.1.1, some y.2.2.2.1, none, none] := h.2.2.2.2.2.2.2.2.2.2.2.1
theorem SC.r8 (h : SC sh y) : sh 85 = sA 0 10 ∧ sh 86 = sA 0 10 ∧ sh 87 = sA 0 10 ∧ sh 88 = sA 0 10 ∧ sh 89 = sA 0 10 := ⟨h.2.2.2.2.2.2.2.2.2.2.2.2.1, h.2.2.2.2.2.2.2.2.2.2.2.2.2.1, h.2.2.2.2.2.2.2.2.2.2.2.2.2.2.1, h.2.2.2.2.2.2.2.2.2.2.2.2.2.2.2.1, h.2.2.2.2.2.2.2.2.2.2.2.2.2.2.2.2.1⟩
theorem SC.a93 (h : SC sh y) : sh 93 = sO 3 [some 94, some 95, some 96, none] ∧ sh 94 = sA 2 25 ∧ sh 95 = sA 0 5 ∧ sh 96 = sA 0 5 := ⟨h.2.2.2.2.2.2.2.2.2.2.2.2.2.2.2.2.2.1, h.2.2.2.2.2.2.2.2.2.2.2.2.2.2.2.2.2.2.1, h.2.2.2.2.2.2.2.2.2.2.2.2.2.2.2.2.2.2.2.1, h.2.2.2.2.2.2.2.2.2.2.2.2.2.2.2.2.2.2.2.2.1⟩
theorem SC.a97 (h : SC sh y) : sh 97 = sO 5 [none, some 98, none, none, none] ∧ sh 98 = sA 0 5 := ⟨h.2.2.2.2.2.2.2.2.2.2.2.2.2.2.2.2.2.2.2.2.2.1, h.2.2.2.2.2.2.2.2.2.2.2.2.2.2.2.2.2.2.2.2.2.2.1⟩
theorem SC.dy (h : SC sh y) : dyOK sh y := h.2.2.2.2.2.2.2.2.2.2.2.2.2.2.2.2.2.2.2.2.2.2.2
theorem five_ge {i : Nat} (h : i < 5) : ¬ (5 : Int32) ≤ nI i := nI_ge (b := 5) h (by omega)
theorem five_le {i : Nat} (h : 5 ≤ i) (h2 : i < 1000) : (5 : Int32) ≤ nI i := nI_le (a := 5) h (by omega)
theorem nrw0 (x : Int32) : nrw 0 x = x := rfl
theorem weigh_eq (W : Wz sh z) (hs : SC sh y) (hb : ∀ k, k < 5 → c 80 k = nI (b k)) : ∃ c', f_X0_weigh 79 (HH sh c z) = some (HH sh c' z) ∧ (∀ a, a ≠ 79 → a ≠ 81 → c' a = c a) ∧ c' 79 3 = nI (stp b 5) ∧ ∀ k, k < 5 → c' 81 k = nI (stp b k) := by
  unfold f_X0_weigh
  simp only [HG W hs.a79, bnd_s, HP (k := 3) W hs.a79 rfl]
  refine wl2_fuel (fun i x h => x = nI i ∧ ∃ c', h = HH sh c' z ∧ (∀ a, a ≠ 79 → a ≠ 81 → c' a = c a) ∧ c' 79 3 = nI (stp b i) ∧ ∀ k, k < i → c' 81 k = nI (stp b k)) 5 (by omega) (fun t => ∃ c', t = some (HH sh c' z) ∧ (∀ a, a ≠ 79 → a ≠ 81 → c' a = c a) ∧ c' 79 3 = nI (stp b 5) ∧ ∀ k, k < 5 → c' 81 k = nI (stp b k)) ?_ _ _ ⟨rfl, _, rfl, fun a h1 h2 => u2_other _ _ _ h1, u2_same _ _ _ _, fun k hk => absurd hk (by omega)⟩
  intro rec i x h hi hx
  obtain ⟨rfl, c', rfl, h1, h2, h3⟩ := hx
  rcases Nat.lt_or_ge i 5 with h5 | h5
  · refine Or.inl ⟨h5, ?_⟩
    rw [if_neg (five_ge h5), HR (k := 1) W hs.a79 rfl, bnd_s, HI (k := 3) W hs.a79 rfl, bnd_s, HS W hs.a81 h5 (by omega), bnd_s, HI (k := 3) W hs.a79 rfl, bnd_s, HR (k := 0) W hs.a79 rfl, bnd_s, HL W hs.a80 h5 (by omega), bnd_s, HP (k := 3) W hs.a79 rfl, bnd_s]
    refine ⟨_, _, ⟨nI_1 i, _, rfl, ?_, ?_, ?_⟩, rfl⟩
    · intro a g1 g2
      rw [u2_other _ _ _ g1, u2_other _ _ _ g2, h1 a g1 g2]
    · rw [u2_same, u2_other _ _ _ (by omega), u2_other _ _ _ (by omega), h2, h1 80 (by omega) (by omega), hb i h5, nI_1, pk_mul]
      rfl
    · intro k hk
      rw [u2_other _ _ _ (by omega)]
      rcases Nat.lt_or_ge k i with g | g
      · rw [u2_ne _ _ (Or.inr (by omega))]; exact h3 k g
      · rw [show k = i by omega, u2_same, nrw0, h2]
  · refine Or.inr ?_
    rw [if_pos (five_le h5 (by omega))]
    have e : i = 5 := by omega
    subst e
    exact ⟨c', rfl, h1, h2, h3⟩
theorem stp5_le {k : Nat} (hk : k ≤ 5) (h : sum5 b 5 < 12) : stp b k ≤ 324 := Nat.le_trans (stp_mono b hk) (size_le h)
theorem unfold_eq (W : Wz sh z) (hs : SC sh y) (hz : sum5 b 5 < 12) (hw : ∀ k, k < 5 → c 81 k = nI (stp b k)) {code : Nat} (hc : code < stp b 5) : ∃ c', f_X0_unfold 79 (nI code) (HH sh c z) = some (HH sh c' z) ∧ (∀ a, a ≠ 82 → c' a = c a) ∧ ∀ k, k < 5 → c' 82 k = nI (dig b k code) := by
  unfold f_X0_unfold
  simp only [HG W hs.a79, bnd_s]
  refine wl3_fuel (fun i r x h => r = nI (code % stp b (5 - i)) ∧ x = (if i < 5 then nI (4 - i) else -1) ∧ ∃ c', h = HH sh c' z ∧ (∀ a, a ≠ 82 → c' a = c a) ∧ ∀ k, 5 - i ≤ k → k < 5 → c' 82 k = nI (dig b k code)) 5 (by omega) (fun t => ∃ c', t = some (HH sh c' z) ∧ (∀ a, a ≠ 82 → c' a = c a) ∧ ∀ k, k < 5 → c' 82 k = nI (dig b k code)) ?_ _ _ _ ⟨by rw [Nat.mod_eq_of_lt hc], rfl, c, rfl, fun _ _ => rfl, fun k h1 h2 => absurd h1 (by omega)⟩
  intro rec i r x h hi hx
  obtain ⟨rfl, rfl, c', rfl, h1, h2⟩ := hx
  rcases Nat.lt_or_ge i 5 with h5 | h5
  · refine Or.inl ⟨h5, ?_⟩
    have e4 : 5 - i = 4 - i + 1 := by omega
    have q4 : 4 - i < 5 := by omega
    generalize 4 - i = k at e4 q4
    have hp := stp_pos b k
    have hp5 := stp5_le (b := b) (k := k) (by omega) hz
    have hp6 := stp5_le (b := b) (k := k + 1) (by omega) hz
    have hml := Nat.mod_lt code (stp_pos b (k + 1))
    have hw' : c' 81 k = nI (stp b k) := by rw [h1 81 (by omega)]; exact hw k q4
    rw [if_pos h5, if_neg (nI_pos (by omega)), HR (k := 2) W hs.a79 rfl, bnd_s, HR (k := 1) W hs.a79 rfl, bnd_s, HL W hs.a81 q4 (by omega), bnd_s]
    simp only [jn1_s]
    rw [hw', if_neg (nI_nle (by omega) (by omega)), bnd_s, HL W hs.a81 q4 (by omega), bnd_s, hw', if_neg (nI_ne0 (by omega) (by omega)), e4, pk_div (by omega) (by omega) (by omega), dig_top, HS W hs.a82 q4 (by omega), bnd_s, HR (k := 2) W hs.a79 rfl, bnd_s, HL W hs.a82 q4 (by omega), bnd_s, HR (k := 1) W hs.a79 rfl, bnd_s, HL W hs.a81 q4 (by omega), bnd_s, nm_s, u2_same, nrw0, u2_other _ _ _ (by omega), hw', pk_mul]
    have hsub : dig b k code * stp b k ≤ code % stp b (k + 1) := by
      rw [← dig_top]
      exact Nat.div_mul_le_self _ _
    have hval : code % stp b (k + 1) - dig b k code * stp b k = code % stp b k := by
      rw [← dig_top]
      have h6 := Nat.div_add_mod (code % stp b (k + 1)) (stp b k)
      rw [Nat.mul_comm] at h6
      have h7 : code % stp b (k + 1) % stp b k = code % stp b k := by
        simp only [stp]
        exact Nat.mod_mul_right_mod _ _ _
      omega
    rw [pk_sub hsub, hval]
    refine ⟨_, _, _, ⟨by rw [show 5 - (i + 1) = k by omega], ?_, _, rfl, ?_, ?_⟩, rfl⟩
    · by_cases g : i + 1 < 5
      · rw [if_pos g, show k = 4 - (i + 1) + 1 by omega, pk_m1]
      · rw [if_neg g, show k = 0 by omega]
        rfl
    · intro a ha
      rw [u2_other _ _ _ ha]
      exact h1 a ha
    · intro j g1 g2
      rcases Nat.lt_or_ge k j with g | g
      · rw [u2_ne _ _ (Or.inr (by omega))]; exact h2 j (by omega) g2
      · rw [show j = k by omega, u2_same]
  · refine Or.inr ?_
    rw [if_neg (show ¬ i < 5 by omega), if_pos (by decide)]
    exact ⟨c', rfl, h1, fun k hk => h2 k (by omega) hk⟩
theorem answerAt_eq (W : Wz sh z) (hs : SC sh y) {i m : Nat} (h : 36 * i + m < y.1.2) : f_X0_answerAt 79 (nI i) (nI m) (HH sh c z) = some (c y.1.1 (36 * i + m)) := by
  unfold f_X0_answerAt
  have hl : y.1.2 ≤ 24000 := hs.dy.2.2.2.2.2.2.2.2.2.2.2.2.2.2.1
  rw [HG W hs.a79, bnd_s, nm_s, show (36 : Int32) = nI 36 from rfl, pk_mul, nI_add, Nat.mul_comm]
  simp only [jn1_s, jn0_s]
  rw [if_neg (nI_pos (by omega)), HR (k := 4) W hs.a79 rfl, bnd_s, HN W hs.dy.1 (by omega), bnd_s, if_neg (nI_ge h (by omega)), bnd_s, HL W hs.dy.1 h (by omega), bnd_s]
theorem dpF_lt {law code l a : Nat} : ∀ k, dpF false law b (DV false law b) code l a k ≤ code := dpF_le (fun q _ x y => DV_le law b q x y)
/-- what stands in the table so far -/
def Tb (m : Bool) (law : Nat) (b : Nat → Nat) (row : Nat → Int32) (N : Nat) : Prop := ∀ q, q < N → ∀ l a, l ≤ 5 → a ≤ 5 → (law = 1 ∨ a = 5) → row (36 * q + (6 * l + a)) = nI (DV m law b q l a)
theorem held_dv (m : Bool) {law : Nat} (hl : law ≤ 1) (code k l : Nat) : DV m law b code k (if law = 1 then l else 5) = DV m law b code k l := by
  rcases (show law = 0 ∨ law = 1 by omega) with rfl | rfl
  · exact DV_law0 m b code k _ _
  · rw [if_pos rfl]
theorem held_n {law : Nat} (hl : law ≤ 1) (l : Nat) : f_X6_heldBefore (nI law) (nI l) = some (nI (if law = 1 then l else 5)) := by
  rw [held_eq law hl]
  split <;> rfl
theorem mx_n {a b : Nat} (ha : a < 2147483648) (hb : b < 2147483648) : mx (nI a) (nI b) = nI (max a b) := by
  unfold mx
  by_cases h : a < b
  · rw [if_pos (nI_lt h hb), Nat.max_eq_right (by omega)]
  · rw [if_neg (nI_nlt (by omega) ha), Nat.max_eq_left (by omega)]
theorem mn_n {a b : Nat} (ha : a < 2147483648) (hb : b < 2147483648) : mn (nI a) (nI b) = nI (min a b) := by
  unfold mn
  by_cases h : b < a
  · rw [if_pos (nI_lt h ha), Nat.min_eq_right (by omega)]
  · rw [if_neg (nI_nlt (by omega) hb), Nat.min_eq_left (by omega)]
theorem answer_eq (W : Wz sh z) (hs : SC sh y) (m : Bool) {law : Nat} (hl : law ≤ 1) (hz : sum5 b 5 < 12) (hlen : 36 * stp b 5 ≤ y.1.2) {code l a : Nat} (hc : code < stp b 5) (hl5 : l ≤ 5) (ha5 : a ≤ 5) (hla : law = 1 ∨ a = 5) (hleft : ∀ k, k < 5 → c 82 k = nI (dig b k code)) (hw : ∀ k, k < 5 → c 81 k = nI (stp b k)) (hT : Tb m law b (c y.1.1) code) : f_X0_answer 79 (nI code) (nI law) (nI l) (nI a) (if m = true then 1 else 0) (HH sh c z) = some (nI (DV m law b code l a)) := by
  have hsz := size_le hz
  have hh : (if law = 1 then l else 5) ≤ 5 := by split <;> omega
  have main : ∀ w1 : Int32, w1 = nI (dpF m law b (DV m law b) code l a 0) → wl2 (fun (r6 : Int32 → Int32 → Option Int32) (i4 : Int32) (i5 : Int32) => if (5 : Int32) ≤ i5 then (some i4) else (bnd (gR (HH sh c z) 79 0 2) fun a8 => bnd (ldI 0 (HH sh c z) a8 i5) fun x9 => jn1 (fun (z10 : Int32) => r6 z10 (i5 + (1 : Int32))) fun k11 => if x9 ≤ 0 then (k11 i4) else (bnd (f_X6_fits i5 (nI l) (nI a)) fun x13 => if x13 = 0 then (k11 i4) else (bnd (gR (HH sh c z) 79 0 1) fun a15 => bnd (ldI 0 (HH sh c z) a15 i5) fun x16 => bnd (f_X6_memoryOf i5 (nI (if law = 1 then l else 5))) fun x17 => bnd (f_X0_answerAt 79 (nI code - x16) x17 (HH sh c z)) fun x18 => jn1 (fun (w19 : Int32) => k11 w19) fun k20 => if (if m = true then (1 : Int32) else 0) = 0 then (k20 (mx i4 ((1 : Int32) + x18))) else (k20 (i4 + x18)))))) fuel w1 (0 : Int32) = some (nI (DV m law b code l a)) := by
    intro w1 e1
    refine wl2_fuel (fun i v x => v = nI (dpF m law b (DV m law b) code l a i) ∧ x = nI i) 5 (by omega) (fun t => t = some (nI (DV m law b code l a))) ?_ _ _ ⟨e1, rfl⟩
    intro rec i v x hi hx
    obtain ⟨rfl, rfl⟩ := hx
    rcases Nat.lt_or_ge i 5 with h5 | h5
    · refine Or.inl ⟨h5, ?_⟩
      have hd := dig_lt b i code
      have hb1 : b i ≤ 324 := by
        have h1 := stp5_le (b := b) (k := i + 1) (by omega) hz
        simp only [stp] at h1
        have h2 := Nat.le_mul_of_pos_left (b i + 1) (stp_pos b i)
        omega
      rw [if_neg (five_ge h5), HR (k := 2) W hs.a79 rfl, bnd_s, HL W hs.a82 h5 (by omega), bnd_s, hleft i h5]
      simp only [jn1_s]
      by_cases g1 : 0 < dig b i code
      · have hle := dig_le g1
        have hp := stp_pos b i
        rw [if_neg (nI_nle g1 (by omega)), fits_eq, bnd_s]
        by_cases g2 : i ≠ l ∧ (law = 0 ∨ i ≠ a)
        · have e2 : ¬ (nI i = nI l ∨ nI i = nI a) := by
            rw [nI_eq (by omega) (by omega), nI_eq (by omega) (by omega)]
            omega
          rw [if_neg e2, if_neg i10, HR (k := 1) W hs.a79 rfl, bnd_s, HL W hs.a81 h5 (by omega), bnd_s, hw i h5, mem_eq, bnd_s, pk_sub hle, answerAt_eq W hs (by omega), bnd_s, hT _ (by omega) i _ (by omega) hh (by split <;> omega), held_dv m hl]
          cases m with
          | true =>
            simp only [if_true]
            rw [if_neg i10, nI_add]
            refine ⟨_, _, ⟨rfl, rfl⟩, ?_⟩
            simp only [dpF]
            rw [if_pos ⟨g1, g2⟩]
            simp only [if_true]
            rw [nI_1]
          | false =>
            simp only [Bool.false_eq_true, if_false, if_true]
            have q1 := dpF_lt (b := b) (law := law) (code := code) (l := l) (a := a) i
            have q2 := DV_le law b (code - stp b i) i l
            rw [show (1 : Int32) = nI 1 from rfl, nI_add, mx_n (by omega) (by omega)]
            refine ⟨_, _, ⟨rfl, rfl⟩, ?_⟩
            simp only [dpF]
            rw [if_pos ⟨g1, g2⟩]
            simp only [Bool.false_eq_true, if_false]
            rw [nI_add]
        · have e2 : nI i = nI l ∨ nI i = nI a := by
            rw [nI_eq (by omega) (by omega), nI_eq (by omega) (by omega)]
            omega
          rw [if_pos e2, if_pos rfl]
          refine ⟨_, _, ⟨rfl, rfl⟩, ?_⟩
          simp only [dpF]
          rw [if_neg (fun q => g2 q.2), nI_1]
      · rw [show dig b i code = 0 by omega, if_pos (by decide)]
        refine ⟨_, _, ⟨rfl, rfl⟩, ?_⟩
        simp only [dpF]
        rw [if_neg (fun q => g1 q.1), nI_1]
    · refine Or.inr ?_
      rw [if_pos (five_le h5 (by omega)), show i = 5 by omega, ← DV_eq]
  unfold f_X0_answer
  rw [HG W hs.a79, bnd_s]
  simp only [jn1_s, jn0_s]
  rw [held_n hl, bnd_s]
  cases m with
  | true =>
    simp only [if_true] at main ⊢
    rw [if_neg i10]
    by_cases g : code = 0
    · rw [if_pos (show nI code = 0 by rw [g]; rfl), bnd_s]
      exact main _ (by simp [dpF, g]; rfl)
    · rw [if_neg (nI_ne0 (by omega) (by omega))]
      exact main _ (by simp [dpF, g]; rfl)
  | false =>
    simp only [Bool.false_eq_true, if_false, if_true] at main ⊢
    exact main _ (by simp [dpF]; rfl)
end AH
