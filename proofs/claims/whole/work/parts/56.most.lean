/-! ===== the reference's table, filled ===== -/
def TL (m : Bool) (law : Nat) (b : Nat → Nat) (T : Nat → Int64) (N : Nat) : Prop := ∀ q, q < N → ∀ l a, l ≤ 5 → a ≤ 5 → T (36 * q + (6 * l + a)) = lN (DV m law b q l a)
abbrev shT (sh : Nat → Shp) (T : Nat → Int64) : Nat → Shp := uS sh 115 (sC (aL 14400 T))
section MO
variable {n : Nat} {A : AS} {y : Dy} {sh : Nat → Shp} {c c' : Nat → Nat → Int32} {z : Nat × Nat} {b : Nat → Nat}
theorem t36_ge {i : Nat} (h : i < 36) : ¬ (36 : Int32) ≤ nI i := nI_ge (b := 36) h (by omega)
theorem t36_le {i : Nat} (h : 36 ≤ i) (h2 : i < 1000) : (36 : Int32) ≤ nI i := nI_le (a := 36) h (by omega)
theorem TL_put {m : Bool} {law : Nat} {T : Nat → Int64} {N q : Nat} {v : Int64} (h : TL m law b T N) (hq : q < 36) : TL m law b (vp_updL T (36 * N + q) v) N := by
  intro q' hq' l a hl ha
  rw [pk_uLn (by omega)]
  exact h q' hq' l a hl ha
/-- one entry of the reference's table -/
theorem cell_eq (m : Bool) (hA : WFA A) (J : Jn n A y sh c z) (hz : sum5 b 5 < 12) (hb : ∀ k, k < 5 → c 111 k = nI (b k)) {T : Nat → Int64} {code q i : Nat} (hc : code < stp b 5) (hq : q < 36) (hi : i < 5) (hT : TL m (asL A) b T code) {ρ : Type} (K0 : Option ρ) (K1 : Int64 → Option ρ) : (if (6 : Int32) = 0 then none else if (6 : Int32) = 0 then none else bnd (f_X7_isMixed 99 (nI i) (nI q / (6 : Int32)) (nI q - nI q / (6 : Int32) * (6 : Int32)) (HH (shT sh T) c z)) fun x28 => if x28 = 0 then K0 else (bnd (gR (HH (shT sh T) c z) 99 7 21) fun a30 => bnd (f_X7_step 99 (nI i) (HH (shT sh T) c z)) fun x31 => if (6 : Int32) = 0 then none else bnd (ldL (HH (shT sh T) c z) a30 ((((36 : Int32) * (nI code - x31)) + ((6 : Int32) * nI i)) + (nI q / (6 : Int32)))) K1)) = if i ≠ q / 6 ∧ (asL A = 0 ∨ i ≠ q % 6) then (if stp b i ≤ code then K1 (lN (DV m (asL A) b (code - stp b i) i (q / 6))) else (bnd (ldL (HH (shT sh T) c z) 115 ((((36 : Int32) * (nI code - nI (stp b i))) + ((6 : Int32) * nI i)) + (nI q / (6 : Int32)))) K1)) else K0 := by
  have JT := J.tab T
  have W := JT.1
  have hS := JT.2.2.2.2.1
  have hR := JT.2.2.2.2.2
  have hsz := size_le hz
  have h6 : (6 : Int32) = nI 6 := rfl
  have n6 : ¬ (6 : Int32) = 0 := by decide
  rw [if_neg n6, if_neg n6, h6, pk_rem (by omega) (by omega) (by omega), pk_div (by omega) (by omega) (by omega), isMixed_eq W hS hR hA.2.1 (by omega) (by omega) (by omega), bnd_s]
  by_cases g : i ≠ q / 6 ∧ (asL A = 0 ∨ i ≠ q % 6)
  · rw [if_pos g, if_neg i10, HR (k := 21) W hS.1 rfl, bnd_s, stepM_eq W hS hb (by omega), bnd_s, if_neg (by decide), if_pos g]
    by_cases g2 : stp b i ≤ code
    · have hp := stp_pos b i
      have h113 : shT sh T 115 = sC (aL 14400 T) := uS_same _ _ _
      have hx : 36 * (code - stp b i) + 6 * i + q / 6 < 14400 := by omega
      rw [if_pos g2, pk_sub g2, show (36 : Int32) = nI 36 from rfl, pk_mul, pk_mul, nI_add, nI_add, HLL W h113 hx (by omega), bnd_s, show 36 * (code - stp b i) + 6 * i + q / 6 = 36 * (code - stp b i) + (6 * i + q / 6) by omega, hT _ (by omega) i (q / 6) (by omega) (by omega)]
    · rw [if_neg g2]
  · rw [if_neg g, if_pos rfl, if_neg g]
theorem mostOf_eq (hA : WFA A) (J : Jn n A y sh c z) (hz : sum5 b 5 < 12) (hb : ∀ k, k < 5 → c 111 k = nI (b k)) : ∃ T c', f_X7_mostOf 99 (HH sh c z) = some (nI (DV false (asL A) b (stp b 5 - 1) (mvL (asV A)) (mvA (asV A))), HH (shT sh T) c' z) ∧ (∀ a, a ≠ 110 → c' a = c a) ∧ TL false (asL A) b T (stp b 5) := by
  have hsz := size_le hz
  have hsp := stp_pos b 5
  have hV := hA.2.2.2.1
  unfold f_X7_mostOf
  rw [HG J.1 J.2.2.2.2.1.1, bnd_s, sizeM_eq J.1 J.2.2.2.2.1 hb, bnd_s]
  obtain ⟨T0, e0⟩ := J.tb
  refine wl2_fuel (fun i x h => x = nI i ∧ ∃ T c', h = HH (shT sh T) c' z ∧ (∀ a, a ≠ 110 → c' a = c a) ∧ TL false (asL A) b T i) (stp b 5) (by omega) (fun t => ∃ T c', t = some (nI (DV false (asL A) b (stp b 5 - 1) (mvL (asV A)) (mvA (asV A))), HH (shT sh T) c' z) ∧ (∀ a, a ≠ 110 → c' a = c a) ∧ TL false (asL A) b T (stp b 5)) ?_ _ _ ⟨rfl, T0, c, congrArg (fun s => HH s c z) e0, fun _ _ => rfl, fun q hq => absurd hq (by omega)⟩
  intro rec i x h hi hx
  obtain ⟨rfl, T1, c1, rfl, f1, t1⟩ := hx
  have J1 : Jn n A y (shT sh T1) c1 z := (J.tab T1).cc hA (Kp.of (fun a q => f1 a (by omega)))
  have hb1 : ∀ k, k < 5 → c1 111 k = nI (b k) := fun k hk => by rw [f1 111 (by omega)]; exact hb k hk
  rcases Nat.lt_or_ge i (stp b 5) with hlt | hlt
  · refine Or.inl ⟨hlt, ?_⟩
    rw [if_neg (nI_ge hlt (by omega))]
    obtain ⟨c2, e2, f2, d2⟩ := counted_eq J1.1 J1.2.2.2.2.1 hz hb1 hlt
    rw [e2, bnd_s]
    have f2' : ∀ a, a ≠ 110 → c2 a = c a := fun a ha => by rw [f2 a ha, f1 a ha]
    have hb2 : ∀ k, k < 5 → c2 111 k = nI (b k) := fun k hk => by rw [f2' 111 (by omega)]; exact hb k hk
    have Jc : Jn n A y sh c2 z := J.cc hA (Kp.of (fun a q => f2' a (by omega)))
    refine wl2_fuel (fun q x h => x = nI q ∧ ∃ T, h = HH (shT sh T) c2 z ∧ TL false (asL A) b T i ∧ ∀ p, p < q → T (36 * i + p) = lN (DV false (asL A) b i (p / 6) (p % 6))) 36 (by omega) (fun t => ∃ y1 y3, (y1 = nI (i + 1) ∧ ∃ T c', y3 = HH (shT sh T) c' z ∧ (∀ a, a ≠ 110 → c' a = c a) ∧ TL false (asL A) b T (i + 1)) ∧ t = rec y1 y3) ?_ _ _ ⟨rfl, T1, rfl, t1, fun p hp => absurd hp (by omega)⟩
    intro rec2 q x h hq hx
    obtain ⟨rfl, T3, rfl, t3, u3⟩ := hx
    rcases Nat.lt_or_ge q 36 with hq6 | hq6
    · refine Or.inl ⟨hq6, ?_⟩
      have JT := Jc.tab T3
      have W := JT.1
      have hS := JT.2.2.2.2.1
      rw [if_neg (t36_ge hq6)]
      refine wl2_fuel (fun k v x => v = lN (dpF false (asL A) b (DV false (asL A) b) i (q / 6) (q % 6) k) ∧ x = nI k) 5 (by omega) (fun t => ∃ y1 y3, (y1 = nI (q + 1) ∧ ∃ T, y3 = HH (shT sh T) c2 z ∧ TL false (asL A) b T i ∧ ∀ p, p < q + 1 → T (36 * i + p) = lN (DV false (asL A) b i (p / 6) (p % 6))) ∧ t = rec2 y1 y3) ?_ _ _ ⟨rfl, rfl⟩
      intro rec3 k v x hk hx
      obtain ⟨rfl, rfl⟩ := hx
      rcases Nat.lt_or_ge k 5 with hk5 | hk5
      · refine Or.inl ⟨hk5, ?_⟩
        have hd := dig_lt b k i
        have hbk : b k ≤ 324 := by
          have h1 := stp5_le (b := b) (k := k + 1) (by omega) hz
          simp only [stp] at h1
          have h2 := Nat.le_mul_of_pos_left (b k + 1) (stp_pos b k)
          omega
        rw [if_neg (five_ge hk5), HR (k := 16) W hS.1 rfl, bnd_s, HL W hS.rb.1 hk5 (by omega), bnd_s, d2 k hk5]
        simp only [jn1_s]
        by_cases g1 : 0 < dig b k i
        · rw [if_neg (nI_nle g1 (by omega)), cell_eq false hA Jc hz hb2 hlt hq6 hk5 t3]
          by_cases g2 : k ≠ q / 6 ∧ (asL A = 0 ∨ k ≠ q % 6)
          · rw [if_pos g2, if_pos (dig_le g1), nm_s, show (1 : Int64) = lN 1 from rfl, lN_add]
            have q1 := dpF_lt (b := b) (law := asL A) (code := i) (l := q / 6) (a := q % 6) k
            have q2 := DV_le (asL A) b (i - stp b k) k (q / 6)
            rw [show (nI k + 1) = nI (k + 1) from nI_1 k]
            by_cases g3 : 1 + DV false (asL A) b (i - stp b k) k (q / 6) ≤ dpF false (asL A) b (DV false (asL A) b) i (q / 6) (q % 6) k
            · rw [if_pos (by rw [lg_le, lN_le (by omega) (by omega)]; exact g3)]
              refine ⟨_, _, ⟨rfl, rfl⟩, ?_⟩
              simp only [dpF]
              rw [if_pos ⟨g1, g2⟩]
              simp only [Bool.false_eq_true, if_false]
              rw [Nat.max_eq_left g3]
            · rw [if_neg (by rw [lg_le, lN_le (by omega) (by omega)]; exact g3)]
              refine ⟨_, _, ⟨rfl, rfl⟩, ?_⟩
              simp only [dpF]
              rw [if_pos ⟨g1, g2⟩]
              simp only [Bool.false_eq_true, if_false]
              rw [Nat.max_eq_right (by omega)]
          · rw [if_neg g2, nI_1]
            refine ⟨_, _, ⟨rfl, rfl⟩, ?_⟩
            simp only [dpF]
            rw [if_neg (fun r => g2 r.2)]
        · rw [show dig b k i = 0 by omega, if_pos (by decide), nI_1]
          refine ⟨_, _, ⟨rfl, rfl⟩, ?_⟩
          simp only [dpF]
          rw [if_neg (fun r => g1 r.1)]
      · refine Or.inr ?_
        have h113 : shT sh T3 115 = sC (aL 14400 T3) := uS_same _ _ _
        have hx : 36 * i + q < 14400 := by omega
        rw [if_pos (five_le hk5 (by omega)), HR (k := 21) W hS.1 rfl, bnd_s, show (36 : Int32) = nI 36 from rfl, pk_mul, nI_add, HSL W h113 hx (by omega), bnd_s, uS_uS, nI_1, show k = 5 by omega, ← DV_eq]
        refine ⟨_, _, ⟨rfl, _, rfl, TL_put t3 hq6, ?_⟩, rfl⟩
        intro p hp
        rcases Nat.lt_or_ge p q with g | g
        · rw [pk_uLn (by omega)]; exact u3 p g
        · rw [show p = q by omega, pk_uLs]
    · refine Or.inr ?_
      rw [if_pos (t36_le hq6 (by omega)), nI_1]
      refine ⟨_, _, ⟨rfl, T3, c2, rfl, f2', ?_⟩, rfl⟩
      intro q' hq' l a hl ha
      rcases Nat.lt_or_ge q' i with g | g
      · exact t3 q' g l a hl ha
      · rw [show q' = i by omega, u3 (6 * l + a) (by omega), show (6 * l + a) / 6 = l by omega, show (6 * l + a) % 6 = a by omega]
  · refine Or.inr ?_
    have ei : i = stp b 5 := by omega
    subst ei
    have W := J1.1
    have hS := J1.2.2.2.2.1
    have hsl := J1.2.2.2.2.2.2.2.2.2.2.2.2.2.1
    have h52 : c1 104 52 = nI (mvL (asV A)) := hsl.2.2.2.1
    have h53 : c1 104 53 = nI (mvA (asV A)) := hsl.2.2.2.2.1
    have l5 := hV.2.2.1
    have a5 := hV.2.2.2.1
    have h113 : shT sh T1 115 = sC (aL 14400 T1) := uS_same _ _ _
    have hx : 36 * (stp b 5 - 1) + 6 * mvL (asV A) + mvA (asV A) < 14400 := by omega
    rw [if_pos (nI_le (Nat.le_refl _) (by omega)), HR (k := 21) W hS.1 rfl, bnd_s, HR (k := 6) W hS.1 rfl, bnd_s, show (52 : Int32) = nI 52 from rfl, slotR W hS (by omega), bnd_s, h52, bnd_s, show (53 : Int32) = nI 53 from rfl, slotR W hS (by omega), bnd_s, h53, show (1 : Int32) = nI 1 from rfl, pk_sub hsp, show (36 : Int32) = nI 36 from rfl, show (6 : Int32) = nI 6 from rfl, pk_mul, pk_mul, nI_add, nI_add, HLL W h113 hx (by omega), bnd_s, show 36 * (stp b 5 - 1) + 6 * mvL (asV A) + mvA (asV A) = 36 * (stp b 5 - 1) + (6 * mvL (asV A) + mvA (asV A)) by omega, t1 _ (by omega) _ _ l5 a5, lN_i]
    exact ⟨T1, c1, rfl, f1, t1⟩
end MO
