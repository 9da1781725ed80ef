/-! ===== halved ===== -/
/-- sack i halved: s of its size become sack n -/
def halD (D : Nat → Nat → Nat) (n i s : Nat) : Nat → Nat → Nat := fun a b => if a = n then (if b = 1 then s else D i b) else if a = i ∧ b = 1 then D i 1 - s else D a b
section HA
variable {n : Nat} {h : Hp} {A : AS} {sh sh' : Nat → Shp} {c c' : Nat → Nat → Int32} {z : Nat × Nat}
theorem op_halve (hI : Inv n h) (x y0 : Int32) : ∃ r h1 h2, f_X6_halve 0 x y0 h = some (r, h1) ∧ f_X7_halve 99 x y0 h1 = some (r, h2) ∧ Inv (n + 1) h2 := by
  obtain ⟨A, sh, c, z, rfl, hA, hC, hS, hR⟩ := hI
  obtain ⟨y, W, hs, hb, hc⟩ := id hC
  have hcm := hc.2.2.2.2.2.2.1
  have hV := hA.2.2.2.1
  have hV1 := hV.1
  have same : Inv (n + 1) (HH sh c z) := ⟨A, sh, c, z, rfl, hA, hC.more, hS, hR⟩
  rcases i_cases x (mvN (asV A)) (by omega) with ⟨j, hj, rfl⟩ | hx
  · have h10 : j < 10 := by omega
    have hd := hV.2.1 j hj
    by_cases hy : 1 ≤ y0.toInt ∧ y0.toInt ≤ 8
    · obtain ⟨s, hs8, rfl⟩ : ∃ s, s ≤ 8 ∧ y0 = nI s := nI_of2 (M := 8) rfl (by rw [i_lt, show (0 : Int32).toInt = 0 from rfl]; omega) (by rw [i_le, show (8 : Int32).toInt = 8 from rfl]; omega)
      rw [nI_T _ (by omega)] at hy
      have y1 : ¬ nI s < 1 := nI_nlt (b := 1) (by omega) (by omega)
      have y9 : nI s < 9 := nI_lt (b := 9) (by omega) (by omega)
      have yin : f_X7_in (nI s).toInt64 1 8 = some 1 := in_n (lo := 1) (hi := 8) 1 8 rfl rfl (by omega) (by omega) (by omega)
      by_cases h0 : mvD (asV A) j 4 = 0
      · by_cases hsz : s < mvD (asV A) j 1
        · by_cases hn : mvN (asV A) < 10
          · obtain ⟨sh1, c1, e1, W1, hs1, hc1, fc1, fs1, f01⟩ := remember_eq W hs hc hA
            have hcm1 : CM c1 10 (asL A) (asP A) (asV A) := hc1.2.2.2.2.2.2.1
            obtain ⟨q1, q2, q3, q4, q5, q6, q7, q8⟩ := id hcm1
            let N := mvN (asV A)
            let D := mvD (asV A)
            let ca := u2 (u2 (u2 (u2 (u2 (u2 c1 11 N (nI (D j 0))) 12 N (nI s)) 13 N (nI (D j 2))) 14 N (nI (D j 3))) 15 N 0) 10 2 (nI (N + 1))
            let c2 := u2 (u2 ca 12 j (nI (D j 1 - s))) 10 11 (nI (mvC (asV A) + asP A))
            have eadd : f_X2_add 10 (nI (D j 0)) (nI s) (nI (D j 2)) (nI (D j 3)) (HH sh1 c1 z) = some (HH sh1 ca z) := by
              unfold f_X2_add
              rw [HG W1 hs1.m10.1, bnd_s, HI (k := 2) W1 hs1.m10.1 rfl, bnd_s, q3, if_pos (show nI N < 10 from nI_lt (b := 10) hn (by omega)), HR (k := 3) W1 hs1.m10.1 rfl, bnd_s, bnd_s, HS W1 hs1.m10.row.1 (show N < 10 from hn) (by omega), bnd_s]
              rw [HR (k := 4) W1 hs1.m10.1 rfl, bnd_s, HI (k := 2) W1 hs1.m10.1 rfl, bnd_s, u2_ne _ _ (Or.inl (by decide)), q3, HS W1 hs1.m10.row.2.1 (show N < 10 from hn) (by omega), bnd_s]
              rw [HR (k := 5) W1 hs1.m10.1 rfl, bnd_s, HI (k := 2) W1 hs1.m10.1 rfl, bnd_s, u2_ne _ _ (Or.inl (by decide)), u2_ne _ _ (Or.inl (by decide)), q3, HS W1 hs1.m10.row.2.2.1 (show N < 10 from hn) (by omega), bnd_s]
              rw [HR (k := 6) W1 hs1.m10.1 rfl, bnd_s, HI (k := 2) W1 hs1.m10.1 rfl, bnd_s, u2_ne _ _ (Or.inl (by decide)), u2_ne _ _ (Or.inl (by decide)), u2_ne _ _ (Or.inl (by decide)), q3, HS W1 hs1.m10.row.2.2.2.1 (show N < 10 from hn) (by omega), bnd_s]
              rw [HR (k := 7) W1 hs1.m10.1 rfl, bnd_s, HI (k := 2) W1 hs1.m10.1 rfl, bnd_s, u2_ne _ _ (Or.inl (by decide)), u2_ne _ _ (Or.inl (by decide)), u2_ne _ _ (Or.inl (by decide)), u2_ne _ _ (Or.inl (by decide)), q3, HS W1 hs1.m10.row.2.2.2.2 (show N < 10 from hn) (by omega), bnd_s]
              rw [HI (k := 2) W1 hs1.m10.1 rfl, bnd_s, u2_ne _ _ (Or.inl (by decide)), u2_ne _ _ (Or.inl (by decide)), u2_ne _ _ (Or.inl (by decide)), u2_ne _ _ (Or.inl (by decide)), u2_ne _ _ (Or.inl (by decide)), q3, nI_1, HP (k := 2) W1 hs1.m10.1 rfl, bnd_s]
              rfl
            have ca12 : ca 12 j = nI (D j 1) := by
              simp only [ca]
              rw [u2_ne _ _ (Or.inl (by decide)), u2_ne _ _ (Or.inl (by decide)), u2_ne _ _ (Or.inl (by decide)), u2_ne _ _ (Or.inl (by decide)), u2_ne _ _ (Or.inr (by omega)), u2_ne _ _ (Or.inl (by decide))]
              exact (hcm1.at hj).2.1
            have ca10 : ∀ k, k ≠ 2 → ca 10 k = c1 10 k := fun k hk => by
              simp only [ca]
              rw [u2_ne _ _ (Or.inr hk), u2_ne _ _ (Or.inl (by decide)), u2_ne _ _ (Or.inl (by decide)), u2_ne _ _ (Or.inl (by decide)), u2_ne _ _ (Or.inl (by decide)), u2_ne _ _ (Or.inl (by decide))]
            have epart : f_X2_part 10 (nI j) (nI s) (HH sh1 c1 z) = some (HH sh1 c2 z) := by
              unfold f_X2_part
              rw [HG W1 hs1.m10.1, bnd_s, has_in W1 hs1.m10 hcm1 hV1 hj, bnd_s, if_neg i10, HR (k := 3) W1 hs1.m10.1 rfl, bnd_s, HL W1 hs1.m10.row.1 h10 (by omega), bnd_s, (hcm1.at hj).1, HR (k := 5) W1 hs1.m10.1 rfl, bnd_s, HL W1 hs1.m10.row.2.2.1 h10 (by omega), bnd_s, (hcm1.at hj).2.2.1, HR (k := 6) W1 hs1.m10.1 rfl, bnd_s, HL W1 hs1.m10.row.2.2.2.1 h10 (by omega), bnd_s, (hcm1.at hj).2.2.2.1, eadd, bnd_s]
              rw [HR (k := 4) W1 hs1.m10.1 rfl, bnd_s, HL W1 hs1.m10.row.2.1 h10 (by omega), bnd_s, ca12, pk_sub (show s ≤ mvD (asV A) j 1 by omega), HS W1 hs1.m10.row.2.1 h10 (by omega), bnd_s]
              rw [HI (k := 11) W1 hs1.m10.1 rfl, bnd_s, HI (k := 1) W1 hs1.m10.1 rfl, bnd_s, u2_ne _ _ (Or.inl (by decide)), u2_ne _ _ (Or.inl (by decide)), ca10 11 (by decide), ca10 1 (by decide), q8, q2, nI_add, HP (k := 11) W1 hs1.m10.1 rfl, bnd_s]
              rfl
            have e6 : f_X6_halve 0 (nI j) (nI s) (HH sh c z) = some (nI N, HH sh1 c2 z) := by
              unfold f_X6_halve
              rw [HG W hs.1, bnd_s, HR (k := 4) W hs.1 rfl, bnd_s, has_in W hs.m10 hcm hV1 hj, bnd_s, jn0_s, if_neg i10, if_neg y1, if_pos y9, bnd_s, waits_in W hs.m10 hcm hV hj, bnd_s, if_pos h0, jn0_s, if_neg i10, bnd_s, HR (k := 4) W hs.m10.1 rfl, bnd_s, HL W hs.m10.row.2.1 h10 (by omega), bnd_s, (hcm.at hj).2.1, if_pos (show nI s < nI (mvD (asV A) j 1) from nI_lt hsz (by omega)), bnd_s, HI (k := 2) W hs.m10.1 rfl, bnd_s, hcm.2.2.1, if_pos (show nI (mvN (asV A)) < 10 from nI_lt (b := 10) hn (by omega)), e1, bnd_s, HR (k := 4) W1 hs1.1 rfl, bnd_s, epart, bnd_s, HR (k := 4) W1 hs1.1 rfl, bnd_s, HI (k := 2) W1 hs1.m10.1 rfl, bnd_s]
              have e2 : c2 10 2 = nI (N + 1) := by
                simp only [c2]
                rw [u2_ne _ _ (Or.inr (by decide)), u2_ne _ _ (Or.inl (by decide))]
                simp only [ca]
                rw [u2_same]
              rw [e2, nI_pred]
            have f2 : ∀ b, (b < 10 ∨ 16 ≤ b) → c2 b = c1 b := fun b g1 => by
              simp only [c2, ca]
              rw [u2_other _ _ _ (by omega), u2_other _ _ _ (by omega), u2_other _ _ _ (by omega), u2_other _ _ _ (by omega), u2_other _ _ _ (by omega), u2_other _ _ _ (by omega), u2_other _ _ _ (by omega), u2_other _ _ _ (by omega)]
            have fM : FrM sh c sh1 c2 := fun b g1 g2 => ⟨fs1 b (by omega), by rw [f2 b (by omega), fc1 b (by omega) (by omega)]⟩
            have hS1 := hS.kept fM
            have hR1 := hR.kept fM
            obtain ⟨d, k1, k2, k3⟩ := known_eq W1 hS1 hR1 hA
            have hsl : SlM (d 104) 0 (asV A) := k2.2.2.2.2.2.2.2.2.1
            have hd50 : d 104 50 = nI N := hsl.2.1
            have hd54 : d 104 54 = nI (mvC (asV A)) := hsl.2.2.2.2.2
            have hd99 : d 101 1 = nI (asP A) := k2.2.2.2.2.2.2.2.1
            have hc50 : c2 104 50 = nI N := hR1.2.2.2.2.2.2.2.2.1.2.1
            -- the row of the new sack, place by place
            let rw5 : Nat → Nat → Int32 := fun i k => if 5 * N ≤ k ∧ k < 5 * N + i then d 104 (5 * j + (k - 5 * N)) else d 104 k
            let d2 := u2 (u2 (u2 (u2 (uR d 104 (rw5 5)) 104 (5 * N + 1) (nI s)) 104 (5 * j + 1) (nI (D j 1 - s))) 104 50 (nI (N + 1))) 104 54 (nI (mvC (asV A) + asP A))
            have e7 : f_X7_halve 99 (nI j) (nI s) (HH sh1 c2 z) = some (nI N, HH sh1 d2 z) := by
              unfold f_X7_halve
              rw [HG W1 hS1.1, bnd_s, isSack_in W1 hS1 hR1 hV hj, bnd_s, jn0_s, if_neg i10, yin, bnd_s, if_neg i10, isWaiting_in W1 hS1 hR1 hV hj, bnd_s, if_pos h0, jn0_s, if_neg i10, show f_X7_of 99 (nI j) 1 _ = _ from of_in (w := 1) W1 hS1 hR1 hV hj (by omega), bnd_s, if_pos (show nI s < nI (mvD (asV A) j 1) from nI_lt hsz (by omega)), HR (k := 6) W1 hS1.1 rfl, bnd_s, show ldI 0 (HH sh1 c2 z) 104 50 = _ from slotR (k := 50) W1 hS1 (by omega), bnd_s, hc50, if_neg (show ¬ nI N = 10 by rw [show (10 : Int32) = nI 10 from rfl, neq (by omega) (by omega)]; omega), k1, bnd_s]
              refine wl2_fuel (fun i x h => x = nI i ∧ h = HH sh1 (uR d 104 (rw5 i)) z) 5 (by omega) (fun t => t = some (nI N, HH sh1 d2 z)) ?_ _ _ ⟨rfl, ?_⟩
              · intro rec i x h hi hx
                obtain ⟨rfl, rfl⟩ := hx
                rcases Nat.lt_or_ge i 5 with hl | hl
                · refine Or.inl ⟨hl, _, _, ⟨rfl, rfl⟩, ?_⟩
                  rw [if_neg (show ¬ (5 : Int32) ≤ nI i from nI_ge (b := 5) hl (by omega)), HR (k := 6) W1 hS1.1 rfl, bnd_s, of_raw W1 hS1 (show 5 * j + i < 605 by omega), bnd_s, uR_same, show (5 : Int32) = nI 5 from rfl, pk_mul, nI_add, HS W1 hS1.2.2.2.2.2.1 (show 5 * N + i < 605 by omega) (by omega), bnd_s, nI_1]
                  congr 2
                  funext q
                  by_cases hq : q = 104
                  · rw [hq, u2_row, uR_same, uR_same]
                    funext k
                    simp only [upd, nrw, rw5]
                    by_cases g : k = 5 * N + i
                    · rw [if_pos g, if_neg (by omega), if_pos (by omega), g]
                      congr 1
                      omega
                    · rw [if_neg g]
                      by_cases g2 : 5 * N ≤ k ∧ k < 5 * N + i
                      · rw [if_pos g2, if_pos (by omega)]
                      · rw [if_neg g2, if_neg (by omega)]
                  · rw [u2_other _ _ _ hq, uR_other _ _ hq, uR_other _ _ hq]
                · refine Or.inr ?_
                  have e5 : i = 5 := by omega
                  subst e5
                  rw [if_pos (show (5 : Int32) ≤ nI 5 by decide)]
                  simp only [HR (k := 6) W1 hS1.1 rfl, HR (k := 3) W1 hS1.1 rfl, bnd_s]
                  rw [show (5 : Int32) = nI 5 from rfl, show (1 : Int32) = nI 1 from rfl, show (50 : Int32) = nI 50 from rfl, show (54 : Int32) = nI 54 from rfl, pk_mul, pk_mul, nI_add, nI_add, HS W1 hS1.2.2.2.2.2.1 (show 5 * N + 1 < 605 by omega) (by omega), bnd_s]
                  simp only [HR (k := 6) W1 hS1.1 rfl, HR (k := 3) W1 hS1.1 rfl, bnd_s, nrw]
                  rw [slotR W1 hS1 (show 5 * j + 1 < 605 by omega), bnd_s, u2_ne _ _ (Or.inr (show 5 * j + 1 ≠ 5 * N + 1 by omega)), uR_same]
                  have e1' : rw5 5 (5 * j + 1) = nI (D j 1) := by
                    simp only [rw5]
                    rw [if_neg (by omega)]
                    exact hsl.at hj (by omega)
                  rw [e1', pk_sub (show s ≤ mvD (asV A) j 1 by omega), HS W1 hS1.2.2.2.2.2.1 (show 5 * j + 1 < 605 by omega) (by omega), bnd_s]
                  simp only [HR (k := 6) W1 hS1.1 rfl, HR (k := 3) W1 hS1.1 rfl, bnd_s, nrw]
                  rw [slotR W1 hS1 (show 50 < 605 by omega), bnd_s, u2_ne _ _ (Or.inr (show 50 ≠ 5 * j + 1 by omega)), u2_ne _ _ (Or.inr (show 50 ≠ 5 * N + 1 by omega)), uR_same]
                  have e2' : rw5 5 50 = nI N := by
                    simp only [rw5]
                    rw [if_neg (by omega)]
                    exact hd50
                  rw [e2', nI_add, HS W1 hS1.2.2.2.2.2.1 (show 50 < 605 by omega) (by omega), bnd_s]
                  simp only [HR (k := 6) W1 hS1.1 rfl, HR (k := 3) W1 hS1.1 rfl, bnd_s, nrw]
                  rw [slotR W1 hS1 (show 54 < 605 by omega), bnd_s, u2_ne _ _ (Or.inr (show (54 : Nat) ≠ 50 by decide)), u2_ne _ _ (Or.inr (show 54 ≠ 5 * j + 1 by omega)), u2_ne _ _ (Or.inr (show 54 ≠ 5 * N + 1 by omega)), uR_same]
                  have e3' : rw5 5 54 = nI (mvC (asV A)) := by
                    simp only [rw5]
                    rw [if_neg (by omega)]
                    exact hd54
                  rw [e3', HL W1 hS1.2.2.1 (show 1 < 4 by omega) (by omega), bnd_s, u2_ne _ _ (Or.inl (show (101 : Nat) ≠ 104 by decide)), u2_ne _ _ (Or.inl (show (101 : Nat) ≠ 104 by decide)), u2_ne _ _ (Or.inl (show (101 : Nat) ≠ 104 by decide)), uR_other _ _ (show (101 : Nat) ≠ 104 by decide), hd99, nI_add, HS W1 hS1.2.2.2.2.2.1 (show 54 < 605 by omega) (by omega), bnd_s]
                  rfl
              · congr 1
                funext q
                by_cases hq : q = 104
                · rw [hq, uR_same]
                  funext k
                  simp only [rw5]
                  rw [if_neg (by omega)]
                · rw [uR_other _ _ hq]
            refine ⟨_, _, _, e6, e7, ?_⟩
            let V' : MV := (N + 1, halD D N j s, mvH (asV A), mvL (asV A), mvA (asV A), mvC (asV A) + asP A)
            have hDn : ∀ a b, a < N → halD D N j s a b = if a = j ∧ b = 1 then D j 1 - s else D a b := fun a b ha => by
              unfold halD
              rw [if_neg (by omega)]
            have hDN : ∀ b, halD D N j s N b = if b = 1 then s else D j b := fun b => by
              unfold halD
              rw [if_pos rfl]
            have hV' : WFV V' := by
              refine ⟨by show N + 1 ≤ 10; omega, fun i hi => ?_, hV.2.2.1, hV.2.2.2.1, ?_, trivial⟩
              · have hi : i < N + 1 := hi
                show halD D N j s i 0 < 5 ∧ 1 ≤ halD D N j s i 1 ∧ halD D N j s i 1 ≤ 9 ∧ halD D N j s i 2 < 5 ∧ halD D N j s i 3 ≤ 99 ∧ halD D N j s i 4 ≤ 2
                rcases Nat.lt_or_ge i N with g | g
                · have hdi := hV.2.1 i g
                  rw [hDn i 0 g, hDn i 1 g, hDn i 2 g, hDn i 3 g, hDn i 4 g, if_neg (show ¬ (i = j ∧ 0 = 1) by omega), if_neg (show ¬ (i = j ∧ 2 = 1) by omega), if_neg (show ¬ (i = j ∧ 3 = 1) by omega), if_neg (show ¬ (i = j ∧ 4 = 1) by omega)]
                  by_cases g2 : i = j
                  · rw [if_pos ⟨g2, rfl⟩]
                    refine ⟨hdi.1, ?_, ?_, hdi.2.2.2.1, hdi.2.2.2.2.1, hdi.2.2.2.2.2⟩
                    · show 1 ≤ mvD (asV A) j 1 - s; omega
                    · show mvD (asV A) j 1 - s ≤ 9; omega
                  · rw [if_neg (show ¬ (i = j ∧ 1 = 1) by omega)]; exact hdi
                · rw [show i = N by omega, hDN 0, hDN 1, hDN 2, hDN 3, hDN 4, if_neg (show ¬ (0 = 1) by omega), if_pos (show 1 = 1 from rfl), if_neg (show ¬ (2 = 1) by omega), if_neg (show ¬ (3 = 1) by omega), if_neg (show ¬ (4 = 1) by omega)]
                  exact ⟨hd.1, by omega, by omega, hd.2.2.2.1, hd.2.2.2.2.1, hd.2.2.2.2.2⟩
              · show mvH (asV A) ≤ 99 + pSum (halD D N j s) (N + 1)
                have e := pSum_congr D (halD D N j s) N (fun i hi => by
                  rw [hDn i 4 hi, hDn i 1 hi, if_neg (by omega)]
                  refine ⟨Iff.rfl, fun g => ?_⟩
                  rw [if_neg]
                  intro q
                  rw [q.1] at g
                  have : mvD (asV A) j 4 = 1 := g
                  omega)
                simp only [pSum, e]
                have := hV.2.2.2.2.1
                have hp : pSum D N = pSum (mvD (asV A)) (mvN (asV A)) := rfl
                omega
            have fin : ∀ b, b < 99 → d2 b = c2 b := fun b hb => by
              simp only [d2]
              rw [u2_other _ _ _ (by omega), u2_other _ _ _ (by omega), u2_other _ _ _ (by omega), u2_other _ _ _ (by omega), uR_other _ _ (by omega), k3 b (by omega) (by omega)]
            have hA1 := hA.rem
            refine ⟨(asX A, asT A, asL A, asP A, V', asU (asRem A), asD (asRem A), asK A, asE A, asQ A, asN A), sh1, _, z, rfl, ⟨hA1.1, hA1.2.1, hA1.2.2.1, hV', hA1.2.2.2.2.1, hA1.2.2.2.2.2.1, hA1.2.2.2.2.2.2.1, hA1.2.2.2.2.2.2.2.1, hA1.2.2.2.2.2.2.2.2.1, fun i hi => ?_, hA1.2.2.2.2.2.2.2.2.2.2⟩, ⟨y, W1, hs1, ⟨hb.1, by have := hb.2.1; omega, by have := hb.2.2; omega⟩, ?_⟩, hS1, ?_⟩
            · have hi : i < asN A := hi
              have hq := hA.2.2.2.2.2.2.2.2.2.1 i hi
              refine ⟨by show asQ A i < N + 1; have := hq.1; omega, ?_⟩
              show halD D N j s (asQ A i) 4 = 0
              rw [hDn _ _ hq.1, if_neg (by omega)]
              exact hq.2
            · refine ClsR.setV hA1 hc1 V' (asN A) (Nat.le_refl _) (fun b g1 g2 g3 => ?_) (fun j hj => ?_) ?_ ?_
              · rw [fin b g3, f2 b g2]
              · rw [fin 0 (by omega), f2 0 (by omega)]
              · rw [fin 0 (by omega), f2 0 (by omega)]; exact hc1.2.2.2.2.1
              · have r10 : ∀ k, k ≠ 2 → k ≠ 11 → d2 10 k = c1 10 k := fun k g1 g2 => by
                  rw [fin 10 (by omega)]
                  simp only [c2]
                  rw [u2_ne _ _ (Or.inr g2), u2_ne _ _ (Or.inl (by decide)), ca10 k g1]
                refine ⟨by rw [r10 0 (by omega) (by omega)]; exact q1, by rw [r10 1 (by omega) (by omega)]; exact q2, ?_, fun i hi w hw => ?_, by rw [r10 8 (by omega) (by omega)]; exact q5, by rw [r10 9 (by omega) (by omega)]; exact q6, by rw [r10 10 (by omega) (by omega)]; exact q7, ?_⟩
                · rw [fin 10 (by omega)]
                  simp only [c2]
                  rw [u2_ne _ _ (Or.inr (by decide)), u2_ne _ _ (Or.inl (by decide))]
                  simp only [ca]
                  rw [u2_same]
                · have hi : i < N + 1 := hi
                  show _ = nI (halD D N j s i w)
                  rw [fin (10 + 1 + w) (by omega)]
                  simp only [c2]
                  rw [u2_ne _ _ (Or.inl (by omega))]
                  rcases Nat.lt_or_ge i N with g | g
                  · rw [hDn i w g]
                    have base : ca (10 + 1 + w) i = nI (D i w) := by
                      simp only [ca]
                      rw [u2_ne _ _ (Or.inl (by omega)), u2_ne _ _ (Or.inr (by omega)), u2_ne _ _ (Or.inr (by omega)), u2_ne _ _ (Or.inr (by omega)), u2_ne _ _ (Or.inr (by omega)), u2_ne _ _ (Or.inr (by omega))]
                      exact q4 i g w hw
                    by_cases g2 : i = j ∧ w = 1
                    · rw [if_pos g2, g2.1, g2.2]; exact u2_same _ _ _ _
                    · rw [if_neg g2, u2_ne _ _ (by omega)]; exact base
                  · have hiN : i = N := by omega
                    rw [hiN, hDN w, u2_ne _ _ (Or.inr (by omega))]
                    simp only [ca]
                    rcases (show w = 0 ∨ w = 1 ∨ w = 2 ∨ w = 3 ∨ w = 4 by omega) with rfl | rfl | rfl | rfl | rfl
                    · rw [if_neg (by omega), u2_ne _ _ (Or.inl (by omega)), u2_ne _ _ (Or.inl (by omega)), u2_ne _ _ (Or.inl (by omega)), u2_ne _ _ (Or.inl (by omega)), u2_ne _ _ (Or.inl (by omega))]; exact u2_same _ _ _ _
                    · rw [if_pos rfl, u2_ne _ _ (Or.inl (by omega)), u2_ne _ _ (Or.inl (by omega)), u2_ne _ _ (Or.inl (by omega)), u2_ne _ _ (Or.inl (by omega))]; exact u2_same _ _ _ _
                    · rw [if_neg (by omega), u2_ne _ _ (Or.inl (by omega)), u2_ne _ _ (Or.inl (by omega)), u2_ne _ _ (Or.inl (by omega))]; exact u2_same _ _ _ _
                    · rw [if_neg (by omega), u2_ne _ _ (Or.inl (by omega)), u2_ne _ _ (Or.inl (by omega))]; exact u2_same _ _ _ _
                    · rw [if_neg (by omega), u2_ne _ _ (Or.inl (by omega)), show D j 4 = 0 from h0]; exact u2_same _ _ _ _
                · rw [fin 10 (by omega)]
                  simp only [c2]
                  rw [u2_same]
            · have d2r : ∀ k, d2 104 k = if k = 54 then nI (mvC (asV A) + asP A) else if k = 50 then nI (N + 1) else if k = 5 * j + 1 then nI (D j 1 - s) else if k = 5 * N + 1 then nI s else rw5 5 k := by
                intro k
                simp only [d2]
                by_cases g0 : k = 54
                · rw [if_pos g0, g0, u2_same]
                · rw [if_neg g0, u2_ne _ _ (Or.inr g0)]
                  by_cases g1 : k = 50
                  · rw [if_pos g1, g1, u2_same]
                  · rw [if_neg g1, u2_ne _ _ (Or.inr g1)]
                    by_cases g2 : k = 5 * j + 1
                    · rw [if_pos g2, g2, u2_same]
                    · rw [if_neg g2, u2_ne _ _ (Or.inr g2)]
                      by_cases g3 : k = 5 * N + 1
                      · rw [if_pos g3, g3, u2_same]
                      · rw [if_neg g3, u2_ne _ _ (Or.inr g3), uR_same]
              refine ModR.setV hA1 k2 V' (asN A) (Nat.le_refl _) (fun b g1 g2 => ?_) (fun j hj => ?_) ?_ (fun k hk => ?_) ?_
              · simp only [d2]
                rw [u2_other _ _ _ g2, u2_other _ _ _ g2, u2_other _ _ _ g2, u2_other _ _ _ g2, uR_other _ _ g2]
              · simp only [d2]
                rw [u2_ne _ _ (Or.inl (by decide)), u2_ne _ _ (Or.inl (by decide)), u2_ne _ _ (Or.inl (by decide)), u2_ne _ _ (Or.inl (by decide)), uR_other _ _ (by decide)]
              · simp only [d2]
                rw [u2_ne _ _ (Or.inl (by decide)), u2_ne _ _ (Or.inl (by decide)), u2_ne _ _ (Or.inl (by decide)), u2_ne _ _ (Or.inl (by decide)), uR_other _ _ (by decide)]
                exact k2.2.2.2.2.1
              · rw [d2r, if_neg (by omega), if_neg (by omega), if_neg (by omega), if_neg (by omega)]
                simp only [rw5]
                rw [if_neg (by omega)]
              · obtain ⟨p1, p2, p3, p4, p5, p6⟩ := hsl
                refine ⟨fun i hi w hw => ?_, ?_, ?_, ?_, ?_, ?_⟩
                · have hi : i < N + 1 := hi
                  show _ = nI (halD D N j s i w)
                  rw [d2r, if_neg (by omega), if_neg (by omega)]
                  rcases Nat.lt_or_ge i N with g | g
                  · rw [hDn i w g]
                    by_cases g2 : i = j ∧ w = 1
                    · rw [if_pos (by omega), if_pos g2]
                    · rw [if_neg (by omega), if_neg (by omega), if_neg g2]
                      simp only [rw5]
                      rw [if_neg (by omega)]
                      exact p1 i g w hw
                  · have hiN : i = N := by omega
                    rw [hiN, hDN w, if_neg (by omega)]
                    by_cases g2 : w = 1
                    · rw [if_pos (by omega), if_pos g2]
                    · rw [if_neg (by omega), if_neg g2]
                      simp only [rw5]
                      rw [if_pos (by omega)]
                      have := p1 j hj w hw
                      rw [← show d 104 (55 * 0 + 5 * j + w) = nI (D j w) from this]
                      congr 1
                      omega
                · rw [d2r, if_neg (by omega), if_pos (by omega)]
                · rw [d2r, if_neg (by omega), if_neg (by omega), if_neg (by omega), if_neg (by omega)]
                  simp only [rw5]
                  rw [if_neg (by omega)]; exact p3
                · rw [d2r, if_neg (by omega), if_neg (by omega), if_neg (by omega), if_neg (by omega)]
                  simp only [rw5]
                  rw [if_neg (by omega)]; exact p4
                · rw [d2r, if_neg (by omega), if_neg (by omega), if_neg (by omega), if_neg (by omega)]
                  simp only [rw5]
                  rw [if_neg (by omega)]; exact p5
                · rw [d2r, if_pos (by omega)]
          · have hn10 : mvN (asV A) = 10 := by omega
            refine ⟨-3, HH sh c z, HH sh c z, ?_, ?_, same⟩
            · unfold f_X6_halve
              simp only [HG W hs.1, bnd_s, HR (k := 4) W hs.1 rfl, jn0_s]
              rw [has_in W hs.m10 hcm hV1 hj, bnd_s, if_neg i10, if_neg y1, if_pos y9, waits_in W hs.m10 hcm hV hj, bnd_s, if_pos h0, if_neg i10, HR (k := 4) W hs.m10.1 rfl, bnd_s, HL W hs.m10.row.2.1 h10 (by omega), bnd_s, (hcm.at hj).2.1, if_pos (show nI s < nI (mvD (asV A) j 1) from nI_lt hsz (by omega)), HI (k := 2) W hs.m10.1 rfl, bnd_s, hcm.2.2.1, if_neg (show ¬ nI (mvN (asV A)) < 10 from nI_nlt (b := 10) (by omega) (by omega))]
            · unfold f_X7_halve
              rw [HG W hS.1, bnd_s, isSack_in W hS hR hV hj, bnd_s, jn0_s, if_neg i10, yin, bnd_s, if_neg i10, isWaiting_in W hS hR hV hj, bnd_s, if_pos h0, jn0_s, if_neg i10, show f_X7_of 99 (nI j) 1 _ = _ from of_in (w := 1) W hS hR hV hj (by omega), bnd_s, if_pos (show nI s < nI (mvD (asV A) j 1) from nI_lt hsz (by omega)), HR (k := 6) W hS.1 rfl, bnd_s, show ldI 0 (HH sh c z) 104 50 = _ from slotR (k := 50) W hS (by omega), bnd_s, show c 104 50 = nI (mvN (asV A)) from hR.2.2.2.2.2.2.2.2.1.2.1, if_pos (show nI (mvN (asV A)) = 10 by rw [hn10]; rfl)]
        · refine ⟨-2, HH sh c z, HH sh c z, ?_, ?_, same⟩
          · unfold f_X6_halve
            simp only [HG W hs.1, bnd_s, HR (k := 4) W hs.1 rfl, jn0_s]
            rw [has_in W hs.m10 hcm hV1 hj, bnd_s, if_neg i10, if_neg y1, if_pos y9, waits_in W hs.m10 hcm hV hj, bnd_s, if_pos h0, if_neg i10, HR (k := 4) W hs.m10.1 rfl, bnd_s, HL W hs.m10.row.2.1 h10 (by omega), bnd_s, (hcm.at hj).2.1, if_neg (show ¬ nI s < nI (mvD (asV A) j 1) from nI_nlt (by omega) (by omega))]
          · unfold f_X7_halve
            rw [HG W hS.1, bnd_s, isSack_in W hS hR hV hj, bnd_s, jn0_s, if_neg i10, yin, bnd_s, if_neg i10, isWaiting_in W hS hR hV hj, bnd_s, if_pos h0, jn0_s, if_neg i10, show f_X7_of 99 (nI j) 1 _ = _ from of_in (w := 1) W hS hR hV hj (by omega), bnd_s, if_neg (show ¬ nI s < nI (mvD (asV A) j 1) from nI_nlt (by omega) (by omega))]
      · refine ⟨-2, HH sh c z, HH sh c z, ?_, ?_, same⟩
        · unfold f_X6_halve
          simp only [HG W hs.1, bnd_s, HR (k := 4) W hs.1 rfl, jn0_s]
          rw [has_in W hs.m10 hcm hV1 hj, bnd_s, if_neg i10, if_neg y1, if_pos y9, waits_in W hs.m10 hcm hV hj, bnd_s, if_neg h0, if_pos rfl]
        · unfold f_X7_halve
          rw [HG W hS.1, bnd_s, isSack_in W hS hR hV hj, bnd_s, jn0_s, if_neg i10, yin, bnd_s, if_neg i10, isWaiting_in W hS hR hV hj, bnd_s, if_neg h0, jn0_s, if_pos rfl]
    · refine ⟨-1, HH sh c z, HH sh c z, ?_, ?_, same⟩
      · unfold f_X6_halve
        simp only [HG W hs.1, bnd_s, HR (k := 4) W hs.1 rfl, jn0_s]
        rw [has_in W hs.m10 hcm hV1 hj, bnd_s, if_neg i10]
        by_cases g1 : y0 < 1
        · rw [if_pos g1]
        · rw [if_neg g1, if_neg]
          rw [i_lt, show (1 : Int32).toInt = 1 from rfl] at g1
          rw [i_lt, show (9 : Int32).toInt = 9 from rfl]
          omega
      · unfold f_X7_halve
        rw [HG W hS.1, bnd_s, isSack_in W hS hR hV hj, bnd_s, jn0_s, if_neg i10, in_no (by rw [show (1 : Int64).toInt = 1 from rfl, show (8 : Int64).toInt = 8 from rfl]; exact hy), bnd_s, if_pos rfl]
  · refine ⟨-1, HH sh c z, HH sh c z, ?_, ?_, same⟩
    · unfold f_X6_halve
      simp only [HG W hs.1, bnd_s, HR (k := 4) W hs.1 rfl, jn0_s]
      rw [has_out W hs.m10 hcm hx, bnd_s, if_pos rfl]
    · unfold f_X7_halve
      simp only [HG W hS.1, bnd_s, jn0_s]
      rw [isSack_out W hS hR hV hx, bnd_s, if_pos rfl]
end HA
