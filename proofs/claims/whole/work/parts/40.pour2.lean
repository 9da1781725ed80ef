/-! ===== poured ===== -/
section PP
variable {n : Nat} {h : Hp} {A : AS} {sh sh' : Nat → Shp} {c c' : Nat → Nat → Int32} {z : Nat × Nat}
theorem op_pour (hI : Inv n h) (x : Int32) : ∃ r h1 h2, f_X6_pour 0 x h = some (r, h1) ∧ f_X7_pour 99 x h1 = some (r, h2) ∧ Inv (n + 1) h2 := by
  obtain ⟨A, sh, c, z, rfl, hA, hC, hS, hR⟩ := hI
  obtain ⟨y, W, hs, hb, hc⟩ := id hC
  have hcm := hc.2.2.2.2.2.2.1
  have hV := hA.2.2.2.1
  have hV1 := hV.1
  have same : Inv (n + 1) (HH sh c z) := ⟨A, sh, c, z, rfl, hA, hC.more, hS, hR⟩
  rcases i_cases x (mvN (asV A)) (by omega) with ⟨j, hj, rfl⟩ | hx
  · have h10 : j < 10 := by omega
    have hd := hV.2.1 j hj
    have l1 := hV.2.2.1
    have l2 := hV.2.2.2.1
    have hL := hA.2.1
    have hH := hV.hour
    have hiff : (nI (mvD (asV A) j 0) = nI (mvL (asV A)) ∨ nI (mvD (asV A) j 0) = nI (if asL A = 1 then mvA (asV A) else 5)) ↔ ¬ (mvD (asV A) j 0 ≠ mvL (asV A) ∧ (asL A = 0 ∨ mvD (asV A) j 0 ≠ mvA (asV A))) := by
      rw [nI_eq (by omega) (by omega), nI_eq (by omega) (by split <;> omega)]
      split <;> omega
    by_cases h0 : mvD (asV A) j 4 = 0
    · by_cases hm : mvD (asV A) j 0 ≠ mvL (asV A) ∧ (asL A = 0 ∨ mvD (asV A) j 0 ≠ mvA (asV A))
      · obtain ⟨sh1, c1, e1, W1, hs1, hc1, fc1, fs1, f01⟩ := remember_eq W hs hc hA
        have hcm1 : CM c1 10 (asL A) (asP A) (asV A) := hc1.2.2.2.2.2.2.1
        let H' := max (mvH (asV A)) (mvD (asV A) j 3) + mvD (asV A) j 1
        let c2 := u2 (u2 (u2 (u2 (u2 c1 0 10 0) 10 8 (nI H')) 10 10 (nI (if asL A = 1 then mvL (asV A) else 5))) 10 9 (nI (mvD (asV A) j 0))) 15 j 1
        have hcm0 : CM (u2 c1 0 10 0) 10 (asL A) (asP A) (asV A) := hcm1.kept (fun b g1 g2 => u2_other _ _ _ (by omega))
        have eP : f_X2_setPoured 10 (nI j) (HH sh1 (u2 c1 0 10 0) z) = some (HH sh1 c2 z) := by
          unfold f_X2_setPoured
          rw [HG W1 hs1.m10.1, bnd_s, has_in W1 hs1.m10 hcm0 hV1 hj, bnd_s, if_neg i10]
          simp only [HI (k := 8) W1 hs1.m10.1 rfl, HI (k := 0) W1 hs1.m10.1 rfl, HI (k := 9) W1 hs1.m10.1 rfl, HP (k := 8) W1 hs1.m10.1 rfl, HP (k := 9) W1 hs1.m10.1 rfl, HP (k := 10) W1 hs1.m10.1 rfl, HR (k := 3) W1 hs1.m10.1 rfl, HR (k := 7) W1 hs1.m10.1 rfl, bnd_s]
          rw [hcm0.2.2.2.2.1, hourAfter_in W1 hs1.m10 hcm0 hV hj (by omega), bnd_s]
          rw [u2_ne _ _ (Or.inr (show (0 : Nat) ≠ 8 by decide)), u2_ne _ _ (Or.inr (show (9 : Nat) ≠ 8 by decide)), hcm0.1, hcm0.2.2.2.2.2.1, held_eq _ hL, bnd_s]
          try simp only [HP (k := 10) W1 hs1.m10.1 rfl, HP (k := 9) W1 hs1.m10.1 rfl, HR (k := 3) W1 hs1.m10.1 rfl, HR (k := 7) W1 hs1.m10.1 rfl, bnd_s]
          rw [HL W1 hs1.m10.row.1 h10 (by omega), bnd_s, u2_other _ _ _ (show (10 + 1 : Nat) ≠ 10 by decide), u2_other _ _ _ (show (10 + 1 : Nat) ≠ 10 by decide), (hcm0.at hj).1]
          try simp only [HP (k := 9) W1 hs1.m10.1 rfl, HR (k := 7) W1 hs1.m10.1 rfl, bnd_s]
          rw [HS W1 hs1.m10.row.2.2.2.2 h10 (by omega), bnd_s]
          have eh : (if asL A = 1 then nI (mvL (asV A)) else 5) = nI (if asL A = 1 then mvL (asV A) else 5) := by
            by_cases g : asL A = 1
            · simp only [if_pos g]
            · simp only [if_neg g]; rfl
          rw [eh]
          rfl
        have e6 : f_X6_pour 0 (nI j) (HH sh c z) = some (nI H', HH sh1 c2 z) := by
          unfold f_X6_pour
          rw [HG W hs.1, bnd_s, HR (k := 4) W hs.1 rfl, bnd_s, has_in W hs.m10 hcm hV1 hj, bnd_s, if_neg i10, bnd_s, waits_in W hs.m10 hcm hV hj, bnd_s, if_pos h0, jn0_s, if_neg i10, bnd_s, fitsNow_in W hs.m10 hcm hV1 hj, bnd_s, if_neg (fun q => hiff.mp q hm), if_neg i10, e1, bnd_s, HP (k := 10) W1 hs1.1 rfl, bnd_s, HR (k := 4) W1 hs1.1 rfl, bnd_s, eP, bnd_s, HR (k := 4) W1 hs1.1 rfl, bnd_s, HI (k := 8) W1 hs1.m10.1 rfl, bnd_s]
          have e8 : c2 10 8 = nI H' := by
            simp only [c2]
            rw [u2_ne _ _ (Or.inl (by decide)), u2_ne _ _ (Or.inr (by decide)), u2_ne _ _ (Or.inr (by decide)), u2_same]
          rw [e8]
        have f2 : ∀ b, b ≠ 0 → b ≠ 10 → b ≠ 15 → c2 b = c1 b := fun b g1 g2 g3 => by
          simp only [c2]
          rw [u2_other _ _ _ g3, u2_other _ _ _ g2, u2_other _ _ _ g2, u2_other _ _ _ g2, u2_other _ _ _ g1]
        have fM : FrM sh c sh1 c2 := fun b g1 g2 => ⟨fs1 b (by omega), by rw [f2 b (by omega) (by omega) (by omega), fc1 b (by omega) (by omega)]⟩
        have hS1 := hS.kept fM
        have hR1 := hR.kept fM
        obtain ⟨d, k1, k2, k3⟩ := known_eq W1 hS1 hR1 hA
        have hsl : SlM (d 104) 0 (asV A) := k2.2.2.2.2.2.2.2.2.1
        have hs51 : d 104 51 = nI (mvH (asV A)) := hsl.2.2.1
        have hs52 : d 104 52 = nI (mvL (asV A)) := hsl.2.2.2.1
        let d2 := u2 (u2 (u2 (u2 (u2 d 104 51 (nI H')) 104 53 (nI (mvL (asV A)))) 104 52 (nI (mvD (asV A) j 0))) 104 (5 * j + 4) 1) 99 9 0
        have e7 : f_X7_pour 99 (nI j) (HH sh1 c2 z) = some (nI H', HH sh1 d2 z) := by
          unfold f_X7_pour
          rw [HG W1 hS1.1, bnd_s, isSack_in W1 hS1 hR1 hV hj, bnd_s, if_neg i10, isWaiting_in W1 hS1 hR1 hV hj, bnd_s, if_pos h0, jn0_s, if_neg i10, mayNow_in W1 hS1 hR1 hA hj, bnd_s, if_pos hm, if_neg i10, k1, bnd_s]
          simp only [HR (k := 6) W1 hS1.1 rfl, bnd_s]
          rw [show (51 : Int32) = nI 51 from rfl, show (52 : Int32) = nI 52 from rfl, show (53 : Int32) = nI 53 from rfl, slotR W1 hS1 (show 51 < 605 by omega), bnd_s, hs51, ends_in W1 hS1 (A := asRem A) k2 hV hj (by omega), bnd_s, HS W1 hS1.2.2.2.2.2.1 (show 51 < 605 by omega) (by omega), bnd_s]
          simp only [HR (k := 6) W1 hS1.1 rfl, bnd_s, nrw]
          rw [slotR W1 hS1 (show 52 < 605 by omega), bnd_s, u2_ne _ _ (Or.inr (show (52 : Nat) ≠ 51 by decide)), hs52, HS W1 hS1.2.2.2.2.2.1 (show 53 < 605 by omega) (by omega), bnd_s]
          simp only [HR (k := 6) W1 hS1.1 rfl, bnd_s, nrw]
          rw [show f_X7_of 99 (nI j) 0 _ = _ from of_raw (w := 0) W1 hS1 (show 5 * j + 0 < 605 by omega), bnd_s, u2_ne _ _ (Or.inr (show 5 * j + 0 ≠ 53 by omega)), u2_ne _ _ (Or.inr (show 5 * j + 0 ≠ 51 by omega)), hsl.at hj (by omega), HS W1 hS1.2.2.2.2.2.1 (show 52 < 605 by omega) (by omega), bnd_s]
          simp only [HR (k := 6) W1 hS1.1 rfl, bnd_s, nrw]
          rw [show (5 : Int32) = nI 5 from rfl, show (4 : Int32) = nI 4 from rfl, pk_mul, nI_add, HS W1 hS1.2.2.2.2.2.1 (show 5 * j + 4 < 605 by omega) (by omega), bnd_s, HP (k := 9) W1 hS1.1 rfl, bnd_s, HR (k := 6) W1 hS1.1 rfl, bnd_s, slotR W1 hS1 (show 51 < 605 by omega), bnd_s, u2_ne _ _ (Or.inl (show (104 : Nat) ≠ 99 by decide)), u2_ne _ _ (Or.inr (show 51 ≠ 5 * j + 4 by omega)), u2_ne _ _ (Or.inr (show (51 : Nat) ≠ 52 by decide)), u2_ne _ _ (Or.inr (show (51 : Nat) ≠ 53 by decide)), u2_same]
          rfl
        refine ⟨_, _, _, e6, e7, ?_⟩
        let V' : MV := (mvN (asV A), setD (mvD (asV A)) j 4 1, H', mvD (asV A) j 0, mvL (asV A), mvC (asV A))
        have hV' : WFV V' := by
          refine ⟨hV.1, fun i hi => ?_, by show mvD (asV A) j 0 ≤ 5; omega, l1, ?_, trivial⟩
          · have hi : i < mvN (asV A) := hi
            have := hV.2.1 i hi
            show setD (mvD (asV A)) j 4 1 i 0 < 5 ∧ 1 ≤ setD (mvD (asV A)) j 4 1 i 1 ∧ setD (mvD (asV A)) j 4 1 i 1 ≤ 9 ∧ setD (mvD (asV A)) j 4 1 i 2 < 5 ∧ setD (mvD (asV A)) j 4 1 i 3 ≤ 99 ∧ setD (mvD (asV A)) j 4 1 i 4 ≤ 2
            rw [setD_ne _ _ (Or.inr (by omega)), setD_ne _ _ (Or.inr (by omega)), setD_ne _ _ (Or.inr (by omega)), setD_ne _ _ (Or.inr (by omega))]
            refine ⟨this.1, this.2.1, this.2.2.1, this.2.2.2.1, this.2.2.2.2.1, ?_⟩
            by_cases g : i = j
            · rw [g, setD_same]; omega
            · rw [setD_ne _ _ (Or.inl g)]; exact this.2.2.2.2.2
          · show H' ≤ 99 + pSum (setD (mvD (asV A)) j 4 1) (mvN (asV A))
            rw [pSum_pour (mvD (asV A)) j (by omega) (mvN (asV A)) hj]
            have := hV.2.2.2.2.1
            simp only [H']
            omega
        have fin : ∀ b, b < 99 → d2 b = c2 b := fun b hb => by
          simp only [d2]
          rw [u2_other _ _ _ (by omega), u2_other _ _ _ (by omega), u2_other _ _ _ (by omega), u2_other _ _ _ (by omega), u2_other _ _ _ (by omega), k3 b (by omega) (by omega)]
        have hA1 := hA.rem
        have c2r10 : ∀ k, c2 10 k = if k = 9 then nI (mvD (asV A) j 0) else if k = 10 then nI (if asL A = 1 then mvL (asV A) else 5) else if k = 8 then nI H' else c1 10 k := by
          intro k
          simp only [c2]
          rw [u2_ne _ _ (Or.inl (by decide))]
          by_cases g1 : k = 9
          · rw [if_pos g1, g1, u2_same]
          · rw [if_neg g1, u2_ne _ _ (Or.inr g1)]
            by_cases g2 : k = 10
            · rw [if_pos g2, g2, u2_same]
            · rw [if_neg g2, u2_ne _ _ (Or.inr g2)]
              by_cases g3 : k = 8
              · rw [if_pos g3, g3, u2_same]
              · rw [if_neg g3, u2_ne _ _ (Or.inr g3), u2_ne _ _ (Or.inl (by decide))]
        refine ⟨(asX A, asT A, asL A, asP A, V', asU (asRem A), asD (asRem A), asK A, asE A, asQ A, 0), sh1, _, z, rfl, ⟨hA1.1, hA1.2.1, hA1.2.2.1, hV', hA1.2.2.2.2.1, hA1.2.2.2.2.2.1, hA1.2.2.2.2.2.2.1, hA1.2.2.2.2.2.2.2.1, by show 0 ≤ 10; omega, fun i hi => absurd hi (Nat.not_lt_zero i), fun i j hi => absurd hi (Nat.not_lt_zero i)⟩, ⟨y, W1, hs1, ⟨hb.1, by have := hb.2.1; omega, by have := hb.2.2; omega⟩, ?_⟩, hS1, ?_⟩
        · refine ClsR.setV hA1 hc1 V' 0 (Nat.zero_le _) (fun b g1 g2 g3 => ?_) (fun j hj => ?_) ?_ ?_
          · rw [fin b g3, f2 b g1 (by omega) (by omega)]
          · rw [fin 0 (by omega)]
            simp only [c2]
            rw [u2_ne _ _ (Or.inl (by decide)), u2_ne _ _ (Or.inl (by decide)), u2_ne _ _ (Or.inl (by decide)), u2_ne _ _ (Or.inl (by decide)), u2_ne _ _ (Or.inr hj)]
          · rw [fin 0 (by omega)]
            simp only [c2]
            rw [u2_ne _ _ (Or.inl (by decide)), u2_ne _ _ (Or.inl (by decide)), u2_ne _ _ (Or.inl (by decide)), u2_ne _ _ (Or.inl (by decide)), u2_same]
            rfl
          · obtain ⟨q1, q2, q3, q4, q5, q6, q7, q8⟩ := hcm1
            refine ⟨by rw [fin 10 (by omega), c2r10]; exact q1, by rw [fin 10 (by omega), c2r10]; exact q2, by rw [fin 10 (by omega), c2r10]; exact q3, fun i hi w hw => ?_, by rw [fin 10 (by omega), c2r10]; rfl, by rw [fin 10 (by omega), c2r10]; rfl, by rw [fin 10 (by omega), c2r10]; rfl, by rw [fin 10 (by omega), c2r10]; exact q8⟩
            have hi : i < mvN (asV A) := hi
            show _ = nI (setD (mvD (asV A)) j 4 1 i w)
            rw [fin (10 + 1 + w) (by omega)]
            by_cases g : w = 4
            · subst g
              simp only [c2]
              by_cases g2 : i = j
              · rw [g2, setD_same]; exact u2_same _ _ _ _
              · rw [setD_ne _ _ (Or.inl g2), u2_ne _ _ (Or.inr g2), u2_other _ _ _ (by omega), u2_other _ _ _ (by omega), u2_other _ _ _ (by omega), u2_other _ _ _ (by omega)]; exact q4 i hi 4 (by omega)
            · rw [setD_ne _ _ (Or.inr g), f2 _ (by omega) (by omega) (by omega)]; exact q4 i hi w hw
        · have d2r : ∀ k, d2 104 k = if k = 5 * j + 4 then 1 else if k = 52 then nI (mvD (asV A) j 0) else if k = 53 then nI (mvL (asV A)) else if k = 51 then nI H' else d 104 k := by
            intro k
            simp only [d2]
            rw [u2_ne _ _ (Or.inl (by decide))]
            by_cases g0 : k = 5 * j + 4
            · rw [if_pos g0, g0, u2_same]
            · rw [if_neg g0, u2_ne _ _ (Or.inr g0)]
              by_cases g1 : k = 52
              · rw [if_pos g1, g1, u2_same]
              · rw [if_neg g1, u2_ne _ _ (Or.inr g1)]
                by_cases g2 : k = 53
                · rw [if_pos g2, g2, u2_same]
                · rw [if_neg g2, u2_ne _ _ (Or.inr g2)]
                  by_cases g3 : k = 51
                  · rw [if_pos g3, g3, u2_same]
                  · rw [if_neg g3, u2_ne _ _ (Or.inr g3)]
          refine ModR.setV hA1 k2 V' 0 (Nat.zero_le _) (fun b g1 g2 => ?_) (fun j hj => ?_) ?_ (fun k hk => ?_) ?_
          · simp only [d2]
            rw [u2_other _ _ _ g1, u2_other _ _ _ g2, u2_other _ _ _ g2, u2_other _ _ _ g2, u2_other _ _ _ g2]
          · simp only [d2]
            rw [u2_ne _ _ (Or.inr hj), u2_ne _ _ (Or.inl (by decide)), u2_ne _ _ (Or.inl (by decide)), u2_ne _ _ (Or.inl (by decide)), u2_ne _ _ (Or.inl (by decide))]
          · simp only [d2]; rw [u2_same]; rfl
          · rw [d2r, if_neg (by omega), if_neg (by omega), if_neg (by omega), if_neg (by omega)]
          · obtain ⟨q1, q2, q3, q4, q5, q6⟩ := hsl
            refine ⟨fun i hi w hw => ?_, ?_, ?_, ?_, ?_, ?_⟩
            · have hi : i < mvN (asV A) := hi
              show _ = nI (setD (mvD (asV A)) j 4 1 i w)
              rw [d2r]
              by_cases g : i = j ∧ w = 4
              · rw [g.1, g.2, setD_same, if_pos (by omega)]; rfl
              · rw [setD_ne _ _ (by omega), if_neg (by omega), if_neg (by omega), if_neg (by omega), if_neg (by omega)]; exact q1 i hi w hw
            · rw [d2r, if_neg (by omega), if_neg (by omega), if_neg (by omega), if_neg (by omega)]; exact q2
            · rw [d2r, if_neg (by omega), if_neg (by omega), if_neg (by omega), if_pos (by omega)]
            · rw [d2r, if_neg (by omega), if_pos (by omega)]
            · rw [d2r, if_neg (by omega), if_neg (by omega), if_pos (by omega)]
            · rw [d2r, if_neg (by omega), if_neg (by omega), if_neg (by omega), if_neg (by omega)]; exact q6
      · refine ⟨-2, HH sh c z, HH sh c z, ?_, ?_, same⟩
        · unfold f_X6_pour
          simp only [HG W hs.1, bnd_s, HR (k := 4) W hs.1 rfl, jn0_s]
          rw [has_in W hs.m10 hcm hV1 hj, bnd_s, if_neg i10, waits_in W hs.m10 hcm hV hj, bnd_s, if_pos h0, if_neg i10, fitsNow_in W hs.m10 hcm hV1 hj, bnd_s, if_pos (hiff.mpr hm), if_pos rfl]
        · unfold f_X7_pour
          simp only [HG W hS.1, bnd_s, jn0_s]
          rw [isSack_in W hS hR hV hj, bnd_s, if_neg i10, isWaiting_in W hS hR hV hj, bnd_s, if_pos h0, if_neg i10, mayNow_in W hS hR hA hj, bnd_s, if_neg hm, if_pos rfl]
    · refine ⟨-2, HH sh c z, HH sh c z, ?_, ?_, same⟩
      · unfold f_X6_pour
        simp only [HG W hs.1, bnd_s, HR (k := 4) W hs.1 rfl, jn0_s]
        rw [has_in W hs.m10 hcm hV1 hj, bnd_s, if_neg i10, waits_in W hs.m10 hcm hV hj, bnd_s, if_neg h0, if_pos rfl]
      · unfold f_X7_pour
        simp only [HG W hS.1, bnd_s, jn0_s]
        rw [isSack_in W hS hR hV hj, bnd_s, if_neg i10, isWaiting_in W hS hR hV hj, bnd_s, if_neg h0, if_pos rfl]
  · refine ⟨-1, HH sh c z, HH sh c z, ?_, ?_, same⟩
    · unfold f_X6_pour
      simp only [HG W hs.1, bnd_s, HR (k := 4) W hs.1 rfl]
      rw [has_out W hs.m10 hcm hx, bnd_s, if_pos rfl]
    · unfold f_X7_pour
      simp only [HG W hS.1, bnd_s]
      rw [isSack_out W hS hR hV hx, bnd_s, if_pos rfl]
end PP
