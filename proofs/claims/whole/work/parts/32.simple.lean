/-! ===== the simple operations ===== -/
theorem in_yes {x : Int32} {lo hi : Int64} (h : lo.toInt ≤ x.toInt ∧ x.toInt ≤ hi.toInt) : f_X7_in x.toInt64 lo hi = some 1 := by rw [in_int, if_pos h]
theorem in_no {x : Int32} {lo hi : Int64} (h : ¬ (lo.toInt ≤ x.toInt ∧ x.toInt ≤ hi.toInt)) : f_X7_in x.toInt64 lo hi = some 0 := by rw [in_int, if_neg h]
theorem in_n {k lo hi : Nat} (L H : Int64) (hL : L.toInt = (lo : Int)) (hH : H.toInt = (hi : Int)) (h1 : lo ≤ k) (h2 : k ≤ hi) (h3 : k < 2147483648) : f_X7_in (nI k).toInt64 L H = some 1 := in_yes (by rw [hL, hH, nI_T _ h3]; omega)
theorem twice {T : Option Int32} (h : ∃ r, T = some r) : ∃ r, T = some r ∧ T = some r := by
  obtain ⟨r, e⟩ := h
  exact ⟨r, e, e⟩
theorem i10 : ¬ (1 : Int32) = 0 := by decide
section SO
variable {n : Nat} {h : Hp} {A : AS} {sh : Nat → Shp} {c c' : Nat → Nat → Int32} {z : Nat × Nat}
theorem SC.m10 {y : Dy} (h : SC sh y) : isM sh 10 := h.2.2.2.2.1 10 (Or.inr (Or.inl rfl))
/-- the class's part, when rows 0 and 78 alone have changed -/
theorem ClsR.set0 (hD : asD A ≤ 8) (hE : asE A ≤ 2) (h : ClsR A sh c) (f : ∀ b, b ≠ 0 → b ≠ 78 → b < 99 → c' b = c b) (t d e q : Nat) (Q : Nat → Nat) (h1 : c' 0 1 = nI t) (h2 : c' 0 6 = nI d) (h3 : c' 0 8 = nI e) (h4 : c' 0 10 = nI q) (hd : d ≤ asD A) (he : e ≤ asE A) (h5 : ∀ i, i < q → c' 78 i = nI (Q i)) :
    ClsR (asX A, t, asL A, asP A, asV A, asU A, d, asK A, e, Q, q) sh c' := by
  obtain ⟨c1, c2, c3, c4, c5, c6, c7, ⟨σ, c8, c9, c10, c11⟩, c12⟩ := h
  refine ⟨by rw [f 1 (by omega) (by omega) (by omega)]; exact c1, h1, h2, h3, h4, h5, c7.kept (fun b g1 g2 => f b (by omega) (by omega) (by omega)), ⟨σ, c8, c9, c10, fun p hp => ?_⟩, fun k hk => ?_⟩
  · have hp : p < d := hp
    have := c9 p (by omega)
    exact (c11 p (by omega)).kept (fun b g1 g2 => f b (by omega) (by omega) (by omega))
  · have hk : k < e := hk
    exact (c12 k (by omega)).kept (fun b g1 g2 => f b (by omega) (by omega) (by omega))
theorem CI.set0 (hA : WFA A) (h : CI n A sh c z) (f : ∀ b, b ≠ 0 → b ≠ 78 → b < 99 → c' b = c b) (t d e q : Nat) (Q : Nat → Nat) (h1 : c' 0 1 = nI t) (h2 : c' 0 6 = nI d) (h3 : c' 0 8 = nI e) (h4 : c' 0 10 = nI q) (hd : d ≤ asD A) (he : e ≤ asE A) (h5 : ∀ i, i < q → c' 78 i = nI (Q i)) :
    CI (n + 1) (asX A, t, asL A, asP A, asV A, asU A, d, asK A, e, Q, q) sh c' z := by
  obtain ⟨y, W, hs, ⟨b1, b2, b3⟩, hc⟩ := h
  exact ⟨y, W, hs, ⟨b1, by omega, by omega⟩, hc.set0 hA.2.2.2.2.1 hA.2.2.2.2.2.2.1 f t d e q Q h1 h2 h3 h4 hd he h5⟩
/-- the reference's part, when rows 99 and 105 alone have changed -/
theorem ModR.set0 (h : ModR A c) (f : ∀ b, b = 100 ∨ b = 101 ∨ b = 104 → c' b = c b) (t d e q : Nat) (Q : Nat → Nat) (h1 : c' 99 0 = nI t) (h2 : c' 99 8 = nI d) (h3 : c' 99 7 = nI e) (h4 : c' 99 9 = nI q) (hd : d ≤ asD A) (he : e ≤ asE A) (h5 : ∀ i, i < q → c' 105 i = nI (Q i)) :
    ModR (asX A, t, asL A, asP A, asV A, asU A, d, asK A, e, Q, q) c' := by
  obtain ⟨c1, c2, c3, c4, c5, c6, c7, c8, c9, c10, c11⟩ := h
  refine ⟨by rw [f 100 (by omega)]; exact c1, h1, h2, h3, h4, h5, by rw [f 101 (by omega)]; exact c7, by rw [f 101 (by omega)]; exact c8, by rw [f 104 (by omega)]; exact c9, fun k hk => ?_, fun p hp => ?_⟩
  · have hk : k < e := hk
    rw [f 104 (by omega)]; exact c10 k (by omega)
  · have hp : p < d := hp
    rw [f 104 (by omega)]; exact c11 p (by omega)
theorem WFA.set0 (h : WFA A) (t d e q : Nat) (Q : Nat → Nat) (ht : t ≤ 300) (hd : d ≤ asD A) (he : e ≤ asE A) (hq : q ≤ 10) (h1 : ∀ i, i < q → Q i < mvN (asV A) ∧ mvD (asV A) (Q i) 4 = 0) (h2 : ∀ i j, i < q → j < q → Q i = Q j → i = j) : WFA (asX A, t, asL A, asP A, asV A, asU A, d, asK A, e, Q, q) := by
  obtain ⟨w1, w2, w3, w4, w5, w6, w7, w8, w9, w10, w11⟩ := h
  exact ⟨ht, w2, w3, w4, Nat.le_trans hd w5, fun p hp => w6 p (Nat.lt_of_lt_of_le hp hd), Nat.le_trans he w7, fun k hk => w8 k (Nat.lt_of_lt_of_le hk he), hq, h1, h2⟩
theorem op_wipe (hI : Inv n h) : ∃ r h1 h2, f_X6_wipe 0 h = some (r, h1) ∧ f_X7_wipe 99 h1 = some (r, h2) ∧ Inv (n + 1) h2 := by
  obtain ⟨A, sh, c, z, rfl, hA, hC, hS, hR⟩ := hI
  obtain ⟨y, W, hs, hb, hc⟩ := id hC
  refine ⟨nI (asT A), HH sh (u2 c 0 1 0) z, HH sh (u2 (u2 c 0 1 0) 99 0 0) z, ?_, ?_, ?_⟩
  · unfold f_X6_wipe
    simp only [HG W hs.1, bnd_s, HI (k := 1) W hs.1 rfl, HP (k := 1) W hs.1 rfl, hc.2.1]
  · unfold f_X7_wipe
    simp only [HG W hS.1, bnd_s, HI (k := 0) W hS.1 rfl, HP (k := 0) W hS.1 rfl]
    rw [u2_ne _ _ (Or.inl (by decide)), hR.2.1]
  · have f : ∀ b, b ≠ 0 → b ≠ 99 → u2 (u2 c 0 1 0) 99 0 0 b = c b := fun b g1 g2 => by rw [u2_other _ _ _ g2, u2_other _ _ _ g1]
    have q10 := hA.2.2.2.2.2.2.2.2
    refine ⟨_, sh, _, z, rfl, hA.set0 0 (asD A) (asE A) (asN A) (asQ A) (by omega) (Nat.le_refl _) (Nat.le_refl _) q10.1 q10.2.1 q10.2.2, hC.set0 hA (fun b g1 g2 g3 => f b g1 (by omega)) 0 (asD A) (asE A) (asN A) (asQ A) ?_ ?_ ?_ ?_ (Nat.le_refl _) (Nat.le_refl _) ?_, hS, hR.set0 (fun b g => f b (by omega) (by omega)) 0 (asD A) (asE A) (asN A) (asQ A) ?_ ?_ ?_ ?_ (Nat.le_refl _) (Nat.le_refl _) ?_⟩
    · simp [u2]; rfl
    · simp [u2]; exact hc.2.2.1
    · simp [u2]; exact hc.2.2.2.1
    · simp [u2]; exact hc.2.2.2.2.1
    · intro i hi; rw [f 78 (by omega) (by omega)]; exact hc.2.2.2.2.2.1 i hi
    · simp [u2]; rfl
    · simp [u2]; exact hR.2.2.1
    · simp [u2]; exact hR.2.2.2.1
    · simp [u2]; exact hR.2.2.2.2.1
    · intro i hi; rw [f 105 (by omega) (by omega)]; exact hR.2.2.2.2.2.1 i hi
theorem op_noQueue (hI : Inv n h) : ∃ r h1 h2, f_X6_noQueue 0 h = some (r, h1) ∧ f_X7_noQueue 99 h1 = some (r, h2) ∧ Inv (n + 1) h2 := by
  obtain ⟨A, sh, c, z, rfl, hA, hC, hS, hR⟩ := hI
  obtain ⟨y, W, hs, hb, hc⟩ := id hC
  refine ⟨nI (asN A), HH sh (u2 c 0 10 0) z, HH sh (u2 (u2 c 0 10 0) 99 9 0) z, ?_, ?_, ?_⟩
  · unfold f_X6_noQueue
    simp only [HG W hs.1, bnd_s, HI (k := 10) W hs.1 rfl, HP (k := 10) W hs.1 rfl, hc.2.2.2.2.1]
  · unfold f_X7_noQueue
    simp only [HG W hS.1, bnd_s, HI (k := 9) W hS.1 rfl, HP (k := 9) W hS.1 rfl]
    rw [u2_ne _ _ (Or.inl (by decide)), hR.2.2.2.2.1]
  · have f : ∀ b, b ≠ 0 → b ≠ 99 → u2 (u2 c 0 10 0) 99 9 0 b = c b := fun b g1 g2 => by rw [u2_other _ _ _ g2, u2_other _ _ _ g1]
    refine ⟨_, sh, _, z, rfl, hA.set0 (asT A) (asD A) (asE A) 0 (asQ A) hA.1 (Nat.le_refl _) (Nat.le_refl _) (by omega) (fun i hi => absurd hi (by omega)) (fun i j hi => absurd hi (by omega)), hC.set0 hA (fun b g1 g2 g3 => f b g1 (by omega)) (asT A) (asD A) (asE A) 0 (asQ A) ?_ ?_ ?_ ?_ (Nat.le_refl _) (Nat.le_refl _) (fun i hi => absurd hi (by omega)), hS, hR.set0 (fun b g => f b (by omega) (by omega)) (asT A) (asD A) (asE A) 0 (asQ A) ?_ ?_ ?_ ?_ (Nat.le_refl _) (Nat.le_refl _) (fun i hi => absurd hi (by omega))⟩
    · simp [u2]; exact hc.2.1
    · simp [u2]; exact hc.2.2.1
    · simp [u2]; exact hc.2.2.2.1
    · simp [u2]; rfl
    · simp [u2]; exact hR.2.1
    · simp [u2]; exact hR.2.2.1
    · simp [u2]; exact hR.2.2.2.1
    · simp [u2]; rfl
theorem op_cost (hI : Inv n h) : ∃ r, f_X6_cost 0 h = some r ∧ f_X7_cost 99 h = some r := by
  obtain ⟨A, sh, c, z, rfl, hA, hC, hS, hR⟩ := hI
  obtain ⟨y, W, hs, hb, hc⟩ := id hC
  have hcm := hc.2.2.2.2.2.2.1
  refine ⟨nI (mvC (asV A)), ?_, ?_⟩
  · unfold f_X6_cost
    simp only [HG W hs.1, bnd_s, HR (k := 4) W hs.1 rfl, HI (k := 11) W hs.m10.1 rfl, hcm.2.2.2.2.2.2.2]
  · unfold f_X7_cost
    simp only [HG W hS.1, bnd_s, HR (k := 6) W hS.1 rfl]
    rw [show (54 : Int32) = nI 54 from rfl, slotR W hS (by omega), bnd_s, show c 104 54 = _ from hR.2.2.2.2.2.2.2.2.1.2.2.2.2.2]
theorem op_may (hI : Inv n h) (x : Int32) : ∃ r, f_X6_may 0 x h = some r ∧ f_X7_may 99 x h = some r := by
  obtain ⟨A, sh, c, z, rfl, hA, hC, hS, hR⟩ := hI
  obtain ⟨y, W, hs, hb, hc⟩ := id hC
  have hcm := hc.2.2.2.2.2.2.1
  have hV := hA.2.2.2.1
  unfold f_X6_may f_X7_may
  simp only [HG W hs.1, HG W hS.1, bnd_s, HR (k := 4) W hs.1 rfl, jn1_s]
  rcases i_cases x (mvN (asV A)) (by have := hV.1; omega) with ⟨j, hj, rfl⟩ | hx
  · have hd := hV.2.1 j hj
    rw [has_in W hs.m10 hcm hV.1 hj, isSack_in W hS hR hV hj, bnd_s, bnd_s, if_neg (by decide), if_neg (by decide), waits_in W hs.m10 hcm hV hj, isWaiting_in W hS hR hV hj, bnd_s, bnd_s, fitsNow_in W hs.m10 hcm hV.1 hj, mayNow_in W hS hR hA hj, bnd_s, bnd_s]
    by_cases h0 : mvD (asV A) j 4 = 0
    · simp only [if_pos h0, if_neg i10]
      have l1 := hV.2.2.1
      have l2 := hV.2.2.2.1
      have hL := hA.2.1
      have hiff : (nI (mvD (asV A) j 0) = nI (mvL (asV A)) ∨ nI (mvD (asV A) j 0) = nI (if asL A = 1 then mvA (asV A) else 5)) ↔ ¬ (mvD (asV A) j 0 ≠ mvL (asV A) ∧ (asL A = 0 ∨ mvD (asV A) j 0 ≠ mvA (asV A))) := by
        rw [nI_eq (by omega) (by omega), nI_eq (by omega) (by split <;> omega)]
        split <;> omega
      by_cases hm : mvD (asV A) j 0 ≠ mvL (asV A) ∧ (asL A = 0 ∨ mvD (asV A) j 0 ≠ mvA (asV A))
      · simp only [if_neg (fun q => hiff.mp q hm), if_pos hm, if_neg i10]
        exact ⟨_, rfl, rfl⟩
      · simp only [if_pos (hiff.mpr hm), if_neg hm, if_true]
        exact ⟨_, rfl, rfl⟩
    · simp only [if_neg h0]
      exact ⟨_, rfl, rfl⟩
  · rw [has_out W hs.m10 hcm hx, isSack_out W hS hR hV hx, bnd_s, bnd_s]
    exact ⟨_, rfl, rfl⟩
theorem op_count (hI : Inv n h) (x : Int32) : ∃ r, f_X6_count 0 x h = some r ∧ f_X7_count 99 x h = some r := by
  obtain ⟨A, sh, c, z, rfl, hA, hC, hS, hR⟩ := hI
  obtain ⟨y, W, hs, hb, hc⟩ := id hC
  have hcm := hc.2.2.2.2.2.2.1
  have hV := hA.2.2.2.1
  have hsl := hR.2.2.2.2.2.2.2.2.1
  unfold f_X6_count f_X7_count
  simp only [HG W hs.1, HG W hS.1, bnd_s, HR (k := 4) W hs.1 rfl, HR (k := 6) W hS.1 rfl, HI (k := 2) W hs.m10.1 rfl, HI (k := 8) W hs.m10.1 rfl, HI (k := 10) W hs.1 rfl, HI (k := 6) W hs.1 rfl, HI (k := 8) W hs.1 rfl, HI (k := 1) W hs.1 rfl, HI (k := 9) W hS.1 rfl, HI (k := 8) W hS.1 rfl, HI (k := 7) W hS.1 rfl, HI (k := 0) W hS.1 rfl]
  have e0 := howMany_eq W hs.m10 hcm hV 0 (by omega)
  have e1 := howMany_eq W hs.m10 hcm hV 1 (by omega)
  have g0 := such_eq W hS hR hV 0 (by omega)
  have g1 := such_eq W hS hR hV 1 (by omega)
  have s50 := slotR (c := c) W hS (k := 50) (by omega)
  have s51 := slotR (c := c) W hS (k := 51) (by omega)
  have z0 : (0 : Int32) = nI 0 := rfl
  have z1 : (1 : Int32) = nI 1 := rfl
  have z50 : (50 : Int32) = nI 50 := rfl
  have z51 : (51 : Int32) = nI 51 := rfl
  have k50 : c 104 50 = nI (mvN (asV A)) := hsl.2.1
  have k51 : c 104 51 = nI (mvH (asV A)) := hsl.2.2.1
  rw [z50, z51, s50, s51, bnd_s, bnd_s, k50, k51, hcm.2.2.1, hcm.2.2.2.2.1, hc.2.2.2.2.1, hc.2.2.1, hc.2.2.2.1, hc.2.1, hR.2.2.2.2.1, hR.2.2.1, hR.2.2.2.1, hR.2.1]
  have e0' : f_X2_howMany 10 0 (HH sh c z) = _ := e0
  have e1' : f_X2_howMany 10 1 (HH sh c z) = _ := e1
  have g0' : f_X7_such 99 0 (HH sh c z) = _ := g0
  have g1' : f_X7_such 99 1 (HH sh c z) = _ := g1
  rw [e0', e1', g0', g1']
  simp only [bnd_s, sw]
  refine twice ?_
  repeat (first | exact ⟨_, rfl⟩ | split)
theorem op_sack (hI : Inv n h) (x w : Int32) : ∃ r, f_X6_sack 0 x w h = some r ∧ f_X7_sack 99 x w h = some r := by
  obtain ⟨A, sh, c, z, rfl, hA, hC, hS, hR⟩ := hI
  obtain ⟨y, W, hs, hb, hc⟩ := id hC
  have hcm := hc.2.2.2.2.2.2.1
  have hV := hA.2.2.2.1
  unfold f_X6_sack f_X7_sack
  simp only [HG W hs.1, HG W hS.1, bnd_s, HR (k := 4) W hs.1 rfl, jn1_s, jn0_s]
  rcases i_cases x (mvN (asV A)) (by have := hV.1; omega) with ⟨j, hj, rfl⟩ | hx
  · have h10 : j < 10 := by have := hV.1; omega
    rw [has_in W hs.m10 hcm hV.1 hj, isSack_in W hS hR hV hj, bnd_s, bnd_s, if_neg (by decide), if_neg (by decide)]
    simp only [HR (k := 3) W hs.m10.1 rfl, HR (k := 4) W hs.m10.1 rfl, HR (k := 5) W hs.m10.1 rfl, HR (k := 6) W hs.m10.1 rfl, HR (k := 7) W hs.m10.1 rfl, bnd_s, HL W hs.m10.row.1 h10 (by omega), HL W hs.m10.row.2.1 h10 (by omega), HL W hs.m10.row.2.2.1 h10 (by omega), HL W hs.m10.row.2.2.2.1 h10 (by omega), HL W hs.m10.row.2.2.2.2 h10 (by omega), (hcm.at hj).1, (hcm.at hj).2.1, (hcm.at hj).2.2.1, (hcm.at hj).2.2.2.1, (hcm.at hj).2.2.2.2]
    rcases i_cases w 5 (by omega) with ⟨k, hk, rfl⟩ | hw
    · rw [in_n (lo := 0) (hi := 4) 0 4 rfl rfl (by omega) (by omega) (by omega), bnd_s, if_neg (by decide), of_in W hS hR hV hj hk]
      rcases (show k = 0 ∨ k = 1 ∨ k = 2 ∨ k = 3 ∨ k = 4 by omega) with rfl | rfl | rfl | rfl | rfl
      · exact ⟨_, rfl, rfl⟩
      · exact ⟨_, rfl, rfl⟩
      · exact ⟨_, rfl, rfl⟩
      · exact ⟨_, rfl, rfl⟩
      · exact ⟨_, rfl, rfl⟩
    · have hw2 : w.toInt < 0 ∨ 5 ≤ w.toInt := by
        rw [i_lt, i_le, nI_T _ (by omega), show (0 : Int32).toInt = 0 from rfl] at hw
        exact hw
      have ne : ∀ k : Nat, k < 5 → w ≠ nI k := by
        intro k hk e
        rw [e, nI_T _ (by omega)] at hw2
        omega
      rw [in_no (by rw [show (0 : Int64).toInt = 0 from rfl, show (4 : Int64).toInt = 4 from rfl]; omega), bnd_s, if_pos rfl]
      simp only [sw]
      rw [if_neg (show ¬ w = 0 from ne 0 (by omega)), if_neg (show ¬ w = 1 from ne 1 (by omega)), if_neg (show ¬ w = 2 from ne 2 (by omega)), if_neg (show ¬ w = 3 from ne 3 (by omega)), if_neg (show ¬ w = 4 from ne 4 (by omega))]
      exact ⟨_, rfl, rfl⟩
  · rw [has_out W hs.m10 hcm hx, isSack_out W hS hR hV hx, bnd_s, bnd_s]
    exact ⟨_, rfl, rfl⟩
end SO
