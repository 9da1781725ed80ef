/-! ===== poured, sold, halved ===== -/
def setD (D : Nat → Nat → Nat) (i w x : Nat) : Nat → Nat → Nat := fun a b => if a = i ∧ b = w then x else D a b
theorem setD_same (D : Nat → Nat → Nat) (i w x : Nat) : setD D i w x i w = x := by simp [setD]
theorem setD_ne (D : Nat → Nat → Nat) {i w a b : Nat} (x : Nat) (h : a ≠ i ∨ b ≠ w) : setD D i w x a b = D a b := by
  unfold setD
  rw [if_neg (by omega)]
theorem pSum_congr (D D' : Nat → Nat → Nat) : ∀ n, (∀ i, i < n → (D' i 4 = 1 ↔ D i 4 = 1) ∧ (D i 4 = 1 → D' i 1 = D i 1)) → pSum D' n = pSum D n := by
  intro n
  induction n with
  | zero => intro _; rfl
  | succ n ih =>
    intro h
    have h1 := ih (fun i hi => h i (by omega))
    have h2 := h n (by omega)
    simp only [pSum, h1]
    by_cases g : D n 4 = 1
    · rw [if_pos g, if_pos (h2.1.mpr g), h2.2 g]
    · rw [if_neg g, if_neg (fun q => g (h2.1.mp q))]
theorem pSum_pour (D : Nat → Nat → Nat) (i : Nat) (h0 : D i 4 ≠ 1) : ∀ n, i < n → pSum (setD D i 4 1) n = pSum D n + D i 1 := by
  intro n
  induction n with
  | zero => intro h; omega
  | succ n ih =>
    intro h
    by_cases g : i = n
    · subst g
      have e := pSum_congr D (setD D i 4 1) i (fun k hk => by rw [setD_ne _ _ (Or.inl (by omega)), setD_ne _ _ (Or.inl (by omega))]; exact ⟨Iff.rfl, fun _ => rfl⟩)
      simp only [pSum, e]
      rw [setD_same, if_pos rfl, if_neg h0, setD_ne _ _ (Or.inr (by omega))]
      omega
    · have e := ih (by omega)
      simp only [pSum, e]
      rw [setD_ne _ _ (Or.inl (by omega)), setD_ne _ _ (Or.inl (by omega))]
      omega
section PO
variable {n : Nat} {h : Hp} {A : AS} {sh sh' : Nat → Shp} {c c' : Nat → Nat → Int32} {z : Nat × Nat}
theorem WFA.rem (h : WFA A) : WFA (asRem A) := by
  obtain ⟨w1, w2, w3, w4, w5, w6, w7, w8, w9, w10, w11⟩ := h
  refine ⟨w1, w2, w3, w4, by show remM A + 1 ≤ 8; unfold remM; omega, fun p hp => ?_, w7, w8, w9, w10, w11⟩
  have hp : p < remM A + 1 := hp
  show WFV (if p = remM A then asV A else asU A (p + (asD A - remM A)))
  by_cases g : p = remM A
  · rw [if_pos g]; exact w4
  · rw [if_neg g]; exact w6 _ (by unfold remM at *; omega)
theorem ClsR.setV (hA : WFA A) (h : ClsR A sh c) (V : MV) (q : Nat) (hq : q ≤ asN A) (f : ∀ b, b ≠ 0 → (b < 10 ∨ 16 ≤ b) → b < 99 → c' b = c b) (f0 : ∀ j, j ≠ 10 → c' 0 j = c 0 j) (f10 : c' 0 10 = nI q) (hV : CM c' 10 (asL A) (asP A) V) : ClsR (asX A, asT A, asL A, asP A, V, asU A, asD A, asK A, asE A, asQ A, q) sh c' := by
  obtain ⟨c1, c2, c3, c4, c5, c6, c7, ⟨σ, c8, c9, c10, c11⟩, c12⟩ := h
  have w5 := hA.2.2.2.2.1
  have w7 := hA.2.2.2.2.2.2.1
  refine ⟨by rw [f 1 (by omega) (by omega) (by omega)]; exact c1, by rw [f0 1 (by omega)]; exact c2, by rw [f0 6 (by omega)]; exact c3, by rw [f0 8 (by omega)]; exact c4, f10, fun i hi => ?_, hV, ⟨σ, c8, c9, c10, fun p hp => ?_⟩, fun k hk => ?_⟩
  · have hi : i < q := hi
    rw [f 78 (by omega) (by omega) (by omega)]; exact c6 i (by omega)
  · have hp : p < asD A := hp
    have := c9 p (by omega)
    exact (c11 p hp).kept (fun b g1 g2 => f b (by omega) (by omega) (by omega))
  · have hk : k < asE A := hk
    exact (c12 k hk).kept (fun b g1 g2 => f b (by omega) (by omega) (by omega))
theorem ModR.setV (hA : WFA A) (h : ModR A c) (V : MV) (q : Nat) (hq : q ≤ asN A) (f : ∀ b, b ≠ 99 → b ≠ 104 → c' b = c b) (f0 : ∀ j, j ≠ 9 → c' 99 j = c 99 j) (f9 : c' 99 9 = nI q) (f2 : ∀ k, 55 ≤ k → c' 104 k = c 104 k) (hV : SlM (c' 104) 0 V) : ModR (asX A, asT A, asL A, asP A, V, asU A, asD A, asK A, asE A, asQ A, q) c' := by
  obtain ⟨c1, c2, c3, c4, c5, c6, c7, c8, c9, c10, c11⟩ := h
  refine ⟨by rw [f 100 (by omega) (by omega)]; exact c1, by rw [f0 0 (by omega)]; exact c2, by rw [f0 8 (by omega)]; exact c3, by rw [f0 7 (by omega)]; exact c4, f9, fun i hi => ?_, by rw [f 101 (by omega) (by omega)]; exact c7, by rw [f 101 (by omega) (by omega)]; exact c8, hV, fun k hk => ?_, fun p hp => ?_⟩
  · have hi : i < q := hi
    rw [f 105 (by omega) (by omega)]; exact c6 i (by omega)
  · have hk : k < asE A := hk
    exact (c10 k hk).keep (hA.2.2.2.2.2.2.2.1 k hk).1 (fun j g1 g2 => f2 j (by omega))
  · have hp : p < asD A := hp
    exact (c11 p hp).keep (hA.2.2.2.2.2.1 p hp).1 (fun j g1 g2 => f2 j (by omega))
theorem op_sell (hI : Inv n h) (x : Int32) : ∃ r h1 h2, f_X6_sell 0 x h = some (r, h1) ∧ f_X7_sell 99 x h1 = some (r, h2) ∧ Inv (n + 1) h2 := by
  obtain ⟨A, sh, c, z, rfl, hA, hC, hS, hR⟩ := hI
  obtain ⟨y, W, hs, hb, hc⟩ := id hC
  have hcm := hc.2.2.2.2.2.2.1
  have hV := hA.2.2.2.1
  have hV1 := hV.1
  have same : Inv (n + 1) (HH sh c z) := ⟨A, sh, c, z, rfl, hA, hC.more, hS, hR⟩
  rcases i_cases x (mvN (asV A)) (by omega) with ⟨j, hj, rfl⟩ | hx
  · have h10 : j < 10 := by omega
    have hd := hV.2.1 j hj
    by_cases h0 : mvD (asV A) j 4 = 0
    · obtain ⟨sh1, c1, e1, W1, hs1, hc1, fc1, fs1, f01⟩ := remember_eq W hs hc hA
      have hcm1 : CM c1 10 (asL A) (asP A) (asV A) := hc1.2.2.2.2.2.2.1
      -- the class
      have e6 : f_X6_sell 0 (nI j) (HH sh c z) = some (nI (mvD (asV A) j 1), HH sh1 (u2 (u2 c1 0 10 0) 15 j 2) z) := by
        unfold f_X6_sell
        rw [HG W hs.1, bnd_s, HR (k := 4) W hs.1 rfl, bnd_s, has_in W hs.m10 hcm hV1 hj, bnd_s, if_neg i10, bnd_s, waits_in W hs.m10 hcm hV hj, bnd_s, if_pos h0, if_neg i10, e1, bnd_s]
        simp only [HP (k := 10) W1 hs1.1 rfl, HR (k := 4) W1 hs1.1 rfl, HR (k := 7) W1 hs1.m10.1 rfl, HR (k := 4) W1 hs1.m10.1 rfl, bnd_s]
        rw [HS W1 hs1.m10.row.2.2.2.2 h10 (by omega), bnd_s]
        simp only [HR (k := 4) W1 hs1.1 rfl, HR (k := 4) W1 hs1.m10.1 rfl, bnd_s]
        rw [HL W1 hs1.m10.row.2.1 h10 (by omega), bnd_s, u2_ne _ _ (Or.inl (by decide)), u2_ne _ _ (Or.inl (by decide)), (hcm1.at hj).2.1]
        rfl
      have fM : FrM sh c sh1 (u2 (u2 c1 0 10 0) 15 j 2) := fun b g1 g2 => ⟨fs1 b (by omega), by rw [u2_other _ _ _ (by omega), u2_other _ _ _ (by omega), fc1 b (by omega) (by omega)]⟩
      have hS1 := hS.kept fM
      have hR1 := hR.kept fM
      obtain ⟨d, k1, k2, k3⟩ := known_eq W1 hS1 hR1 hA
      have hsl : SlM (d 104) 0 (asV A) := k2.2.2.2.2.2.2.2.2.1
      have e7 : f_X7_sell 99 (nI j) (HH sh1 (u2 (u2 c1 0 10 0) 15 j 2) z) = some (nI (mvD (asV A) j 1), HH sh1 (u2 (u2 d 104 (5 * j + 4) 2) 99 9 0) z) := by
        unfold f_X7_sell
        rw [HG W1 hS1.1, bnd_s, isSack_in W1 hS1 hR1 hV hj, bnd_s, if_neg i10, isWaiting_in W1 hS1 hR1 hV hj, bnd_s, if_pos h0, if_neg i10, k1, bnd_s]
        simp only [HR (k := 6) W1 hS1.1 rfl, bnd_s]
        rw [show (5 : Int32) = nI 5 from rfl, show (4 : Int32) = nI 4 from rfl, pk_mul, nI_add, HS W1 hS1.2.2.2.2.2.1 (show 5 * j + 4 < 605 by omega) (by omega), bnd_s, HP (k := 9) W1 hS1.1 rfl, bnd_s, show (1 : Int32) = nI 1 from rfl, of_raw W1 hS1 (show 5 * j + 1 < 605 by omega), bnd_s, u2_ne _ _ (Or.inl (by decide)), u2_ne _ _ (Or.inr (by omega)), hsl.at hj (by omega)]
        rfl
      refine ⟨_, _, _, e6, e7, ?_⟩
      let V' : MV := (mvN (asV A), setD (mvD (asV A)) j 4 2, mvH (asV A), mvL (asV A), mvA (asV A), mvC (asV A))
      have hV' : WFV V' := by
        refine ⟨hV.1, fun i hi => ?_, hV.2.2.1, hV.2.2.2.1, ?_, trivial⟩
        · have hi : i < mvN (asV A) := hi
          have := hV.2.1 i hi
          show setD (mvD (asV A)) j 4 2 i 0 < 5 ∧ 1 ≤ setD (mvD (asV A)) j 4 2 i 1 ∧ setD (mvD (asV A)) j 4 2 i 1 ≤ 9 ∧ setD (mvD (asV A)) j 4 2 i 2 < 5 ∧ setD (mvD (asV A)) j 4 2 i 3 ≤ 99 ∧ setD (mvD (asV A)) j 4 2 i 4 ≤ 2
          rw [setD_ne _ _ (Or.inr (by omega)), setD_ne _ _ (Or.inr (by omega)), setD_ne _ _ (Or.inr (by omega)), setD_ne _ _ (Or.inr (by omega))]
          refine ⟨this.1, this.2.1, this.2.2.1, this.2.2.2.1, this.2.2.2.2.1, ?_⟩
          by_cases g : i = j
          · rw [g, setD_same]; omega
          · rw [setD_ne _ _ (Or.inl g)]; exact this.2.2.2.2.2
        · show mvH (asV A) ≤ 99 + pSum (setD (mvD (asV A)) j 4 2) (mvN (asV A))
          rw [pSum_congr (mvD (asV A)) (setD (mvD (asV A)) j 4 2) (mvN (asV A)) (fun i hi => by
            refine ⟨?_, fun _ => setD_ne _ _ (Or.inr (by omega))⟩
            by_cases g : i = j
            · rw [g, setD_same]; omega
            · rw [setD_ne _ _ (Or.inl g)])]
          exact hV.2.2.2.2.1
      have fin : ∀ b, b < 99 → u2 (u2 d 104 (5 * j + 4) 2) 99 9 0 b = u2 (u2 c1 0 10 0) 15 j 2 b := fun b hb => by rw [u2_other _ _ _ (by omega), u2_other _ _ _ (by omega), k3 b (by omega) (by omega)]
      have hA1 := hA.rem
      refine ⟨(asX A, asT A, asL A, asP A, V', asU (asRem A), asD (asRem A), asK A, asE A, asQ A, 0), sh1, _, z, rfl, ⟨hA1.1, hA1.2.1, hA1.2.2.1, hV', hA1.2.2.2.2.1, hA1.2.2.2.2.2.1, hA1.2.2.2.2.2.2.1, hA1.2.2.2.2.2.2.2.1, by show 0 ≤ 10; omega, fun i hi => absurd hi (Nat.not_lt_zero i), fun i j hi => absurd hi (Nat.not_lt_zero i)⟩, ⟨y, W1, hs1, ⟨hb.1, by have := hb.2.1; omega, by have := hb.2.2; omega⟩, ?_⟩, hS1, ?_⟩
      · refine ClsR.setV hA1 hc1 V' 0 (Nat.zero_le _) (fun b g1 g2 g3 => ?_) (fun j hj => ?_) ?_ ?_
        · rw [fin b g3, u2_other _ _ _ (by omega), u2_other _ _ _ g1]
        · rw [fin 0 (by omega), u2_other _ _ _ (by decide), u2_ne _ _ (Or.inr hj)]
        · rw [fin 0 (by omega), u2_other _ _ _ (by decide), u2_same]; rfl
        · obtain ⟨q1, q2, q3, q4, q5, q6, q7, q8⟩ := hcm1
          have f10 : u2 (u2 d 104 (5 * j + 4) 2) 99 9 0 10 = c1 10 := by rw [fin 10 (by omega), u2_other _ _ _ (by decide), u2_other _ _ _ (by decide)]
          refine ⟨by rw [f10]; exact q1, by rw [f10]; exact q2, by rw [f10]; exact q3, fun i hi w hw => ?_, by rw [f10]; exact q5, by rw [f10]; exact q6, by rw [f10]; exact q7, by rw [f10]; exact q8⟩
          have hi : i < mvN (asV A) := hi
          show _ = nI (setD (mvD (asV A)) j 4 2 i w)
          rw [fin (10 + 1 + w) (by omega)]
          by_cases g : w = 4
          · subst g
            by_cases g2 : i = j
            · rw [g2, setD_same]; exact u2_same _ _ _ _
            · rw [setD_ne _ _ (Or.inl g2), u2_ne _ _ (Or.inr g2), u2_other _ _ _ (by omega)]; exact q4 i hi 4 (by omega)
          · rw [setD_ne _ _ (Or.inr g), u2_other _ _ _ (by omega), u2_other _ _ _ (by omega)]; exact q4 i hi w hw
      · refine ModR.setV hA1 k2 V' 0 (Nat.zero_le _) (fun b g1 g2 => ?_) (fun j hj => ?_) ?_ (fun k hk => ?_) ?_
        · rw [u2_other _ _ _ g1, u2_other _ _ _ g2]
        · rw [u2_ne _ _ (Or.inr hj), u2_other _ _ _ (by decide)]
        · rw [u2_same]; rfl
        · rw [u2_other _ _ _ (by decide), u2_ne _ _ (Or.inr (by omega))]
        · rw [u2_other _ _ _ (by decide)]
          obtain ⟨q1, q2, q3, q4, q5, q6⟩ := hsl
          refine ⟨fun i hi w hw => ?_, by rw [u2_ne _ _ (Or.inr (by omega))]; exact q2, by rw [u2_ne _ _ (Or.inr (by omega))]; exact q3, by rw [u2_ne _ _ (Or.inr (by omega))]; exact q4, by rw [u2_ne _ _ (Or.inr (by omega))]; exact q5, by rw [u2_ne _ _ (Or.inr (by omega))]; exact q6⟩
          have hi : i < mvN (asV A) := hi
          show _ = nI (setD (mvD (asV A)) j 4 2 i w)
          by_cases g : i = j ∧ w = 4
          · rw [g.1, g.2, setD_same, show 55 * 0 + 5 * j + 4 = 5 * j + 4 by omega, u2_same]; rfl
          · rw [setD_ne _ _ (by omega), u2_ne _ _ (Or.inr (by omega))]; exact q1 i hi w hw
    · refine ⟨-2, HH sh c z, HH sh c z, ?_, ?_, same⟩
      · unfold f_X6_sell
        simp only [HG W hs.1, bnd_s, HR (k := 4) W hs.1 rfl]
        rw [has_in W hs.m10 hcm hV1 hj, bnd_s, if_neg i10, waits_in W hs.m10 hcm hV hj, bnd_s, if_neg h0, if_pos rfl]
      · unfold f_X7_sell
        simp only [HG W hS.1, bnd_s]
        rw [isSack_in W hS hR hV hj, bnd_s, if_neg i10, isWaiting_in W hS hR hV hj, bnd_s, if_neg h0, if_pos rfl]
  · refine ⟨-1, HH sh c z, HH sh c z, ?_, ?_, same⟩
    · unfold f_X6_sell
      simp only [HG W hs.1, bnd_s, HR (k := 4) W hs.1 rfl]
      rw [has_out W hs.m10 hcm hx, bnd_s, if_pos rfl]
    · unfold f_X7_sell
      simp only [HG W hS.1, bnd_s]
      rw [isSack_out W hS hR hV hx, bnd_s, if_pos rfl]
end PO
