/-! ===== most, asked of both ===== -/
section OM
variable {n : Nat} {A : AS} {y : Dy} {sh : Nat → Shp} {c c' : Nat → Nat → Int32} {z : Nat × Nat}
theorem soonM (hA : WFA A) (W : Wz sh z) (hS : SMo sh) (hR : ModR A c) {M : Nat} (hM : M ≤ 100) (h15 : c 99 15 = nI M) : ∃ R c' t, (bnd (gR (HH sh c z) 99 7 6) fun a4 => bnd (ldI 0 (HH sh c z) a4 (51 : Int32)) fun x5 => bnd (gR (HH sh c z) 99 7 6) fun a6 => bnd (ldI 0 (HH sh c z) a6 (52 : Int32)) fun x7 => bnd (gR (HH sh c z) 99 7 6) fun a8 => bnd (ldI 0 (HH sh c z) a8 (53 : Int32)) fun x9 => bnd (f_X7_earliest 99 x5 x7 x9 (HH sh c z)) fun h10 => wl2 (fun (r13 : Int32 → Int32 → Option (Int32 × Hp)) (i11 : Int32) (i12 : Int32) => bnd (gR h10 99 7 6) fun a14 => bnd (ldI 0 h10 a14 (50 : Int32)) fun x15 => if ((1 : Int32) <<< (x15 &&& 31)) ≤ i12 then (some (i11, h10)) else (bnd (f_X7_bits i12) fun x17 => bnd (gI h10 99 7 15) fun x18 => jn1 (fun (w19 : Int32) => jn1 (fun (w21 : Int32) => r13 w21 (i12 + (1 : Int32))) fun k22 => if i11 ≤ w19 then (k22 i11) else (k22 w19)) fun k20 => if x17 = x18 then (bnd (f_X7_soonestOf 99 i12 h10) fun x25 => k20 x25) else (k20 (1000000 : Int32)))) fuel (1000000 : Int32) (0 : Int32)) = some (nI R, HH sh c' z) ∧ (∀ a, a ≠ 106 → c' a = c a) ∧ QM (asL A) (asV A) (6 * mvL (asV A) + mvA (asV A)) (mvH (asV A)) t (10 * (36 * 2 ^ mvN (asV A))) ∧ isMin (fun h => ∃ S, S < 2 ^ mvN (asV A) ∧ pc S = M ∧ MVp t S h ∧ h < FARn) R := by
  have hV := hA.2.2.2.1
  have hp := pow_le10 hV.1
  have hn := hV.1
  have hsl := hR.2.2.2.2.2.2.2.2.1
  have h51 : c 104 51 = nI (mvH (asV A)) := hsl.2.2.1
  have h52 : c 104 52 = nI (mvL (asV A)) := hsl.2.2.2.1
  have h53 : c 104 53 = nI (mvA (asV A)) := hsl.2.2.2.2.1
  obtain ⟨c1, t, e1, f1, r1, Q1⟩ := earliest_eq hA W hS hR (hour_lt hV) hV.2.2.1 hV.2.2.2.1
  have hR1 : ModR A c1 := hR.kp (Kp.of (fun a q => f1 a (by omega)))
  have h50 : c1 104 50 = nI (mvN (asV A)) := hR1.2.2.2.2.2.2.2.2.1.2.1
  have h15' : c1 99 15 = nI M := by rw [f1 99 (by omega)]; exact h15
  rw [HR (k := 6) W hS.1 rfl, bnd_s, show (51 : Int32) = nI 51 from rfl, slotR W hS (by omega), bnd_s, h51, bnd_s, show (52 : Int32) = nI 52 from rfl, slotR W hS (by omega), bnd_s, h52, bnd_s, show (53 : Int32) = nI 53 from rfl, slotR W hS (by omega), bnd_s, h53, e1, bnd_s]
  refine wl2_fuel (fun s x j => (∃ R, x = nI R ∧ isMin (fun h => ∃ s', s' < s ∧ pc s' = M ∧ MVp t s' h ∧ h < FARn) R) ∧ j = nI s) (2 ^ mvN (asV A)) (by omega) (fun r => ∃ R c' t, r = some (nI R, HH sh c' z) ∧ (∀ a, a ≠ 106 → c' a = c a) ∧ QM (asL A) (asV A) (6 * mvL (asV A) + mvA (asV A)) (mvH (asV A)) t (10 * (36 * 2 ^ mvN (asV A))) ∧ isMin (fun h => ∃ S, S < 2 ^ mvN (asV A) ∧ pc S = M ∧ MVp t S h ∧ h < FARn) R) ?_ _ _ ⟨⟨FARn, rfl, Nat.le_refl _, fun q => absurd q (by omega), fun h q => by obtain ⟨p, q, _⟩ := q; omega⟩, rfl⟩
  intro rec s x j hsi hx
  obtain ⟨⟨R, rfl, hR0⟩, rfl⟩ := hx
  have hRb : R ≤ 1000000 := hR0.1
  rw [HR (k := 6) W hS.1 rfl, bnd_s, show (50 : Int32) = nI 50 from rfl, slotR W hS (by omega), bnd_s, h50, sh_one (by omega)]
  rcases Nat.lt_or_ge s (2 ^ mvN (asV A)) with hlt | hlt
  · refine Or.inl ⟨hlt, ?_⟩
    obtain ⟨v, hv1, hv2⟩ := soonestOf_eq (N := 2 ^ mvN (asV A)) W hS hp hlt r1 (fun e he => (Q1 e he).1)
    have hv3 : v ≤ 1000000 := hv2.1
    have hpc : pc s ≤ 10 := cP_le _ _
    rw [if_neg (nI_ge hlt (by omega)), bits_eq (by omega), bnd_s, HI (k := 15) W hS.1 rfl, bnd_s, h15', hv1]
    simp only [jn1_s, bnd_s]
    rw [show (nI s + 1) = nI (s + 1) from nI_1 s]
    have keepR : (∀ h, ¬ (pc s = M ∧ MVp t s h ∧ h < FARn)) → isMin (fun h => ∃ s', s' < s + 1 ∧ pc s' = M ∧ MVp t s' h ∧ h < FARn) R := by
      intro hno
      refine hR0.congr (fun h => ⟨?_, ?_⟩)
      · rintro ⟨p, r1, r2⟩
        exact ⟨p, by omega, r2⟩
      · rintro ⟨p, r1, r2⟩
        refine ⟨p, ?_, r2⟩
        rcases Nat.lt_or_ge p s with q | q
        · exact q
        · rw [show p = s by omega] at r2
          exact absurd r2 (hno h)
    by_cases g : pc s = M
    · rw [if_pos (congrArg nI g)]
      have key : isMin (fun h => ∃ s', s' < s + 1 ∧ pc s' = M ∧ MVp t s' h ∧ h < FARn) (min R v) := by
        rcases Nat.lt_or_ge v FARn with q | q
        · refine (hR0.add q).congr (fun h => ⟨?_, ?_⟩)
          · rintro (⟨p, r1, r2⟩ | r)
            · exact ⟨p, by omega, r2⟩
            · exact ⟨s, by omega, g, by rw [r]; exact hv2, by rw [r]; exact q⟩
          · rintro ⟨p, r1, r2, r3, r4⟩
            rcases Nat.lt_or_ge p s with w | w
            · exact Or.inl ⟨p, w, r2, r3, r4⟩
            · rw [show p = s by omega] at r3
              exact Or.inr (isMin.one r3 hv2)
        · have e : min R v = R := by unfold FARn at q; omega
          rw [e]
          refine keepR (fun h r => ?_)
          have := isMin.one r.2.1 hv2
          omega
      by_cases g2 : R ≤ v
      · rw [if_pos (nI_le g2 (by omega))]
        rw [Nat.min_eq_left g2] at key
        exact ⟨_, _, ⟨⟨_, rfl, key⟩, rfl⟩, rfl⟩
      · rw [if_neg (nI_ge (by omega) (by omega))]
        rw [Nat.min_eq_right (by omega)] at key
        exact ⟨_, _, ⟨⟨_, rfl, key⟩, rfl⟩, rfl⟩
    · rw [if_neg (show ¬ nI (pc s) = nI M by rw [nI_eq (by omega) (by omega)]; exact g), if_pos (show nI R ≤ (1000000 : Int32) from nI_le (b := 1000000) hRb (by omega))]
      exact ⟨_, _, ⟨⟨_, rfl, keepR (fun h r => g r.1)⟩, rfl⟩, rfl⟩
  · refine Or.inr ?_
    rw [if_pos (nI_le hlt (by omega))]
    have ei : s = 2 ^ mvN (asV A) := by omega
    rw [ei] at hR0
    exact ⟨R, c1, t, rfl, f1, Q1, hR0⟩
theorem op_most {n : Nat} {h : Hp} (hn : n ≤ 10000) (hI : Inv n h) (x : Int32) : ∃ r h1 h2, f_X6_most 0 x h = some (r, h1) ∧ f_X7_most 99 x h1 = some (r, h2) ∧ Inv (n + 1) h2 := by
  obtain ⟨A, y, sh, c, z, rfl, hA, J⟩ := hI.jn
  have hV := hA.2.2.2.1
  have h10 := lgN_le10 hV
  by_cases hb : (-2 : Int32) ≤ x
  · obtain ⟨c2, e2, f2, b2⟩ := takeAll_eq J.1 J.2.1 J.2.2.2.1.2.2.2.2.2.2.1 hV
    have J2 : Jn n A y sh c2 z := J.cc hA (Kp.of (fun a q => f2 a (by omega)))
    obtain ⟨y3, sh3, c3, z3, e3, J3, h80, h81, h79, hT, hlen⟩ := longest_eq (b := bW (asV A)) hA hn J2 (bW_sum hV) b2
    have e3' : f_X0_longest 79 10 (HH sh c2 z) = some (nI (lgN A (bW (asV A))), HH sh3 c3 z3) := e3
    have clsHead : ∀ r h1, (if x = (-1 : Int32) then (some (nI (lgN A (bW (asV A))), HH sh3 c3 z3)) else (if x = (-2 : Int32) then (bnd (gR (HH sh3 c3 z3) 0 6 12) fun a17 => bnd (gR (HH sh3 c3 z3) 0 6 4) fun a18 => bnd2 (f_X1_soonest a17 a18 (nI (lgN A (bW (asV A)))) (HH sh3 c3 z3)) fun x19 h20 => some (x19, h20)) else (jn1 (fun (w11 : Int32) => some (w11, HH sh3 c3 z3)) fun k12 => if nI (lgN A (bW (asV A))) ≤ x then (k12 (-4 : Int32)) else (bnd (gR (HH sh3 c3 z3) 0 6 11) fun a14 => bnd (gR (HH sh3 c3 z3) 0 6 4) fun a15 => bnd (f_X0_rowSack a14 a15 x (HH sh3 c3 z3)) fun x16 => k12 x16)))) = some (r, h1) → f_X6_most 0 x (HH sh c z) = some (r, h1) := by
      intro r h1 e
      unfold f_X6_most
      rw [HG J.1 J.2.1.1, bnd_s, if_pos hb, HR (k := 11) J.1 J.2.1.1 rfl, bnd_s, HR (k := 4) J.1 J.2.1.1 rfl, bnd_s, e2, bnd_s, HR (k := 11) J.1 J.2.1.1 rfl, bnd_s, HR (k := 4) J.1 J.2.1.1 rfl, bnd_s, e3', bnd2_s]
      exact e
    by_cases g1 : x = -2
    · -- the soonest hour
      subst g1
      obtain ⟨R, y4, sh4, c4, z4, u, e4, J4, Qu, mR⟩ := soonC hA hn J3 (M := lgN A (bW (asV A))) (by omega)
      obtain ⟨T, c5, e5, J5, h15, hbest⟩ := firstMost_eq hA J4
      obtain ⟨R', c6, t, e6, f6, Qt, mR'⟩ := soonM hA J5.1 J5.2.2.2.2.1 J5.2.2.2.2.2 (M := lgN A (bW (asV A))) (by omega) h15
      have hRR : R = R' := soon_same hA.2.1 hV hV.2.2.1 hV.2.2.2.1 Qt Qu mR mR'
      have J6 : Jn n A y4 (shT sh4 T) c6 z4 := J5.cc hA (Kp.of (fun a q => f6 a (by omega)))
      refine ⟨nI R, HH sh4 c4 z4, HH (shT sh4 T) c6 z4, clsHead _ _ ?_, ?_, J6.inv hA⟩
      · rw [if_neg (by decide), if_pos rfl, HR (k := 12) J3.1 J3.2.1.1 rfl, bnd_s, HR (k := 4) J3.1 J3.2.1.1 rfl, bnd_s, e4, bnd2_s]
      · unfold f_X7_most
        rw [HG J4.1 J4.2.2.2.2.1.1, bnd_s, if_pos (by decide), e5, bnd_s, if_pos (by decide), e6, hRR]
    · by_cases g2 : x = -1
      · subst g2
        obtain ⟨T, c5, e5, J5, h15, hbest⟩ := firstMost_eq hA J3
        refine ⟨nI (lgN A (bW (asV A))), HH sh3 c3 z3, HH (shT sh3 T) c5 z3, clsHead _ _ ?_, ?_, J5.inv hA⟩
        · rw [if_pos rfl]
        · unfold f_X7_most
          rw [HG J3.1 J3.2.2.2.2.1.1, bnd_s, if_pos (by decide), e5, bnd_s, if_neg (by decide)]
          simp only [jn1_s]
          rw [if_neg (by decide), HI (k := 15) J5.1 J5.2.2.2.2.1.1 rfl, bnd_s, h15]
      · have hx : ¬ x < 0 := by
          have p1 : x.toInt ≠ -2 := fun q => g1 (by rw [i_eq]; exact q)
          have p2 : x.toInt ≠ -1 := fun q => g2 (by rw [i_eq]; exact q)
          rw [i_le, show (-2 : Int32).toInt = -2 from rfl] at hb
          rw [i_lt, show (0 : Int32).toInt = 0 from rfl]
          omega
        obtain ⟨p, hp, rfl⟩ := nI_of hx
        obtain ⟨T, c5, e5, J5, h15, hbest⟩ := firstMost_eq hA J3
        have s107 : shT sh3 T 109 = sA 0 10 := J5.2.2.2.2.1.2.2.2.2.2.2.2.2.2.2.1
        have hne2 : ¬ nI p ≤ (-2 : Int32) := by
          rw [i_le, nI_T _ (by omega), show (-2 : Int32).toInt = -2 from rfl]
          omega
        rcases Nat.lt_or_ge p (lgN A (bW (asV A))) with hpl | hpl
        · have er := rowSack_eq hA J3 h81 h79 hT hlen hpl
          refine ⟨nI (rsF (asL A) (asV A) (rs (asL A) (asV A) p)), HH sh3 c3 z3, HH (shT sh3 T) c5 z3, clsHead _ _ ?_, ?_, J5.inv hA⟩
          · rw [if_neg g2, if_neg g1]
            simp only [jn1_s]
            rw [if_neg (nI_ge hpl (by omega)), HR (k := 11) J3.1 J3.2.1.1 rfl, bnd_s, HR (k := 4) J3.1 J3.2.1.1 rfl, bnd_s, er, bnd_s]
          · unfold f_X7_most
            rw [HG J3.1 J3.2.2.2.2.1.1, bnd_s, if_pos hb, e5, bnd_s, if_neg hne2]
            simp only [jn1_s]
            rw [if_pos (nI_pos' (by omega)), HI (k := 15) J5.1 J5.2.2.2.2.1.1 rfl, bnd_s, h15, if_neg (nI_ge hpl (by omega)), HR (k := 14) J5.1 J5.2.2.2.2.1.1 rfl, bnd_s, HL J5.1 s107 (show p < 10 by omega) (by omega), bnd_s, hbest p hpl]
        · refine ⟨-4, HH sh3 c3 z3, HH (shT sh3 T) c5 z3, clsHead _ _ ?_, ?_, J5.inv hA⟩
          · rw [if_neg g2, if_neg g1]
            simp only [jn1_s]
            rw [if_pos (nI_le hpl (by omega))]
          · unfold f_X7_most
            rw [HG J3.1 J3.2.2.2.2.1.1, bnd_s, if_pos hb, e5, bnd_s, if_neg hne2]
            simp only [jn1_s]
            rw [if_pos (nI_pos' (by omega)), HI (k := 15) J5.1 J5.2.2.2.2.1.1 rfl, bnd_s, h15, if_pos (nI_le hpl (by omega))]
  · refine ⟨-1, HH sh c z, _, ?_, ?_, J.inv hA⟩
    · unfold f_X6_most
      rw [HG J.1 J.2.1.1, bnd_s, if_neg hb]
    · unfold f_X7_most
      rw [HG J.1 J.2.2.2.2.1.1, bnd_s, if_neg hb]
end OM
