/-! ===== the class's least hours ===== -/
def uB (s j : Nat) : Bool := !s.testBit j
theorem uB_iff {s j : Nat} : uB s j = true ↔ s.testBit j = false := by unfold uB; cases s.testBit j <;> simp
abbrev kdC (V : MV) : Nat → Nat := fun j => mvD V (at' V j) 0
abbrev cmC (V : MV) : Nat → Nat := fun j => mvD V (at' V j) 3
abbrev szC (V : MV) : Nat → Nat := fun j => mvD V (at' V j) 1
abbrev okC : Nat → Prop := fun _ => True
abbrev mxC (law : Nat) : Nat → Nat → Nat → Prop := fun k l a => k ≠ l ∧ k ≠ a ∧ (law = 1 ∨ a = 5)
abbrev hdC (law : Nat) : Nat → Nat := fun l => if law = 1 then l else 5
abbrev QC (law : Nat) (V : MV) (e0 H0 : Nat) (t : Nat → Nat) (m : Nat) : Prop := gQ (nW V) (kdC V) (cmC V) (szC V) okC (mxC law) (hdC law) e0 H0 t m
/-- the rest of a set, noted -/
def RE (c : Nat → Nat → Int32) (s w : Nat) : Prop := c 84 7 = nI (cP (uB s) w) ∧ ∀ r, r < cP (uB s) w → c 89 r = nI (aP (uB s) w r)
section PO
variable {n : Nat} {A : AS} {y : Dy} {sh : Nat → Shp} {c c' : Nat → Nat → Int32} {z : Nat × Nat}
theorem takeRest_eq (W : Wz sh z) (hs : SC sh y) {s w : Nat} (hw : w ≤ 10) (hsl : s < 2147483648) (h4 : c 84 4 = nI w) : ∃ c', f_X1_takeRest 84 (nI s) (HH sh c z) = some (HH sh c' z) ∧ (∀ a, a ≠ 84 → a ≠ 89 → c' a = c a) ∧ (∀ k, k ≠ 7 → c' 84 k = c 84 k) ∧ RE c' s w := by
  unfold f_X1_takeRest
  rw [HG W hs.a84, bnd_s, HP (k := 7) W hs.a84 rfl, bnd_s]
  refine wl2_fuel (fun i x h => x = nI i ∧ ∃ c', h = HH sh c' z ∧ (∀ a, a ≠ 84 → a ≠ 89 → c' a = c a) ∧ (∀ k, k ≠ 7 → c' 84 k = c 84 k) ∧ c' 84 7 = nI (cP (uB s) i) ∧ ∀ q, q < i → uB s q = true → c' 89 (cP (uB s) q) = nI q) w (by omega) (fun t => ∃ c', t = some (HH sh c' z) ∧ (∀ a, a ≠ 84 → a ≠ 89 → c' a = c a) ∧ (∀ k, k ≠ 7 → c' 84 k = c 84 k) ∧ RE c' s w) ?_ _ _ ⟨rfl, _, rfl, fun a h1 h2 => u2_other _ _ _ h1, fun k hk => u2_ne _ _ (Or.inr hk), by rw [u2_same]; rfl, fun q hq => absurd hq (by omega)⟩
  intro rec i x h hi hx
  obtain ⟨rfl, c1, rfl, f1, g1, w1, r1⟩ := hx
  have h41 : c1 84 4 = nI w := by rw [g1 4 (by omega)]; exact h4
  rw [HI (k := 4) W hs.a84 rfl, bnd_s, h41]
  simp only [jn1_s]
  have hcl := cP_le (uB s) i
  rcases Nat.lt_or_ge i w with h5 | h5
  · refine Or.inl ⟨h5, ?_⟩
    rw [if_neg (nI_ge h5 (by omega)), show (nI i + 1) = nI (i + 1) from nI_1 i]
    simp only [sh_bit0 hsl (show i < 31 by omega)]
    by_cases e : s.testBit i = false
    · have hu := uB_iff.mpr e
      rw [if_pos e, HR (k := 6) W hs.a84 rfl, bnd_s, HI (k := 7) W hs.a84 rfl, bnd_s, w1, HS W hs.r8.2.2.2.2 (show cP (uB s) i < 10 by omega) (by omega), bnd_s, HI (k := 7) W hs.a84 rfl, bnd_s, HP (k := 7) W hs.a84 rfl, bnd_s]
      simp only [nrw0]
      refine ⟨_, _, ⟨rfl, _, rfl, ?_, ?_, ?_, ?_⟩, rfl⟩
      · intro a q1 q2
        rw [u2_other _ _ _ q1, u2_other _ _ _ q2]
        exact f1 a q1 q2
      · intro k hk
        rw [u2_ne _ _ (Or.inr hk), u2_other _ _ _ (by omega)]
        exact g1 k hk
      · rw [u2_same, u2_other _ _ _ (by omega), w1]
        simp only [cP]
        rw [if_pos hu]
        exact nI_1 _
      · intro q hq hqu
        rw [u2_other _ _ _ (by omega)]
        rcases Nat.lt_or_ge q i with g | g
        · have := cP_lt g hqu
          rw [u2_ne _ _ (Or.inr (by omega))]
          exact r1 q g hqu
        · rw [show q = i by omega, u2_same]
    · rw [if_neg e]
      refine ⟨_, _, ⟨rfl, c1, rfl, f1, g1, ?_, ?_⟩, rfl⟩
      · simp only [cP]
        rw [if_neg (fun r => e (uB_iff.mp r)), Nat.add_zero]
        exact w1
      · intro q hq hqu
        rcases Nat.lt_or_ge q i with g | g
        · exact r1 q g hqu
        · rw [show q = i by omega] at hqu
          exact absurd (uB_iff.mp hqu) e
  · refine Or.inr ?_
    rw [if_pos (nI_le h5 (by omega))]
    have ei : i = w := by omega
    subst ei
    refine ⟨c1, rfl, f1, g1, w1, fun r hr => ?_⟩
    obtain ⟨q1, q2, q3⟩ := aP_in _ _ hr
    have := r1 _ q1 q2
    rw [q3] at this
    exact this
theorem pourOne_eq (W : Wz sh z) (hs : SC sh y) {law : Nat} {V : MV} (hlaw : law ≤ 1) (hV : WFV V) (hTW : TW c V) {s l a e0 H0 : Nat} (hRE : RE c s (nW V)) (hsl : s < 2 ^ nW V) (hl : l ≤ 5) (ha : a ≤ 5) (hal : law = 1 ∨ a = 5) {u : Nat → Nat} (hu : u (36 * s + (6 * l + a)) < 1000000) (hlen : 36 * 2 ^ nW V ≤ y.2.1.2) (hrow : ∀ e, e < 36 * 2 ^ nW V → c y.2.1.1 e = nI (u e)) (hQ : QC law V e0 H0 u (10 * (36 * s + (6 * l + a)))) : ∃ c' u', f_X1_pourOneMore 84 (nI s) (nI l) (nI a) (nI (hdC law l)) (nI (u (36 * s + (6 * l + a)))) (HH sh c z) = some (HH sh c' z) ∧ (∀ b, b ≠ y.2.1.1 → c' b = c b) ∧ (∀ e, e < 36 * 2 ^ nW V → c' y.2.1.1 e = nI (u' e)) ∧ (∀ e, e < 36 * (s + 1) → u' e = u e) ∧ QC law V e0 H0 u' (10 * (36 * s + (6 * l + a) + 1)) := by
  have hn := hV.1
  have hw10 : nW V ≤ 10 := Nat.le_trans (cP_le _ _) hn
  have hp := pow_le10 hw10
  have hd := hs.dy
  have hll : y.2.1.2 ≤ 73728 := hd.2.2.2.2.2.2.2.2.2.2.2.2.2.2.2.1
  have hya := hd.2.2.2.2.2.1
  have hh5 : hdC law l ≤ 5 := by show (if law = 1 then l else 5) ≤ 5; split <;> omega
  have hrc := cP_le (uB s) (nW V)
  generalize hsrc : 36 * s + (6 * l + a) = src at *
  generalize hud : u src = ur at *
  unfold f_X1_pourOneMore
  rw [HG W hs.a84, bnd_s]
  refine wl2_fuel (fun r x h => x = nI r ∧ ∃ c1 u1 q, h = HH sh c1 z ∧ (∀ b, b ≠ y.2.1.1 → c1 b = c b) ∧ (∀ e, e < 36 * 2 ^ nW V → c1 y.2.1.1 e = nI (u1 e)) ∧ (∀ e, e < 36 * (s + 1) → u1 e = u e) ∧ q ≤ 10 ∧ QC law V e0 H0 u1 (10 * src + q) ∧ (∀ j, j < nW V → s.testBit j = false → q ≤ j → r ≤ cP (uB s) j) ∧ (r < cP (uB s) (nW V) → q ≤ aP (uB s) (nW V) r)) (cP (uB s) (nW V)) (by omega) (fun t => ∃ c' u', t = some (HH sh c' z) ∧ (∀ b, b ≠ y.2.1.1 → c' b = c b) ∧ (∀ e, e < 36 * 2 ^ nW V → c' y.2.1.1 e = nI (u' e)) ∧ (∀ e, e < 36 * (s + 1) → u' e = u e) ∧ QC law V e0 H0 u' (10 * (src + 1))) ?_ _ _ ⟨rfl, c, u, 0, rfl, fun _ _ => rfl, hrow, fun _ _ => rfl, by omega, hQ, fun _ _ _ _ => Nat.zero_le _, fun _ => Nat.zero_le _⟩
  intro rec r x h hr hx
  obtain ⟨rfl, c1, u1, q, rfl, f1, w1, s1, hq10, Q1, k1, k2⟩ := hx
  have hRE1 : c1 84 7 = nI (cP (uB s) (nW V)) := by rw [f1 84 (by omega)]; exact hRE.1
  rw [HI (k := 7) W hs.a84 rfl, bnd_s, hRE1]
  rcases Nat.lt_or_ge r (cP (uB s) (nW V)) with hlt | hlt
  · refine Or.inl ⟨hlt, ?_⟩
    obtain ⟨j1, j2, j3⟩ := aP_in _ _ hlt
    have hbit := uB_iff.mp j2
    have hqj := k2 hlt
    have e89 : c1 89 r = nI (aP (uB s) (nW V) r) := by rw [f1 89 (by omega)]; exact hRE.2 r hlt
    generalize hj : aP (uB s) (nW V) r = j at *
    obtain ⟨t1, t2, t3, t4⟩ := hTW.2.2 j j1
    obtain ⟨at1, at2, -⟩ := aP_in _ _ j1
    have hdj := hV.2.1 _ at1
    have e86 : c1 86 j = nI (kdC V j) := by rw [f1 86 (by omega)]; exact t2
    have e87 : c1 87 j = nI (szC V j) := by rw [f1 87 (by omega)]; exact t3
    have e88 : c1 88 j = nI (cmC V j) := by rw [f1 88 (by omega)]; exact t4
    have hk5 : kdC V j < 5 := hdj.1
    have hsz : szC V j ≤ 9 := hdj.2.2.1
    have hcm : cmC V j ≤ 99 := hdj.2.2.2.2.1
    have hsrcl : src < 36 * (s + 1) := by omega
    have hu1 : u1 src = ur := by rw [s1 src hsrcl]; exact hud
    have Q2 : QC law V e0 H0 u1 (10 * src + j) := by
      refine gQ_skip _ _ _ _ _ _ _ _ _ (by omega) Q1 (fun S' l' a' i' hg g1 g2 => ?_)
      have h1 := hg.2.2.1
      have h2 := hg.1
      have h3 := hg.2.1
      have h4 : S' = s ∧ q ≤ i' ∧ i' < j := by omega
      rw [h4.1] at hg
      have h5 := k1 i' h1 hg.2.2.2.1 h4.2.1
      have h6 := cP_lt h4.2.2 (uB_iff.mpr hg.2.2.2.1)
      omega
    have k1' : ∀ j', j' < nW V → s.testBit j' = false → j + 1 ≤ j' → r + 1 ≤ cP (uB s) j' := by
      intro j' g1 g2 g3
      have := cP_lt (show j < j' by omega) j2
      omega
    have k2' : r + 1 < cP (uB s) (nW V) → j + 1 ≤ aP (uB s) (nW V) (r + 1) := by
      intro g
      obtain ⟨b1, b2, b3⟩ := aP_in _ _ g
      rcases Nat.lt_or_ge j (aP (uB s) (nW V) (r + 1)) with q | q
      · exact q
      · have := cP_mono (uB s) q
        omega
    have hor := or_lt hsl j1
    have hput := or_put hbit
    have hpj := Nat.two_pow_pos j
    have skip : ¬ (kdC V j ≠ l ∧ kdC V j ≠ a) → QC law V e0 H0 u1 (10 * src + (j + 1)) := by
      intro hno
      refine gQ_skip _ _ _ _ _ _ _ _ _ (by omega) Q2 (fun S' l' a' i' hg g1 g2 => ?_)
      obtain ⟨p1, p2, p3, p4⟩ := pair_one hw10 ⟨hg.1, hg.2.1, hg.2.2.1⟩ ⟨hl, ha, j1⟩ (show 10 * (36 * S' + (6 * l' + a')) + i' = 10 * (36 * s + (6 * l + a)) + j by omega)
      have hm := hg.2.2.2.2.2.1
      rw [p2, p3, p4] at hm
      exact hno ⟨hm.1, hm.2.1⟩
    rw [if_neg (nI_ge hlt (by omega)), HR (k := 6) W hs.a84 rfl, bnd_s, HL W hs.r8.2.2.2.2 (show r < 10 by omega) (by omega), bnd_s, e89, HR (k := 1) W hs.a84 rfl, bnd_s, HL W hs.r8.2.1 (show j < 10 by omega) (by omega), bnd_s, e86]
    simp only [jn1_s]
    rw [show (nI r + 1) = nI (r + 1) from nI_1 r]
    by_cases g1 : kdC V j = l
    · rw [if_pos (by rw [g1])]
      exact ⟨_, _, ⟨rfl, c1, u1, j + 1, rfl, f1, w1, s1, by omega, skip (fun q => q.1 g1), k1', k2'⟩, rfl⟩
    · rw [if_neg (by rw [nI_eq (by omega) (by omega)]; exact g1), bnd_s, HL W hs.r8.2.1 (show j < 10 by omega) (by omega), bnd_s, e86]
      by_cases g2 : kdC V j = a
      · rw [if_pos (by rw [g2])]
        exact ⟨_, _, ⟨rfl, c1, u1, j + 1, rfl, f1, w1, s1, by omega, skip (fun q => q.2 g2), k1', k2'⟩, rfl⟩
      · have hto : 36 * (s ||| 2 ^ j) + (6 * kdC V j + hdC law l) < 36 * 2 ^ nW V := by omega
        have hgs : gS (nW V) (kdC V) okC (mxC law) u1 s l a j := ⟨hl, ha, j1, hbit, trivial, ⟨g1, g2, hal⟩, by rw [hsrc, hu1]; exact hu⟩
        have hpush := gQ_push (nW V) (kdC V) (cmC V) (szC V) okC (mxC law) (hdC law) e0 H0 hw10 hgs (by omega) hh5 (by rw [hsrc]; exact Q2)
        rw [hsrc, hu1] at hpush
        have htt : u1 (36 * (s ||| 2 ^ j) + (6 * kdC V j + hdC law l)) ≤ 1000000 := (Q2 _ hto).1
        rw [if_neg (by rw [nI_eq (by omega) (by omega)]; exact g2), bnd_s, HL W hs.r8.2.1 (show j < 10 by omega) (by omega), bnd_s, e86, nm_s, sh_one (by omega), or_n, show (36 : Int32) = nI 36 from rfl, show (6 : Int32) = nI 6 from rfl, pk_mul, pk_mul, nI_add, nI_add, show (s ||| 2 ^ j) * 36 + kdC V j * 6 + hdC law l = 36 * (s ||| 2 ^ j) + (6 * kdC V j + hdC law l) by omega, HR (k := 3) W hs.a84 rfl, bnd_s, HL W hs.r8.2.2.2.1 (show j < 10 by omega) (by omega), bnd_s, e88]
        generalize hto' : 36 * (s ||| 2 ^ j) + (6 * kdC V j + hdC law l) = to at *
        have hto36 : to < y.2.1.2 := by omega
        have hgt : 36 * (s + 1) ≤ to := by omega
        have tail : ∀ x : Int32, x = nI (max ur (cmC V j)) → ∃ y1 y2, (y1 = nI (r + 1) ∧ ∃ c1 u1 q, y2 = HH sh c1 z ∧ (∀ b, b ≠ y.2.1.1 → c1 b = c b) ∧ (∀ e, e < 36 * 2 ^ nW V → c1 y.2.1.1 e = nI (u1 e)) ∧ (∀ e, e < 36 * (s + 1) → u1 e = u e) ∧ q ≤ 10 ∧ QC law V e0 H0 u1 (10 * src + q) ∧ (∀ j, j < nW V → s.testBit j = false → q ≤ j → r + 1 ≤ cP (uB s) j) ∧ (r + 1 < cP (uB s) (nW V) → q ≤ aP (uB s) (nW V) (r + 1))) ∧ (bnd (gR (HH sh c1 z) 84 1 2) fun a23 => bnd (ldI 0 (HH sh c1 z) a23 (nI j)) fun x24 => nm (x + x24) fun v25 => if nI to < 0 then rec (nI (r + 1)) (HH sh c1 z) else (bnd (gR (HH sh c1 z) 84 1 8) fun a27 => bnd (aLn (HH sh c1 z) a27) fun x28 => if x28 ≤ nI to then rec (nI (r + 1)) (HH sh c1 z) else (bnd (gR (HH sh c1 z) 84 1 8) fun a30 => bnd (ldI 0 (HH sh c1 z) a30 (nI to)) fun x31 => if x31 ≤ v25 then rec (nI (r + 1)) (HH sh c1 z) else (bnd (gR (HH sh c1 z) 84 1 8) fun a33 => bnd (stI 0 (HH sh c1 z) a33 (nI to) v25) fun h34 => rec (nI (r + 1)) h34)))) = rec y1 y2 := by
          intro x ex
          subst ex
          rw [HR (k := 2) W hs.a84 rfl, bnd_s, HL W hs.r8.2.2.1 (show j < 10 by omega) (by omega), bnd_s, e87, nm_s, nI_add, if_neg (nI_pos (by omega)), HR (k := 8) W hs.a84 rfl, bnd_s, HN W hd.2.1 (by omega), bnd_s, if_neg (nI_ge hto36 (by omega)), bnd_s, HL W hd.2.1 hto36 (by omega), bnd_s, w1 to hto]
          have s1' : ∀ e, e < 36 * (s + 1) → (fun x => if x = to then min (u1 to) (max ur (cmC V j) + szC V j) else u1 x) e = u e := fun e he => by
            show (if e = to then _ else u1 e) = u e
            rw [if_neg (by omega)]
            exact s1 e he
          by_cases g3 : u1 to ≤ max ur (cmC V j) + szC V j
          · rw [if_pos (nI_le g3 (by omega))]
            refine ⟨_, _, ⟨rfl, c1, _, j + 1, rfl, f1, ?_, s1', by omega, hpush, k1', k2'⟩, rfl⟩
            intro e he
            show _ = nI (if e = to then min (u1 to) (max ur (cmC V j) + szC V j) else u1 e)
            by_cases g4 : e = to
            · rw [if_pos g4, Nat.min_eq_left g3, g4]; exact w1 to hto
            · rw [if_neg g4]; exact w1 e he
          · rw [if_neg (nI_ge (by omega) (by omega)), bnd_s, HS W hd.2.1 hto36 (by omega), bnd_s, nrw0]
            refine ⟨_, _, ⟨rfl, _, _, j + 1, rfl, fun b hb => by rw [u2_other _ _ _ hb]; exact f1 b hb, ?_, s1', by omega, hpush, k1', k2'⟩, rfl⟩
            intro e he
            show _ = nI (if e = to then min (u1 to) (max ur (cmC V j) + szC V j) else u1 e)
            by_cases g4 : e = to
            · rw [if_pos g4, Nat.min_eq_right (by omega), g4, u2_same]
            · rw [if_neg g4, u2_ne _ _ (Or.inr g4)]; exact w1 e he
        by_cases g5 : cmC V j ≤ ur
        · rw [if_pos (nI_le g5 (by omega))]
          exact tail _ (by rw [Nat.max_eq_left g5])
        · rw [if_neg (nI_ge (by omega) (by omega)), bnd_s, HL W hs.r8.2.2.2.1 (show j < 10 by omega) (by omega), bnd_s, e88]
          exact tail _ (by rw [Nat.max_eq_right (by omega)])
  · refine Or.inr ?_
    rw [if_pos (nI_le hlt (by omega))]
    refine ⟨c1, u1, rfl, f1, w1, s1, gQ_skip _ _ _ _ _ _ _ _ _ (by omega) Q1 (fun S' l' a' i' hg g1 g2 => ?_)⟩
    have h1 := hg.2.2.1
    have h2 := hg.1
    have h3 := hg.2.1
    have h4 : S' = s ∧ q ≤ i' := by omega
    rw [h4.1] at hg
    have h5 := k1 i' h1 hg.2.2.2.1 h4.2
    have h6 := cP_lt h1 (uB_iff.mpr hg.2.2.2.1)
    omega
end PO
