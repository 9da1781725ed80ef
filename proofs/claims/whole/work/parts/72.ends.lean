/-! ===== the class's ends of sets ===== -/
def EVp (law : Nat) (u : Nat → Nat) (s p v : Nat) : Prop := isMin (fun h => ∃ l a, l ≤ 5 ∧ a ≤ 5 ∧ (law = 1 ∨ a = 5) ∧ 6 * l + a < p ∧ u (36 * s + (6 * l + a)) = h ∧ h < FARn) v
theorem EVp.add {law : Nat} {u : Nat → Nat} {s l a v : Nat} (hl : l ≤ 5) (ha : a ≤ 5) (hla : law = 1 ∨ a = 5) (h : EVp law u s (6 * l + a) v) (hx : u (36 * s + (6 * l + a)) < FARn) : EVp law u s (6 * l + a + 1) (min v (u (36 * s + (6 * l + a)))) := by
  obtain ⟨h1, h2, h3⟩ := h
  refine ⟨by omega, fun q => ?_, ?_⟩
  · rcases Nat.lt_or_ge (u (36 * s + (6 * l + a))) v with g | g
    · rw [Nat.min_eq_right (by omega)]
      exact ⟨l, a, hl, ha, hla, by omega, rfl, hx⟩
    · rw [Nat.min_eq_left g] at q ⊢
      obtain ⟨l', a', r1, r2, r3, r4, r5⟩ := h2 q
      exact ⟨l', a', r1, r2, r3, by omega, r5⟩
  · rintro x ⟨l', a', r1, r2, r3, r4, r5, r6⟩
    rcases Nat.lt_or_ge (6 * l' + a') (6 * l + a) with g | g
    · have := h3 x ⟨l', a', r1, r2, r3, g, r5, r6⟩
      omega
    · have e1 : l' = l ∧ a' = a := by omega
      rw [e1.1, e1.2] at r5
      omega
theorem EVp.jump {law : Nat} {u : Nat → Nat} {s p p' v : Nat} (hp : p ≤ p') (h : EVp law u s p v) (hno : ∀ l a, l ≤ 5 → a ≤ 5 → (law = 1 ∨ a = 5) → p ≤ 6 * l + a → 6 * l + a < p' → ¬ u (36 * s + (6 * l + a)) < FARn) : EVp law u s p' v := by
  refine isMin.congr h (fun x => ⟨?_, ?_⟩)
  · rintro ⟨l, a, r1, r2, r3, r4, r5⟩
    exact ⟨l, a, r1, r2, r3, by omega, r5⟩
  · rintro ⟨l, a, r1, r2, r3, r4, r5, r6⟩
    refine ⟨l, a, r1, r2, r3, ?_, r5, r6⟩
    rcases Nat.lt_or_ge (6 * l + a) p with g | g
    · exact g
    · exact absurd (by rw [r5]; exact r6) (hno l a r1 r2 r3 g r4)
theorem EVp.keep {law : Nat} {u u' : Nat → Nat} {s p v : Nat} (h : EVp law u s p v) (e : ∀ x, x < 36 * (s + 1) → u' x = u x) : EVp law u' s p v := by
  refine isMin.congr h (fun x => ⟨?_, ?_⟩)
  · rintro ⟨l, a, r1, r2, r3, r4, r5, r6⟩
    exact ⟨l, a, r1, r2, r3, r4, by rw [e _ (by omega)]; exact r5, r6⟩
  · rintro ⟨l, a, r1, r2, r3, r4, r5, r6⟩
    rw [e _ (by omega)] at r5
    exact ⟨l, a, r1, r2, r3, r4, r5, r6⟩
theorem TW.kept {c c' : Nat → Nat → Int32} {V : MV} (h : TW c V) (h1 : ∀ k, k ≠ 7 → c' 84 k = c 84 k) (h2 : c' 85 = c 85 ∧ c' 86 = c 86 ∧ c' 87 = c 87 ∧ c' 88 = c 88) : TW c' V := by
  obtain ⟨a1, a2, a3⟩ := h
  refine ⟨by rw [h1 4 (by omega)]; exact a1, by rw [h1 5 (by omega)]; exact a2, fun j hj => ?_⟩
  rw [h2.1, h2.2.1, h2.2.2.1, h2.2.2.2]
  exact a3 j hj
section FE
variable {n : Nat} {A : AS} {y : Dy} {sh : Nat → Shp} {c c' : Nat → Nat → Int32} {z : Nat × Nat}
/-- the rows beside which nothing changes, while ends are filled -/
def FrE (lst E : Nat) (c c' : Nat → Nat → Int32) : Prop := (∀ b, b ≠ 84 → b ≠ 89 → b ≠ lst → b ≠ E → c' b = c b) ∧ ∀ k, k ≠ 7 → c' 84 k = c 84 k
theorem FrE.trans {lst E : Nat} {c c' c'' : Nat → Nat → Int32} (h : FrE lst E c c') (g : FrE lst E c' c'') : FrE lst E c c'' := ⟨fun b h1 h2 h3 h4 => (g.1 b h1 h2 h3 h4).trans (h.1 b h1 h2 h3 h4), fun k hk => (g.2 k hk).trans (h.2 k hk)⟩
theorem ends_loop (W : Wz sh z) (hs : SC sh y) {law : Nat} {V : MV} (hlaw : law ≤ 1) (hV : WFV V) (hTW : TW c V) {E LE e0 H0 : Nat} (hE : sh E = sA 0 LE) (hE2 : E = y.2.2.1.1 ∨ E = y.2.2.2.1) (hLE : 2 ^ nW V ≤ LE) (hLE2 : LE ≤ 2048) (hlen : 36 * 2 ^ nW V ≤ y.2.1.2) {u0 : Nat → Nat} (hrow : ∀ e, e < 36 * 2 ^ nW V → c y.2.1.1 e = nI (u0 e)) (hQ : QC law V e0 H0 u0 0) : ∃ c' u, wl2 (fun (r12 : Int32 → Hp → Option Hp) (i10 : Int32) (h11 : Hp) => bnd (gI h11 84 1 5) fun x13 => jn0 (some h11) fun k14 => if x13 ≤ i10 then k14 else (bnd (aLn h11 E) fun x16 => if x16 ≤ i10 then k14 else (bnd (f_X1_takeRest 84 i10 h11) fun h18 => bnd (stI 0 h18 E i10 (1000000 : Int32)) fun h19 => wl2 (fun (r22 : Int32 → Hp → Option Hp) (i20 : Int32) (h21 : Hp) => if (6 : Int32) ≤ i20 then (r12 (i10 + (1 : Int32)) h21) else (bnd (f_X6_firstBefore (nI law)) fun x24 => wl2 (fun (r27 : Int32 → Hp → Option Hp) (i25 : Int32) (h26 : Hp) => if (6 : Int32) ≤ i25 then (r22 (i20 + (1 : Int32)) h26) else (bnd (gR h26 84 1 8) fun a29 => bnd (f_X6_memoryOf i20 i25) fun x30 => bnd (ldI 0 h26 a29 ((i10 * (36 : Int32)) + x30)) fun x31 => jn1 (fun (h32 : Hp) => r27 (i25 + (1 : Int32)) h32) fun k33 => if (1000000 : Int32) ≤ x31 then (k33 h26) else (bnd (ldI 0 h26 E i10) fun x35 => bnd (stI 0 h26 E i10 (mn x35 x31)) fun h36 => bnd (f_X6_heldBefore (nI law) i20) fun x37 => bnd (f_X1_pourOneMore 84 i10 i20 i25 x37 x31 h36) fun h38 => k33 h38))) fuel x24 h21)) fuel (0 : Int32) h19))) fuel (0 : Int32) (HH sh c z) = some (HH sh c' z) ∧ FrE y.2.1.1 E c c' ∧ QC law V e0 H0 u (10 * (36 * 2 ^ nW V)) ∧ ∀ s, s < 2 ^ nW V → ∃ v, c' E s = nI v ∧ EVp law u s 36 v := by
  have hn := hV.1
  have hw10 : nW V ≤ 10 := Nat.le_trans (cP_le _ _) hn
  have hp := pow_le10 hw10
  have hd := hs.dy
  have hll : y.2.1.2 ≤ 73728 := hd.2.2.2.2.2.2.2.2.2.2.2.2.2.2.2.1
  have hya := hd.2.2.2.2.2.1
  have hyh := hd.2.2.2.2.2.2.1
  have hyt := hd.2.2.2.2.2.2.2.1
  have nlh := hd.2.2.2.2.2.2.2.2.2.2.2.1
  have nlt := hd.2.2.2.2.2.2.2.2.2.2.2.2.1
  have hEl : E ≠ y.2.1.1 := by omega
  have hE84 : E ≠ 84 ∧ E ≠ 85 ∧ E ≠ 86 ∧ E ≠ 87 ∧ E ≠ 88 ∧ E ≠ 89 := by omega
  have hl84 : y.2.1.1 ≠ 84 ∧ y.2.1.1 ≠ 85 ∧ y.2.1.1 ≠ 86 ∧ y.2.1.1 ≠ 87 ∧ y.2.1.1 ≠ 88 ∧ y.2.1.1 ≠ 89 := by omega
  have tw : ∀ c1, FrE y.2.1.1 E c c1 → TW c1 V := fun c1 f => hTW.kept f.2 ⟨f.1 85 (by omega) (by omega) (by omega) (by omega), f.1 86 (by omega) (by omega) (by omega) (by omega), f.1 87 (by omega) (by omega) (by omega) (by omega), f.1 88 (by omega) (by omega) (by omega) (by omega)⟩
  have h0 : (if law = 1 then (0 : Nat) else 5) ≤ 5 := by split <;> omega
  refine wl2_fuel (fun s x h => x = nI s ∧ ∃ c1 u, h = HH sh c1 z ∧ FrE y.2.1.1 E c c1 ∧ (∀ e, e < 36 * 2 ^ nW V → c1 y.2.1.1 e = nI (u e)) ∧ QC law V e0 H0 u (10 * (36 * s)) ∧ ∀ s', s' < s → ∃ v, c1 E s' = nI v ∧ EVp law u s' 36 v) (2 ^ nW V) (by omega) (fun t => ∃ c' u, t = some (HH sh c' z) ∧ FrE y.2.1.1 E c c' ∧ QC law V e0 H0 u (10 * (36 * 2 ^ nW V)) ∧ ∀ s, s < 2 ^ nW V → ∃ v, c' E s = nI v ∧ EVp law u s 36 v) ?_ _ _ ⟨rfl, c, u0, rfl, ⟨fun _ _ _ _ _ => rfl, fun _ _ => rfl⟩, hrow, hQ, fun s' hs' => absurd hs' (by omega)⟩
  intro rec s x h hsi hx
  obtain ⟨rfl, c1, u1, rfl, f1, w1, Q1, e1⟩ := hx
  have t1 := tw c1 f1
  simp only [jn0_s]
  rw [HI (k := 5) W hs.a84 rfl, bnd_s, t1.2.1]
  rcases Nat.lt_or_ge s (2 ^ nW V) with hlt | hlt
  · refine Or.inl ⟨hlt, ?_⟩
    obtain ⟨c2, e2, f2, g2, r2⟩ := takeRest_eq (c := c1) (s := s) W hs hw10 (by omega) t1.1
    rw [if_neg (nI_ge hlt (by omega)), HN W hE (by omega), bnd_s, if_neg (nI_ge (show s < LE by omega) (by omega)), e2, bnd_s, HS W hE (show s < LE by omega) (by omega), bnd_s]
    have f3 : FrE y.2.1.1 E c (u2 c2 E s (nrw 0 1000000)) := f1.trans ⟨fun b p1 p2 p3 p4 => by rw [u2_other _ _ _ p4]; exact f2 b p1 p2, fun k hk => by rw [u2_other _ _ _ (by omega)]; exact g2 k hk⟩
    have w3 : ∀ e, e < 36 * 2 ^ nW V → (u2 c2 E s (nrw 0 1000000)) y.2.1.1 e = nI (u1 e) := fun e he => by rw [u2_other _ _ _ (by omega), f2 _ (by omega) (by omega)]; exact w1 e he
    have r3 : RE (u2 c2 E s (nrw 0 1000000)) s (nW V) := ⟨by rw [u2_other _ _ _ (by omega)]; exact r2.1, fun r hr => by rw [u2_other _ _ _ (by omega)]; exact r2.2 r hr⟩
    have e3 : ∀ s', s' < s → ∃ v, (u2 c2 E s (nrw 0 1000000)) E s' = nI v ∧ EVp law u1 s' 36 v := by
      intro s' hs'
      obtain ⟨v, q1, q2⟩ := e1 s' hs'
      exact ⟨v, by rw [u2_ne _ _ (Or.inr (by omega)), f2 _ (by omega) (by omega)]; exact q1, q2⟩
    refine wl2_fuel (fun l x h => x = nI l ∧ ∃ c4 u v, h = HH sh c4 z ∧ FrE y.2.1.1 E c c4 ∧ (∀ e, e < 36 * 2 ^ nW V → c4 y.2.1.1 e = nI (u e)) ∧ QC law V e0 H0 u (10 * (36 * s + 6 * l)) ∧ (∀ s', s' < s → ∃ v, c4 E s' = nI v ∧ EVp law u s' 36 v) ∧ RE c4 s (nW V) ∧ c4 E s = nI v ∧ EVp law u s (6 * l) v) 6 (by omega) (fun t => ∃ y1 y3, (y1 = nI (s + 1) ∧ ∃ c1 u, y3 = HH sh c1 z ∧ FrE y.2.1.1 E c c1 ∧ (∀ e, e < 36 * 2 ^ nW V → c1 y.2.1.1 e = nI (u e)) ∧ QC law V e0 H0 u (10 * (36 * (s + 1))) ∧ ∀ s', s' < s + 1 → ∃ v, c1 E s' = nI v ∧ EVp law u s' 36 v) ∧ t = rec y1 y3) ?_ _ _ ⟨rfl, _, u1, 1000000, rfl, f3, w3, Q1, e3, r3, u2_same _ _ _ _, ⟨Nat.le_refl _, fun q => absurd q (by unfold FARn; omega), fun x r => by obtain ⟨l, a, _, _, _, r4, _⟩ := r; omega⟩⟩
    intro rec2 l x h hl hx
    obtain ⟨rfl, c4, u4, v4, rfl, f4, w4, Q4, e4, r4, x4, m4⟩ := hx
    rcases Nat.lt_or_ge l 6 with hl6 | hl6
    · refine Or.inl ⟨hl6, ?_⟩
      rw [if_neg (six_ge hl6), first_eq law hlaw, bnd_s]
      have Q4' : QC law V e0 H0 u4 (10 * (36 * s + (6 * l + (if law = 1 then 0 else 5)))) := by
        refine gQ_skip _ _ _ _ _ _ _ _ _ (by omega) Q4 (fun S' l' a' i' hg g1 g2 => ?_)
        have h1 := hg.2.2.1
        have h2 := hg.1
        have h3 := hg.2.1
        have h4 := hg.2.2.2.2.2.1.2.2
        by_cases g : law = 1
        · rw [if_pos g] at g2; omega
        · rw [if_neg g] at g2; omega
      have m4' : EVp law u4 s (6 * l + (if law = 1 then 0 else 5)) v4 := by
        refine m4.jump (by omega) (fun l' a' p1 p2 p3 p4 p5 => ?_)
        by_cases g : law = 1
        · rw [if_pos g] at p5; omega
        · rw [if_neg g] at p5; omega
      refine wl2_fuel (fun p x h => x = nI ((if law = 1 then 0 else 5) + p) ∧ ∃ c4 u v, h = HH sh c4 z ∧ FrE y.2.1.1 E c c4 ∧ (∀ e, e < 36 * 2 ^ nW V → c4 y.2.1.1 e = nI (u e)) ∧ QC law V e0 H0 u (10 * (36 * s + (6 * l + ((if law = 1 then 0 else 5) + p)))) ∧ (∀ s', s' < s → ∃ v, c4 E s' = nI v ∧ EVp law u s' 36 v) ∧ RE c4 s (nW V) ∧ c4 E s = nI v ∧ EVp law u s (6 * l + ((if law = 1 then 0 else 5) + p)) v) (6 - (if law = 1 then 0 else 5)) (by omega) (fun t => ∃ y1 y3, (y1 = nI (l + 1) ∧ ∃ c4 u v, y3 = HH sh c4 z ∧ FrE y.2.1.1 E c c4 ∧ (∀ e, e < 36 * 2 ^ nW V → c4 y.2.1.1 e = nI (u e)) ∧ QC law V e0 H0 u (10 * (36 * s + 6 * (l + 1))) ∧ (∀ s', s' < s → ∃ v, c4 E s' = nI v ∧ EVp law u s' 36 v) ∧ RE c4 s (nW V) ∧ c4 E s = nI v ∧ EVp law u s (6 * (l + 1)) v) ∧ t = rec2 y1 y3) ?_ _ _ ⟨rfl, c4, u4, v4, rfl, f4, w4, Q4', e4, r4, x4, m4'⟩
      intro rec3 p x h hpi hx
      obtain ⟨rfl, c5, u5, v5, rfl, f5, w5, Q5, e5, r5, x5, m5⟩ := hx
      have hfl : ∀ a, (if law = 1 then 0 else 5) ≤ a → a ≤ 5 → law = 1 ∨ a = 5 := by intro a h1 h2; split at h1 <;> omega
      generalize (if law = 1 then (0 : Nat) else 5) = f0 at *
      rcases Nat.lt_or_ge (f0 + p) 6 with hp6 | hp6
      · refine Or.inl ⟨by omega, ?_⟩
        have hal := hfl (f0 + p) (by omega) (by omega)
        have hidx : 36 * s + (6 * l + (f0 + p)) < 36 * 2 ^ nW V := by omega
        have hu5 : u5 (36 * s + (6 * l + (f0 + p))) ≤ 1000000 := (Q5 _ hidx).1
        rw [if_neg (six_ge hp6), HR (k := 8) W hs.a84 rfl, bnd_s, mem_eq, bnd_s, show (36 : Int32) = nI 36 from rfl, pk_mul, nI_add, show s * 36 + (6 * l + (f0 + p)) = 36 * s + (6 * l + (f0 + p)) by omega, HL W hd.2.1 (show 36 * s + (6 * l + (f0 + p)) < y.2.1.2 by omega) (by omega), bnd_s, w5 _ hidx]
        simp only [jn1_s]
        rw [show (nI (f0 + p) + 1) = nI (f0 + (p + 1)) from nI_1 _, show f0 + (p + 1) = f0 + p + 1 by omega]
        generalize f0 + p = a at *
        rcases Nat.lt_or_ge (u5 (36 * s + (6 * l + a))) 1000000 with hfar | hfar
        · have hv5 : v5 ≤ 1000000 := m5.1
          obtain ⟨c6, u6, e6, f6, w6, s6, Q6⟩ := pourOne_eq (c := u2 c5 E s (nI (min v5 (u5 (36 * s + (6 * l + a)))))) (u := u5) W hs hlaw hV (tw _ (f5.trans ⟨fun b p1 p2 p3 p4 => u2_other _ _ _ p4, fun k hk => u2_ne _ _ (Or.inl (by omega))⟩)) ⟨by rw [u2_other _ _ _ (by omega)]; exact r5.1, fun r hr => by rw [u2_other _ _ _ (by omega)]; exact r5.2 r hr⟩ hlt (show l ≤ 5 by omega) (show a ≤ 5 by omega) hal hfar hlen (fun e he => by rw [u2_other _ _ _ (by omega)]; exact w5 e he) Q5
          rw [if_neg (show ¬ (1000000 : Int32) ≤ nI (u5 (36 * s + (6 * l + a))) from nI_ge (b := 1000000) hfar (by omega)), HL W hE (show s < LE by omega) (by omega), bnd_s, x5, mn_n (by omega) (by omega), HS W hE (show s < LE by omega) (by omega), bnd_s, nrw0, held_n hlaw, bnd_s, e6, bnd_s]
          refine ⟨_, _, ⟨rfl, c6, u6, min v5 (u5 (36 * s + (6 * l + a))), rfl, ?_, w6, ?_, ?_, ?_, ?_, ?_⟩, rfl⟩
          · exact f5.trans ⟨fun b p1 p2 p3 p4 => by rw [f6 b p3, u2_other _ _ _ p4], fun k hk => by rw [f6 84 (by omega), u2_ne _ _ (Or.inl (by omega))]⟩
          · rw [show 36 * s + (6 * l + (a + 1)) = 36 * s + (6 * l + a) + 1 by omega]; exact Q6
          · intro s' hs'
            obtain ⟨v, q1, q2⟩ := e5 s' hs'
            exact ⟨v, by rw [f6 E hEl, u2_ne _ _ (Or.inr (by omega))]; exact q1, q2.keep (fun x hx => s6 x (by omega))⟩
          · exact ⟨by rw [f6 84 (by omega), u2_other _ _ _ (by omega)]; exact r5.1, fun r hr => by rw [f6 89 (by omega), u2_other _ _ _ (by omega)]; exact r5.2 r hr⟩
          · rw [f6 E hEl, u2_same]
          · rw [show 6 * l + (a + 1) = 6 * l + a + 1 by omega]
            exact (EVp.add (by omega) (by omega) hal m5 hfar).keep (fun x hx => s6 x hx)
        · rw [if_pos (show (1000000 : Int32) ≤ nI (u5 (36 * s + (6 * l + a))) from nI_le (a := 1000000) hfar (by omega))]
          refine ⟨_, _, ⟨rfl, c5, u5, v5, rfl, f5, w5, ?_, e5, r5, x5, ?_⟩, rfl⟩
          · refine gQ_skip _ _ _ _ _ _ _ _ _ (by omega) Q5 (fun S' l' a' i' hg g1 g2 => ?_)
            have h1 := hg.2.2.1
            have h2 := hg.1
            have h3 := hg.2.1
            have h4 : 36 * S' + (6 * l' + a') = 36 * s + (6 * l + a) := by omega
            have h5 := hg.2.2.2.2.2.2
            rw [h4] at h5
            unfold FARn at h5
            omega
          · refine m5.jump (by omega) (fun l' a' p1 p2 p3 p4 p5 p6 => ?_)
            have h4 : 6 * l' + a' = 6 * l + a := by omega
            rw [h4] at p6
            unfold FARn at p6
            omega
      · refine Or.inr ?_
        rw [if_pos (six_le hp6 (by omega)), nI_1]
        have h6 : f0 + p = 6 := by omega
        rw [h6] at Q5 m5
        refine ⟨_, _, ⟨rfl, c5, u5, v5, rfl, f5, w5, ?_, e5, r5, x5, ?_⟩, rfl⟩
        · rw [show 36 * s + 6 * (l + 1) = 36 * s + (6 * l + 6) by omega]; exact Q5
        · rw [show 6 * (l + 1) = 6 * l + 6 by omega]; exact m5
    · refine Or.inr ?_
      rw [if_pos (six_le hl6 (by omega)), nI_1]
      have h6 : l = 6 := by omega
      subst h6
      refine ⟨_, _, ⟨rfl, c4, u4, rfl, f4, w4, ?_, ?_⟩, rfl⟩
      · rw [show 36 * (s + 1) = 36 * s + 6 * 6 by omega]; exact Q4
      · intro s' hs'
        rcases Nat.lt_or_ge s' s with g | g
        · exact e4 s' g
        · rw [show s' = s by omega]
          exact ⟨v4, x4, m4⟩
  · refine Or.inr ?_
    rw [if_pos (nI_le hlt (by omega))]
    have ei : s = 2 ^ nW V := by omega
    rw [ei] at Q1 e1
    exact ⟨c1, u1, rfl, f1, Q1, e1⟩
end FE
