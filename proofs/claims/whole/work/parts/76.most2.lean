/-! ===== most ===== -/
theorem isMin_ex {P : Nat → Prop} (hP : ∀ h, P h → h < FARn) : ∃ v, isMin P v := by
  by_cases g : ∃ k, P k
  · obtain ⟨k, h1, h2⟩ := pk_least P g
    refine ⟨k, Nat.le_of_lt (hP k h1), fun _ => h1, fun h q => ?_⟩
    rcases Nat.lt_or_ge h k with r | r
    · exact absurd q (h2 h r)
    · exact r
  · exact ⟨FARn, Nat.le_refl _, fun q => absurd q (by omega), fun h q => absurd ⟨h, q⟩ g⟩
theorem isMin.add {P : Nat → Prop} {v x : Nat} (h : isMin P v) (hx : x < FARn) : isMin (fun k => P k ∨ k = x) (min v x) := by
  obtain ⟨h1, h2, h3⟩ := h
  refine ⟨by omega, fun q => ?_, ?_⟩
  · rcases Nat.lt_or_ge x v with g | g
    · rw [Nat.min_eq_right (by omega)]; exact Or.inr rfl
    · rw [Nat.min_eq_left g] at q ⊢; exact Or.inl (h2 q)
  · rintro k (r | r)
    · have := h3 k r; omega
    · omega
theorem hour_lt {V : MV} (hV : WFV V) : mvH V < 1000000 := by
  have h1 : ∀ m, m ≤ mvN V → pSum (mvD V) m ≤ 9 * m := by
    intro m
    induction m with
    | zero => intro _; exact Nat.le_refl 0
    | succ m ih =>
      intro hm
      have := ih (by omega)
      have := (hV.2.1 m (by omega)).2.2.1
      simp only [pSum]
      split <;> omega
  have h2 := h1 (mvN V) (Nat.le_refl _)
  have h3 := hV.2.2.2.2.1
  have h4 := hV.1
  omega
section M2
variable {n : Nat} {A : AS} {y : Dy} {sh : Nat → Shp} {c c' : Nat → Nat → Int32} {z : Nat × Nat}
abbrev pc (s : Nat) : Nat := cP (fun q => s.testBit q) 10
theorem bits_eq {S : Nat} (hS : S < 2147483648) : f_X7_bits (nI S) = some (nI (pc S)) := by
  unfold f_X7_bits
  refine wl2_fuel (fun k x j => x = nI (cP (fun q => S.testBit q) k) ∧ j = nI k) 10 (by omega) (fun t => t = some (nI (pc S))) ?_ _ _ ⟨rfl, rfl⟩
  intro rec k x j hk hx
  obtain ⟨rfl, rfl⟩ := hx
  rcases Nat.lt_or_ge k 10 with h5 | h5
  · refine Or.inl ⟨h5, ?_⟩
    rw [if_neg (ten_ge h5), nm_s, sh_bit hS (by omega), nI_add, nI_1, bit_n]
    exact ⟨_, _, ⟨rfl, rfl⟩, rfl⟩
  · refine Or.inr ?_
    rw [if_pos (ten_le h5 (by omega)), show k = 10 by omega]
theorem soonestOf_eq (W : Wz sh z) (hS : SMo sh) {t : Nat → Nat} {N S : Nat} (hN : N ≤ 1024) (hSN : S < N) (hrow : ∀ e, e < 36 * N → c 106 e = nI (t e)) (ht : ∀ e, e < 36 * N → t e ≤ FARn) : ∃ v, f_X7_soonestOf 99 (nI S) (HH sh c z) = some (nI v) ∧ MVp t S v := by
  unfold f_X7_soonestOf
  rw [HG W hS.1, bnd_s]
  refine wl2_fuel (fun k x j => (∃ v, x = nI v ∧ isMin (fun h => ∃ p, p < k ∧ t (36 * S + p) = h ∧ h < FARn) v) ∧ j = nI k) 36 (by omega) (fun r => ∃ v, r = some (nI v) ∧ MVp t S v) ?_ _ _ ⟨⟨FARn, rfl, Nat.le_refl _, fun q => absurd q (by omega), fun h q => by obtain ⟨p, q, _⟩ := q; omega⟩, rfl⟩
  intro rec k x j hk hx
  obtain ⟨⟨v, rfl, hv⟩, rfl⟩ := hx
  have hv1 : v ≤ 1000000 := hv.1
  rcases Nat.lt_or_ge k 36 with h5 | h5
  · refine Or.inl ⟨h5, ?_⟩
    have htk : t (36 * S + k) ≤ 1000000 := ht _ (by omega)
    rw [if_neg (t36_ge h5), HR (k := 11) W hS.1 rfl, bnd_s, show (36 : Int32) = nI 36 from rfl, pk_mul, nI_add, HL W hS.w.1 (show 36 * S + k < 36864 by omega) (by omega), bnd_s, hrow _ (by omega)]
    simp only [jn1_s]
    rw [nI_1]
    have key : isMin (fun h => ∃ p, p < k + 1 ∧ t (36 * S + p) = h ∧ h < FARn) (min v (t (36 * S + k))) := by
      rcases Nat.lt_or_ge (t (36 * S + k)) FARn with g | g
      · refine (hv.add g).congr (fun h => ⟨?_, ?_⟩)
        · rintro (⟨p, r1, r2⟩ | r)
          · exact ⟨p, by omega, r2⟩
          · exact ⟨k, by omega, r.symm, by rw [r]; exact g⟩
        · rintro ⟨p, r1, r2, r3⟩
          rcases Nat.lt_or_ge p k with q | q
          · exact Or.inl ⟨p, q, r2, r3⟩
          · rw [show p = k by omega] at r2
            exact Or.inr r2.symm
      · have e : min v (t (36 * S + k)) = v := by
          have := hv.1
          omega
        rw [e]
        refine hv.congr (fun h => ⟨?_, ?_⟩)
        · rintro ⟨p, r1, r2⟩
          exact ⟨p, by omega, r2⟩
        · rintro ⟨p, r1, r2, r3⟩
          refine ⟨p, ?_, r2, r3⟩
          rcases Nat.lt_or_ge p k with q | q
          · exact q
          · rw [show p = k by omega] at r2
            omega
    by_cases g : v ≤ t (36 * S + k)
    · rw [if_pos (nI_le g (by omega))]
      rw [Nat.min_eq_left g] at key
      exact ⟨_, _, ⟨⟨_, rfl, key⟩, rfl⟩, rfl⟩
    · rw [if_neg (nI_ge (by omega) (by omega))]
      rw [Nat.min_eq_right (by omega)] at key
      exact ⟨_, _, ⟨⟨_, rfl, key⟩, rfl⟩, rfl⟩
  · refine Or.inr ?_
    rw [if_pos (t36_le h5 (by omega))]
    refine ⟨v, rfl, hv.congr (fun h => ⟨?_, ?_⟩)⟩
    · rintro ⟨p, r1, r2, r3⟩
      exact ⟨p / 6, p % 6, by omega, by omega, by rw [show 36 * S + (6 * (p / 6) + p % 6) = 36 * S + p by omega]; exact r2, r3⟩
    · rintro ⟨l, a, r1, r2, r3, r4⟩
      exact ⟨6 * l + a, by omega, r3, r4⟩
theorem soonC (hA : WFA A) (hn : n ≤ 10000) (J : Jn n A y sh c z) {M : Nat} (hM : M ≤ 100) : ∃ R y' sh' c' z' u, f_X1_soonest 84 10 (nI M) (HH sh c z) = some (nI R, HH sh' c' z') ∧ Jn n A y' sh' c' z' ∧ QC (asL A) (asV A) (6 * mvL (asV A) + (if asL A = 1 then mvA (asV A) else 5)) (mvH (asV A)) u (10 * (36 * 2 ^ nW (asV A))) ∧ isMin (fun h => ∃ s, s < 2 ^ nW (asV A) ∧ pc s = M ∧ EVp (asL A) u s 36 h ∧ h < FARn) R := by
  have hV := hA.2.2.2.1
  have hw10 : nW (asV A) ≤ 10 := Nat.le_trans (cP_le _ _) hV.1
  have hp := pow_le10 hw10
  have hpp := Nat.two_pow_pos (nW (asV A))
  have hB5 : (if asL A = 1 then mvA (asV A) else 5) ≤ 5 := by have := hV.2.2.2.1; split <;> omega
  obtain ⟨c1, e1, f1, t1⟩ := takeWaiting_eq J.1 J.2.1 J.2.2.2.1.2.2.2.2.2.2.1 hV
  have J1 : Jn n A y sh c1 z := J.cc hA (Kp.of (fun a q => f1 a (by omega)))
  unfold f_X1_soonest
  rw [HG J.1 J.2.1.a84, bnd_s, e1, bnd_s, HR (k := 9) J1.1 J1.2.1.a84 rfl, bnd_s, HI (k := 5) J1.1 J1.2.1.a84 rfl, bnd_s, t1.2.1]
  obtain ⟨y2, sh2, c2, z2, e2, J2, f2, g2, hlen, k1, k2, k3, k4⟩ := roomH _ hA hn J1 (L := 2 ^ nW (asV A)) (by omega)
  rw [e2]
  clear e2
  have hB := J1.2.2.1.1
  have t2 : TW c2 (asV A) := t1.kept (fun k _ => by rw [f2 84 (by omega)]) ⟨f2 85 (by omega), f2 86 (by omega), f2 87 (by omega), f2 88 (by omega)⟩
  have hcm2 := J2.2.2.2.1.2.2.2.2.2.2.1
  have hd2 := J2.2.1.dy
  obtain ⟨y3, sh3, c3, z3, u, e3, J3, m1, m2, t3, f3, g3, Q3, v3⟩ := fillEnds_eq hA hn J2 t2 (E := y2.2.2.1.1) (LE := y2.2.2.1.2) hd2.2.2.1 (Or.inl rfl) hlen hd2.2.2.2.2.2.2.2.2.2.2.2.2.2.2.2.2.1 (hour_lt hV) hV.2.2.1 hB5
  rw [HI (k := 0) J2.1 J2.2.1.m10.1 rfl, bnd_s, HI (k := 8) J2.1 J2.2.1.m10.1 rfl, bnd_s, memNow_eq J2.1 J2.2.1.m10 hcm2, bnd_s, HR (k := 9) J2.1 J2.2.1.a84 rfl, bnd_s, hcm2.1, hcm2.2.2.2.2.1, e3, bnd_s]
  have W := J3.1
  have hs := J3.2.1
  have hd := hs.dy
  have hE : y3.2.2.1.1 = y2.2.2.1.1 := by rw [m2]
  have hEl : y3.2.2.1.2 = y2.2.2.1.2 := by rw [m2]
  have hl2 := hd.2.2.2.2.2.2.2.2.2.2.2.2.2.2.2.2.1
  refine wl2_fuel (fun s x j => (∃ R, x = nI R ∧ isMin (fun h => ∃ s', s' < s ∧ pc s' = M ∧ EVp (asL A) u s' 36 h ∧ h < FARn) R) ∧ j = nI s) (2 ^ nW (asV A)) (by omega) (fun t => ∃ R y' sh' c' z' u, t = some (nI R, HH sh' c' z') ∧ Jn n A y' sh' c' z' ∧ QC (asL A) (asV A) (6 * mvL (asV A) + (if asL A = 1 then mvA (asV A) else 5)) (mvH (asV A)) u (10 * (36 * 2 ^ nW (asV A))) ∧ isMin (fun h => ∃ s, s < 2 ^ nW (asV A) ∧ pc s = M ∧ EVp (asL A) u s 36 h ∧ h < FARn) R) ?_ _ _ ⟨⟨FARn, rfl, Nat.le_refl _, fun q => absurd q (by omega), fun h q => by obtain ⟨p, q, _⟩ := q; omega⟩, rfl⟩
  intro rec s x j hsi hx
  obtain ⟨⟨R, rfl, hR⟩, rfl⟩ := hx
  have hR1 : R ≤ 1000000 := hR.1
  simp only [jn0_s]
  rw [HI (k := 5) W hs.a84 rfl, bnd_s, t3.2.1]
  rcases Nat.lt_or_ge s (2 ^ nW (asV A)) with hlt | hlt
  · refine Or.inl ⟨hlt, ?_⟩
    obtain ⟨v, hv1, hv2⟩ := v3 s hlt
    have hv3 : v ≤ 1000000 := hv2.1
    have hpc : pc s ≤ 10 := cP_le _ _
    rw [if_neg (nI_ge hlt (by omega)), HR (k := 9) W hs.a84 rfl, bnd_s, HN W hd.2.2.1 (by omega), bnd_s, if_neg (nI_ge (show s < y3.2.2.1.2 by omega) (by omega)), bitCount_eq s (by omega), bnd_s]
    simp only [jn1_s]
    rw [show (nI s + 1) = nI (s + 1) from nI_1 s]
    have keepR : (∀ h, ¬ (pc s = M ∧ EVp (asL A) u s 36 h ∧ h < FARn)) → isMin (fun h => ∃ s', s' < s + 1 ∧ pc s' = M ∧ EVp (asL A) u s' 36 h ∧ h < FARn) R := by
      intro hno
      refine hR.congr (fun h => ⟨?_, ?_⟩)
      · rintro ⟨p, r1, r2⟩
        exact ⟨p, by omega, r2⟩
      · rintro ⟨p, r1, r2⟩
        refine ⟨p, ?_, r2⟩
        rcases Nat.lt_or_ge p s with q | q
        · exact q
        · rw [show p = s by omega] at r2
          exact absurd r2 (hno h)
    by_cases g : pc s = M
    · rw [if_pos (show nI (cP (fun q => s.testBit q) 10) = nI M from congrArg nI g), bnd_s, HL W hd.2.2.1 (show s < y3.2.2.1.2 by omega) (by omega), bnd_s, nm_s, hE, hv1, mn_n (by omega) (by omega)]
      rcases Nat.lt_or_ge v FARn with q | q
      · refine ⟨_, _, ⟨⟨_, rfl, (hR.add q).congr (fun h => ⟨?_, ?_⟩)⟩, rfl⟩, rfl⟩
        · rintro (⟨p, r1, r2⟩ | r)
          · exact ⟨p, by omega, r2⟩
          · exact ⟨s, by omega, g, by rw [r]; exact hv2, by rw [r]; exact q⟩
        · rintro ⟨p, r1, r2, r3, r4⟩
          rcases Nat.lt_or_ge p s with w | w
          · exact Or.inl ⟨p, w, r2, r3, r4⟩
          · rw [show p = s by omega] at r3
            exact Or.inr (isMin.one r3 hv2)
      · have e : min R v = R := by unfold FARn at q; omega
        rw [e]
        refine ⟨_, _, ⟨⟨_, rfl, keepR (fun h r => ?_)⟩, rfl⟩, rfl⟩
        have := isMin.one r.2.1 hv2
        omega
    · rw [if_neg (show ¬ nI (cP (fun q => s.testBit q) 10) = nI M by rw [nI_eq (show pc s < 2 ^ 31 by omega) (by omega)]; exact g)]
      exact ⟨_, _, ⟨⟨_, rfl, keepR (fun h r => g r.1)⟩, rfl⟩, rfl⟩
  · refine Or.inr ?_
    rw [if_pos (nI_le hlt (by omega))]
    have ei : s = 2 ^ nW (asV A) := by omega
    rw [ei] at hR
    exact ⟨R, y3, sh3, c3, z3, u, rfl, J3, Q3, hR⟩
theorem soon_same {V : MV} {law L0 A0 H0 M R R' : Nat} {t u : Nat → Nat} (hlaw : law ≤ 1) (hV : WFV V) (hL : L0 ≤ 5) (hA0 : A0 ≤ 5) (Qt : QM law V (6 * L0 + A0) H0 t (10 * (36 * 2 ^ mvN V))) (Qu : QC law V (6 * L0 + (if law = 1 then A0 else 5)) H0 u (10 * (36 * 2 ^ nW V))) (h : isMin (fun h => ∃ s, s < 2 ^ nW V ∧ pc s = M ∧ EVp law u s 36 h ∧ h < FARn) R) (h' : isMin (fun h => ∃ S, S < 2 ^ mvN V ∧ pc S = M ∧ MVp t S h ∧ h < FARn) R') : R = R' := by
  refine isMin.one h (h'.congr (fun x => ⟨?_, ?_⟩))
  · rintro ⟨S, r1, r2, r3, r4⟩
    obtain ⟨l, a, q1, q2, q3, q4⟩ := r3.2.1 r4
    obtain ⟨s, hs1, hs2⟩ := sgN_sur (t_wait hV Qt hL hA0 S r1 l a q1 q2 (by rw [q3]; exact r4))
    obtain ⟨v, hv⟩ := isMin_ex (P := fun h => ∃ l a, l ≤ 5 ∧ a ≤ 5 ∧ (law = 1 ∨ a = 5) ∧ 6 * l + a < 36 ∧ u (36 * s + (6 * l + a)) = h ∧ h < FARn) (fun h q => by obtain ⟨_, _, _, _, _, _, _, q⟩ := q; exact q)
    have e := ev_mv hlaw hV hL hA0 Qt Qu hs1 (show EVp law u s 36 v from hv) (by rw [hs2]; exact r3)
    refine ⟨s, hs1, ?_, by rw [← e]; exact hv, r4⟩
    have := sgN_pop hV hs1
    rw [hs2] at this
    show cP (fun q => s.testBit q) 10 = M
    rw [← this]
    exact r2
  · rintro ⟨s, r1, r2, r3, r4⟩
    obtain ⟨v, hv⟩ := isMin_ex (P := fun h => ∃ l a, l ≤ 5 ∧ a ≤ 5 ∧ t (36 * sgN V s + (6 * l + a)) = h ∧ h < FARn) (fun h q => by obtain ⟨_, _, _, _, _, q⟩ := q; exact q)
    have e := ev_mv hlaw hV hL hA0 Qt Qu r1 r3 (show MVp t (sgN V s) v from hv)
    refine ⟨sgN V s, sgN_lt V s, ?_, by rw [e]; exact hv, r4⟩
    show cP (fun q => (sgN V s).testBit q) 10 = M
    rw [sgN_pop hV r1]
    exact r2
end M2
