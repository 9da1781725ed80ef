/-! ===== the reference's least hours ===== -/
abbrev kdM (V : MV) : Nat → Nat := fun i => mvD V i 0
abbrev cmM (V : MV) : Nat → Nat := fun i => mvD V i 3
abbrev szM (V : MV) : Nat → Nat := fun i => mvD V i 1
abbrev okM (V : MV) : Nat → Prop := fun i => mvD V i 4 = 0
abbrev mxM (law : Nat) : Nat → Nat → Nat → Prop := fun k l a => k ≠ l ∧ (law = 0 ∨ k ≠ a)
abbrev hdM : Nat → Nat := fun l => l
/-- the reference's table, filled up to m -/
abbrev QM (law : Nat) (V : MV) (e0 H0 : Nat) (t : Nat → Nat) (m : Nat) : Prop := gQ (mvN V) (kdM V) (cmM V) (szM V) (okM V) (mxM law) hdM e0 H0 t m
section EA
variable {n : Nat} {A : AS} {y : Dy} {sh : Nat → Shp} {c c' : Nat → Nat → Int32} {z : Nat × Nat}
theorem SMo.w (h : SMo sh) : sh 106 = sA 0 36864 ∧ sh 107 = sA 0 1024 ∧ sh 108 = sA 0 1024 := ⟨h.2.2.2.2.2.2.2.1, h.2.2.2.2.2.2.2.2.1, h.2.2.2.2.2.2.2.2.2.1⟩
theorem earliest_eq (hA : WFA A) (W : Wz sh z) (hS : SMo sh) (hR : ModR A c) {H0 L0 A0 : Nat} (hH : H0 < 1000000) (hL : L0 ≤ 5) (hA0 : A0 ≤ 5) : ∃ c' t, f_X7_earliest 99 (nI H0) (nI L0) (nI A0) (HH sh c z) = some (HH sh c' z) ∧ (∀ a, a ≠ 106 → c' a = c a) ∧ (∀ e, e < 36 * 2 ^ mvN (asV A) → c' 106 e = nI (t e)) ∧ QM (asL A) (asV A) (6 * L0 + A0) H0 t (10 * (36 * 2 ^ mvN (asV A))) := by
  have hV := hA.2.2.2.1
  have hn := hV.1
  have hp := pow_le10 hn
  have hpp := Nat.two_pow_pos (mvN (asV A))
  have h50 : c 104 50 = nI (mvN (asV A)) := hR.2.2.2.2.2.2.2.2.1.2.1
  unfold f_X7_earliest
  rw [HG W hS.1, bnd_s, HR (k := 6) W hS.1 rfl, bnd_s, show (50 : Int32) = nI 50 from rfl, slotR W hS (by omega), bnd_s, h50, nm_s, sh_one (by omega), show (36 : Int32) = nI 36 from rfl, pk_mul]
  refine wl2_fuel (fun k x h => x = nI k ∧ ∃ c', h = HH sh c' z ∧ (∀ a, a ≠ 106 → c' a = c a) ∧ ∀ e, e < k → c' 106 e = nI FARn) (36 * 2 ^ mvN (asV A)) (by omega) (fun t => ∃ c' t1, t = some (HH sh c' z) ∧ (∀ a, a ≠ 106 → c' a = c a) ∧ (∀ e, e < 36 * 2 ^ mvN (asV A) → c' 106 e = nI (t1 e)) ∧ QM (asL A) (asV A) (6 * L0 + A0) H0 t1 (10 * (36 * 2 ^ mvN (asV A)))) ?_ _ _ ⟨rfl, c, rfl, fun _ _ => rfl, fun e he => absurd he (by omega)⟩
  intro rec k x h hk hx
  obtain ⟨rfl, c1, rfl, f1, r1⟩ := hx
  rcases Nat.lt_or_ge k (36 * 2 ^ mvN (asV A)) with hlt | hlt
  · refine Or.inl ⟨hlt, ?_⟩
    rw [if_neg (nI_ge hlt (by omega)), HR (k := 11) W hS.1 rfl, bnd_s, HS W hS.w.1 (show k < 36864 by omega) (by omega), bnd_s, nI_1]
    refine ⟨_, _, ⟨rfl, _, rfl, fun a ha => by rw [u2_other _ _ _ ha]; exact f1 a ha, ?_⟩, rfl⟩
    intro e he
    rcases Nat.lt_or_ge e k with g | g
    · rw [u2_ne _ _ (Or.inr (by omega))]; exact r1 e g
    · rw [show e = k by omega, u2_same]; rfl
  · refine Or.inr ?_
    have i0 : 6 * L0 + A0 < 36864 := by omega
    rw [if_pos (nI_le hlt (by omega)), HR (k := 11) W hS.1 rfl, bnd_s, show (6 : Int32) = nI 6 from rfl, pk_mul, nI_add, HS W hS.w.1 i0 (by omega), bnd_s, nrw0]
    refine wl2_fuel (fun k x h => x = nI k ∧ ∃ c' t, h = HH sh c' z ∧ (∀ a, a ≠ 106 → c' a = c a) ∧ (∀ e, e < 36 * 2 ^ mvN (asV A) → c' 106 e = nI (t e)) ∧ QM (asL A) (asV A) (6 * L0 + A0) H0 t (10 * k)) (36 * 2 ^ mvN (asV A)) (by omega) (fun t => ∃ c' t1, t = some (HH sh c' z) ∧ (∀ a, a ≠ 106 → c' a = c a) ∧ (∀ e, e < 36 * 2 ^ mvN (asV A) → c' 106 e = nI (t1 e)) ∧ QM (asL A) (asV A) (6 * L0 + A0) H0 t1 (10 * (36 * 2 ^ mvN (asV A)))) ?_ _ _ ⟨rfl, _, fun e => if e = 6 * L0 + A0 then H0 else FARn, rfl, fun a ha => by rw [u2_other _ _ _ ha]; exact f1 a ha, ?_, ?_⟩
    · intro rec2 k x h hk hx
      obtain ⟨rfl, c2, t2, rfl, f2, r2, q2⟩ := hx
      have hR2 : ModR A c2 := hR.kp (Kp.of (fun a q => f2 a (by omega)))
      rcases Nat.lt_or_ge k (36 * 2 ^ mvN (asV A)) with hlt2 | hlt2
      · refine Or.inl ⟨hlt2, ?_⟩
        rw [if_neg (nI_ge hlt2 (by omega)), if_neg (show ¬ nI 36 = 0 by decide), nm_s, if_neg (show ¬ nI 36 = 0 by decide), if_neg (show ¬ nI 6 = 0 by decide), nm_s, pk_rem (by omega) (by omega) (by omega), pk_div (by omega) (by omega) (by omega), pk_div (by omega) (by omega) (by omega), nI_1]
        have hk36 : k = 36 * (k / 36) + (6 * (k % 36 / 6) + k % 6) := by omega
        have hl5 : k % 36 / 6 ≤ 5 := by omega
        have ha5 : k % 6 ≤ 5 := by omega
        have hS2 : k / 36 < 2 ^ mvN (asV A) := by omega
        generalize hSS : k / 36 = S at *
        generalize hll : k % 36 / 6 = l at *
        refine wl2_fuel (fun i x h => x = nI i ∧ ∃ c' t, h = HH sh c' z ∧ (∀ a, a ≠ 106 → c' a = c a) ∧ (∀ e, e < 36 * 2 ^ mvN (asV A) → c' 106 e = nI (t e)) ∧ QM (asL A) (asV A) (6 * L0 + A0) H0 t (10 * k + i)) (mvN (asV A)) (by omega) (fun t => ∃ y1 y3, (y1 = nI (k + 1) ∧ ∃ c' t, y3 = HH sh c' z ∧ (∀ a, a ≠ 106 → c' a = c a) ∧ (∀ e, e < 36 * 2 ^ mvN (asV A) → c' 106 e = nI (t e)) ∧ QM (asL A) (asV A) (6 * L0 + A0) H0 t (10 * (k + 1))) ∧ t = rec2 y1 y3) ?_ _ _ ⟨rfl, c2, t2, rfl, f2, r2, q2⟩
        intro rec3 i x h hi hx
        obtain ⟨rfl, c3, t3, rfl, f3, r3, q3⟩ := hx
        have hR3 : ModR A c3 := hR.kp (Kp.of (fun a q => f3 a (by omega)))
        have h50' : c3 104 50 = nI (mvN (asV A)) := hR3.2.2.2.2.2.2.2.2.1.2.1
        rw [HR (k := 6) W hS.1 rfl, bnd_s, slotR W hS (show 50 < 605 by omega), bnd_s, h50']
        simp only [jn0_s]
        have htk : t3 k ≤ 1000000 := (q3 k hlt2).1
        rcases Nat.lt_or_ge i (mvN (asV A)) with hin | hin
        · have hd := hV.2.1 i hin
          rw [if_neg (nI_ge hin (by omega)), HR (k := 11) W hS.1 rfl, bnd_s, HL W hS.w.1 (show k < 36864 by omega) (by omega), bnd_s, r3 k hlt2]
          rcases Nat.lt_or_ge (t3 k) 1000000 with hfar | hfar
          · refine Or.inl ⟨hin, ?_⟩
            rw [if_neg (show ¬ (1000000 : Int32) ≤ nI (t3 k) from nI_ge (b := 1000000) hfar (by omega))]
            simp only [jn1_s]
            rw [show (nI i + 1) = nI (i + 1) from nI_1 i]
            simp only [sh_bit0 (show S < 2147483648 by omega) (show i < 31 by omega)]
            have skip : ¬ gS (mvN (asV A)) (kdM (asV A)) (okM (asV A)) (mxM (asL A)) t3 S l (k % 6) i → QM (asL A) (asV A) (6 * L0 + A0) H0 t3 (10 * k + (i + 1)) := by
              intro hns
              refine gQ_skip _ _ _ _ _ _ _ _ _ (by omega) q3 (fun S' l' a' i' hg g1 g2 => ?_)
              obtain ⟨p1, p2, p3, p4⟩ := pair_one hn ⟨hg.1, hg.2.1, hg.2.2.1⟩ ⟨hl5, ha5, hin⟩ (show 10 * (36 * S' + (6 * l' + a')) + i' = 10 * (36 * S + (6 * l + k % 6)) + i by omega)
              rw [p1, p2, p3, p4] at hg
              exact hns hg
            by_cases w1 : S.testBit i = false
            · rw [if_pos w1, isWaiting_in W hS hR3 hV hin, bnd_s]
              by_cases w2 : mvD (asV A) i 4 = 0
              · rw [if_pos w2, if_neg i10, show f_X7_of 99 (nI i) 0 (HH sh c3 z) = some (nI (mvD (asV A) i 0)) from of_in (w := 0) W hS hR3 hV hin (by omega), bnd_s, if_neg (show ¬ nI 6 = 0 by decide), pk_rem (by omega) (by omega) (by omega), isMixed_eq W hS hR3 hA.2.1 (by omega) (by omega) (by omega), bnd_s]
                by_cases w3 : mvD (asV A) i 0 ≠ l ∧ (asL A = 0 ∨ mvD (asV A) i 0 ≠ k % 6)
                · have hgs : gS (mvN (asV A)) (kdM (asV A)) (okM (asV A)) (mxM (asL A)) t3 S l (k % 6) i := ⟨hl5, ha5, hin, w1, w2, w3, by rw [← hk36]; exact hfar⟩
                  have hor := or_lt hS2 hin
                  have hto : 36 * (S ||| 2 ^ i) + (6 * mvD (asV A) i 0 + l) < 36 * 2 ^ mvN (asV A) := by omega
                  have hto2 : 36 * (S ||| 2 ^ i) + 6 * mvD (asV A) i 0 + l < 36864 := by omega
                  have htt : t3 (36 * (S ||| 2 ^ i) + (6 * mvD (asV A) i 0 + l)) ≤ 1000000 := (q3 _ hto).1
                  rw [if_pos w3, if_neg i10, bnd_s, nm_s, sh_one (by omega), or_n, pk_mul, pk_mul, nI_add, nI_add, bnd_s, HL W hS.w.1 (show k < 36864 by omega) (by omega), bnd_s, r3 k hlt2, ends_in W hS hR3 hV hin hfar, bnd_s, bnd_s, bnd_s, HL W hS.w.1 hto2 (by omega), bnd_s, bnd_s, HL W hS.w.1 hto2 (by omega), bnd_s, show 36 * (S ||| 2 ^ i) + 6 * mvD (asV A) i 0 + l = 36 * (S ||| 2 ^ i) + (6 * mvD (asV A) i 0 + l) by omega, r3 _ hto]
                  have hpush := gQ_push (mvN (asV A)) (kdM (asV A)) (cmM (asV A)) (szM (asV A)) (okM (asV A)) (mxM (asL A)) hdM (6 * L0 + A0) H0 hn hgs (show kdM (asV A) i ≤ 5 by show mvD (asV A) i 0 ≤ 5; omega) hl5 (by rw [← hk36]; exact q3)
                  rw [← hk36] at hpush
                  generalize hto' : 36 * (S ||| 2 ^ i) + (6 * mvD (asV A) i 0 + l) = to at *
                  have hto36 : to < 36864 := by omega
                  have endst : ∀ w : Int32, w = nI (min (t3 to) (max (t3 k) (mvD (asV A) i 3) + mvD (asV A) i 1)) → ∃ y1 y2, (y1 = nI (i + 1) ∧ ∃ c' t, y2 = HH sh c' z ∧ (∀ a, a ≠ 106 → c' a = c a) ∧ (∀ e, e < 36 * 2 ^ mvN (asV A) → c' 106 e = nI (t e)) ∧ QM (asL A) (asV A) (6 * L0 + A0) H0 t (10 * k + (i + 1))) ∧ (bnd (stI 0 (HH sh c3 z) 106 (nI to) w) fun h44 => rec3 (nI (i + 1)) h44) = rec3 y1 y2 := by
                    intro w ew
                    subst ew
                    rw [HS W hS.w.1 hto36 (by omega), bnd_s]
                    refine ⟨_, _, ⟨rfl, _, _, rfl, fun a ha => by rw [u2_other _ _ _ ha]; exact f3 a ha, ?_, hpush⟩, rfl⟩
                    intro e he
                    by_cases q : e = to
                    · rw [q, u2_same, nrw0]
                      show _ = nI (if to = to then _ else _)
                      rw [if_pos rfl]
                    · rw [u2_ne _ _ (Or.inr q)]
                      show _ = nI (if e = to then _ else _)
                      rw [if_neg q]
                      exact r3 e he
                  by_cases w4 : t3 to ≤ max (t3 k) (mvD (asV A) i 3) + mvD (asV A) i 1
                  · rw [if_pos (nI_le w4 (by omega))]
                    exact endst _ (by rw [Nat.min_eq_left w4])
                  · rw [if_neg (nI_ge (by omega) (by omega))]
                    exact endst _ (by rw [Nat.min_eq_right (by omega)])
                · rw [if_neg w3, if_pos rfl]
                  exact ⟨_, _, ⟨rfl, c3, t3, rfl, f3, r3, skip (fun q => w3 q.2.2.2.2.2.1)⟩, rfl⟩
              · rw [if_neg w2, if_pos rfl]
                exact ⟨_, _, ⟨rfl, c3, t3, rfl, f3, r3, skip (fun q => w2 q.2.2.2.2.1)⟩, rfl⟩
            · rw [if_neg w1]
              exact ⟨_, _, ⟨rfl, c3, t3, rfl, f3, r3, skip (fun q => w1 q.2.2.2.1)⟩, rfl⟩
          · refine Or.inr ?_
            rw [if_pos (show (1000000 : Int32) ≤ nI (t3 k) from nI_le (a := 1000000) hfar (by omega))]
            refine ⟨_, _, ⟨rfl, c3, t3, rfl, f3, r3, gQ_skip _ _ _ _ _ _ _ _ _ (by omega) q3 (fun S' l' a' i' hg g1 g2 => ?_)⟩, rfl⟩
            have h1 := hg.2.2.1
            have h2 := hg.1
            have h3 := hg.2.1
            have h4 : 36 * S' + (6 * l' + a') = k := by omega
            have h5 := hg.2.2.2.2.2.2
            rw [h4] at h5
            unfold FARn at h5
            omega
        · refine Or.inr ?_
          rw [if_pos (nI_le hin (by omega))]
          refine ⟨_, _, ⟨rfl, c3, t3, rfl, f3, r3, gQ_skip _ _ _ _ _ _ _ _ _ (by omega) q3 (fun S' l' a' i' hg g1 g2 => ?_)⟩, rfl⟩
          have h1 := hg.2.2.1
          have h2 := hg.1
          have h3 := hg.2.1
          omega
      · refine Or.inr ?_
        rw [if_pos (nI_le hlt2 (by omega))]
        rw [show k = 36 * 2 ^ mvN (asV A) by omega] at q2
        exact ⟨c2, t2, rfl, f2, r2, q2⟩
    · intro e he
      by_cases q : e = 6 * L0 + A0
      · rw [q, u2_same]
        show _ = nI (if 6 * L0 + A0 = 6 * L0 + A0 then H0 else FARn)
        rw [if_pos rfl]
      · rw [u2_ne _ _ (Or.inr q)]
        show _ = nI (if e = 6 * L0 + A0 then H0 else FARn)
        rw [if_neg q]
        exact r1 e (by omega)
    · exact gQ_start _ _ _ _ _ _ _ _ _ hH _ (if_pos rfl) (fun e he q => if_neg q)
end EA
