/-! ===== two mills: the reference, and both ===== -/
section TM2
variable {n : Nat} {A : AS} {y : Dy} {sh : Nat → Shp} {c c' : Nat → Nat → Int32} {z : Nat × Nat}
theorem soonFill {ρ : Type} (hA : WFA A) (W : Wz sh z) (hS : SMo sh) (hR : ModR A c) {fld a : Nat} (hf : (fld = 12 ∧ a = 107) ∨ (fld = 13 ∧ a = 108)) {t : Nat → Nat} (hrow : ∀ e, e < 36 * 2 ^ mvN (asV A) → c 106 e = nI (t e)) (ht : ∀ e, e < 36 * 2 ^ mvN (asV A) → t e ≤ FARn) (K : Hp → Option ρ) : ∃ (c' : Nat → Nat → Int32) (w : Nat → Nat), wl2 (fun (r18 : Int32 → Hp → Option ρ) (i16 : Int32) (h17 : Hp) => bnd (gR h17 99 7 6) fun a19 => bnd (ldI 0 h17 a19 (50 : Int32)) fun x20 => if ((1 : Int32) <<< (x20 &&& 31)) ≤ i16 then (K h17) else (bnd (gR h17 99 7 fld) fun a64 => bnd (f_X7_soonestOf 99 i16 h17) fun x65 => bnd (stI 0 h17 a64 i16 x65) fun h66 => r18 (i16 + (1 : Int32)) h66)) fuel (0 : Int32) (HH sh c z) = K (HH sh c' z) ∧ (∀ b, b ≠ a → c' b = c b) ∧ ∀ S, S < 2 ^ mvN (asV A) → c' a S = nI (w S) ∧ MVp t S (w S) := by
  have hV := hA.2.2.2.1
  have hn := hV.1
  have hp := pow_le10 hn
  have ha : sh a = sA 0 1024 ∧ ∀ cc, gR (HH sh cc z) 99 7 fld = some a := by
    rcases hf with ⟨rfl, rfl⟩ | ⟨rfl, rfl⟩
    · exact ⟨hS.w.2.1, fun cc => HR (k := 12) W hS.1 rfl⟩
    · exact ⟨hS.w.2.2, fun cc => HR (k := 13) W hS.1 rfl⟩
  have ha4 : a ≠ 106 ∧ a ≠ 104 := by omega
  have key : ∃ c', wl2 (fun (r18 : Int32 → Hp → Option ρ) (i16 : Int32) (h17 : Hp) => bnd (gR h17 99 7 6) fun a19 => bnd (ldI 0 h17 a19 (50 : Int32)) fun x20 => if ((1 : Int32) <<< (x20 &&& 31)) ≤ i16 then (K h17) else (bnd (gR h17 99 7 fld) fun a64 => bnd (f_X7_soonestOf 99 i16 h17) fun x65 => bnd (stI 0 h17 a64 i16 x65) fun h66 => r18 (i16 + (1 : Int32)) h66)) fuel (0 : Int32) (HH sh c z) = K (HH sh c' z) ∧ (∀ b, b ≠ a → c' b = c b) ∧ ∀ S, S < 2 ^ mvN (asV A) → ∃ v, c' a S = nI v ∧ MVp t S v := by
    refine wl2_fuel (fun s x h => x = nI s ∧ ∃ cc, h = HH sh cc z ∧ (∀ b, b ≠ a → cc b = c b) ∧ ∀ S, S < s → ∃ v, cc a S = nI v ∧ MVp t S v) (2 ^ mvN (asV A)) (by omega) (fun r => ∃ c', r = K (HH sh c' z) ∧ (∀ b, b ≠ a → c' b = c b) ∧ ∀ S, S < 2 ^ mvN (asV A) → ∃ v, c' a S = nI v ∧ MVp t S v) ?_ _ _ ⟨rfl, c, rfl, fun b _ => rfl, fun S h => absurd h (by omega)⟩
    intro rec s x h hsi hx
    obtain ⟨rfl, cc, rfl, fcc, rcc⟩ := hx
    have h50 : cc 104 50 = nI (mvN (asV A)) := by rw [fcc 104 (by omega)]; exact hR.2.2.2.2.2.2.2.2.1.2.1
    rw [HR (k := 6) W hS.1 rfl, bnd_s, show (50 : Int32) = nI 50 from rfl, slotR W hS (by omega), bnd_s, h50, sh_one (by omega)]
    rcases Nat.lt_or_ge s (2 ^ mvN (asV A)) with hlt | hlt
    · refine Or.inl ⟨hlt, ?_⟩
      obtain ⟨v, hv1, hv2⟩ := soonestOf_eq (c := cc) (N := 2 ^ mvN (asV A)) W hS hp hlt (fun e he => by rw [fcc 106 (by omega)]; exact hrow e he) ht
      rw [if_neg (nI_ge hlt (by omega)), ha.2, bnd_s, hv1, bnd_s, HS W ha.1 (show s < 1024 by omega) (by omega), bnd_s, nrw0, nI_1]
      refine ⟨_, _, ⟨rfl, _, rfl, fun b hb => by rw [u2_other _ _ _ hb]; exact fcc b hb, fun S hS => ?_⟩, rfl⟩
      rcases Nat.lt_or_ge S s with q | q
      · rw [u2_ne _ _ (Or.inr (by omega))]
        exact rcc S q
      · rw [show S = s by omega, u2_same]
        exact ⟨v, rfl, hv2⟩
    · refine Or.inr ?_
      rw [if_pos (nI_le hlt (by omega))]
      exact ⟨cc, rfl, fcc, fun S hS => rcc S (by omega)⟩
  obtain ⟨c', e, f, g⟩ := key
  obtain ⟨w, hw⟩ := ch_n (Q := fun S v => c' a S = nI v ∧ MVp t S v) g
  exact ⟨c', w, e, f, hw⟩
set_option maxHeartbeats 1000000 in
theorem twoM (hA : WFA A) (J : Jn n A y sh c z) {p : Nat} (hp1 : p ≤ 1) : ∃ (R F : Nat) (w1 w2 t1 t2 : Nat → Nat) (c' : Nat → Nat → Int32), f_X7_twoMills 99 (nI p) (HH sh c z) = some ((if R < FARn then (if p = 0 then nI R else nI F) else -4), HH sh c' z) ∧ Jn n A y sh c' z ∧ QM (asL A) (asV A) (6 * mvL (asV A) + mvA (asV A)) (mvH (asV A)) t1 (10 * (36 * 2 ^ mvN (asV A))) ∧ QM (asL A) (asV A) (6 * 5 + 5) 0 t2 (10 * (36 * 2 ^ mvN (asV A))) ∧ (∀ S, S < 2 ^ mvN (asV A) → MVp t1 S (w1 S)) ∧ (∀ S, S < 2 ^ mvN (asV A) → MVp t2 S (w2 S)) ∧ fb (okB (asV A)) (fun S => max (w1 S) (w2 (allB (asV A) &&& (1023 ^^^ S)))) (2 ^ mvN (asV A)) R F := by
  have hV := hA.2.2.2.1
  have hn := hV.1
  have hp := pow_le10 hn
  have W := J.1
  have hS := J.2.2.2.2.1
  have hR := J.2.2.2.2.2
  have hsl := hR.2.2.2.2.2.2.2.2.1
  have h50 : c 104 50 = nI (mvN (asV A)) := hsl.2.1
  have h51 : c 104 51 = nI (mvH (asV A)) := hsl.2.2.1
  have h52 : c 104 52 = nI (mvL (asV A)) := hsl.2.2.2.1
  have h53 : c 104 53 = nI (mvA (asV A)) := hsl.2.2.2.2.1
  have hal : allB (asV A) < 2 ^ mvN (asV A) := bN_lt _ _
  unfold f_X7_twoMills
  rw [HG W hS.1, bnd_s, in_n (lo := 0) (hi := 1) _ _ rfl rfl (by omega) hp1 (by omega), bnd_s, if_neg i10]
  refine wl2_fuel (fun i x j => x = nI (bN (wP (asV A)) i) ∧ j = nI i) (mvN (asV A)) (by omega) (fun r => ∃ (R F : Nat) (w1 w2 t1 t2 : Nat → Nat) (c' : Nat → Nat → Int32), r = some ((if R < FARn then (if p = 0 then nI R else nI F) else -4), HH sh c' z) ∧ Jn n A y sh c' z ∧ QM (asL A) (asV A) (6 * mvL (asV A) + mvA (asV A)) (mvH (asV A)) t1 (10 * (36 * 2 ^ mvN (asV A))) ∧ QM (asL A) (asV A) (6 * 5 + 5) 0 t2 (10 * (36 * 2 ^ mvN (asV A))) ∧ (∀ S, S < 2 ^ mvN (asV A) → MVp t1 S (w1 S)) ∧ (∀ S, S < 2 ^ mvN (asV A) → MVp t2 S (w2 S)) ∧ fb (okB (asV A)) (fun S => max (w1 S) (w2 (allB (asV A) &&& (1023 ^^^ S)))) (2 ^ mvN (asV A)) R F) ?_ _ _ ⟨rfl, rfl⟩
  intro rec i x j hi hx
  obtain ⟨rfl, rfl⟩ := hx
  rw [HR (k := 6) W hS.1 rfl, bnd_s, show (50 : Int32) = nI 50 from rfl, slotR W hS (by omega), bnd_s, h50]
  rcases Nat.lt_or_ge i (mvN (asV A)) with hl | hl
  · refine Or.inl ⟨hl, ?_⟩
    rw [if_neg (nI_ge hl (by omega)), isWaiting_in W hS hR hV hl, bnd_s]
    simp only [jn1_s, nm_s]
    rw [sh_one (by omega), nI_1]
    by_cases e : mvD (asV A) i 4 = 0
    · rw [if_pos e, if_neg i10, or_n]
      exact ⟨_, _, ⟨by simp only [bN]; rw [if_pos (wP_iff.mpr e)], rfl⟩, rfl⟩
    · rw [if_neg e, if_pos rfl, show (0 : Int32) = nI 0 from rfl, or_n, Nat.or_zero]
      exact ⟨_, _, ⟨by simp only [bN]; rw [if_neg (fun q => e (wP_iff.mp q))], rfl⟩, rfl⟩
  · refine Or.inr ?_
    have ei : i = mvN (asV A) := by omega
    subst ei
    rw [if_pos (nI_le (Nat.le_refl _) (by omega))]
    obtain ⟨c1, t1, e1, f1, r1, Q1⟩ := earliest_eq hA W hS hR (hour_lt hV) hV.2.2.1 hV.2.2.2.1
    have hR1 : ModR A c1 := hR.kp (Kp.of (fun a q => f1 a (by omega)))
    rw [bnd_s, show (51 : Int32) = nI 51 from rfl, slotR W hS (by omega), bnd_s, h51, bnd_s, show (52 : Int32) = nI 52 from rfl, slotR W hS (by omega), bnd_s, h52, bnd_s, show (53 : Int32) = nI 53 from rfl, slotR W hS (by omega), bnd_s, h53, e1, bnd_s]
    obtain ⟨c2, w1, e2, f2, r2⟩ := soonFill (fld := 13) (a := 108) (c := c1) (t := t1) hA W hS hR1 (Or.inr ⟨rfl, rfl⟩) r1 (fun e he => (Q1 e he).1) (ρ := Int32 × Hp) _
    have hR2 : ModR A c2 := hR1.kp (Kp.of (fun a q => f2 a (by omega)))
    rw [show (50 : Int32) = nI 50 from rfl] at e2
    rw [e2]
    clear e2
    obtain ⟨c3, t2, e3, f3, r3, Q3⟩ := earliest_eq (H0 := 0) (L0 := 5) (A0 := 5) hA W hS hR2 (by omega) (by omega) (by omega)
    have hR3 : ModR A c3 := hR2.kp (Kp.of (fun a q => f3 a (by omega)))
    have e3' : f_X7_earliest 99 (0 : Int32) (5 : Int32) (5 : Int32) (HH sh c2 z) = some (HH sh c3 z) := e3
    rw [e3', bnd_s]
    obtain ⟨c4, w2, e4, f4, r4⟩ := soonFill (fld := 12) (a := 107) (c := c3) (t := t2) hA W hS hR3 (Or.inl ⟨rfl, rfl⟩) r3 (fun e he => (Q3 e he).1) (ρ := Int32 × Hp) _
    have hR4 : ModR A c4 := hR3.kp (Kp.of (fun a q => f4 a (by omega)))
    rw [show (50 : Int32) = nI 50 from rfl] at e4
    rw [e4]
    clear e4
    have h50' : c4 104 50 = nI (mvN (asV A)) := hR4.2.2.2.2.2.2.2.2.1.2.1
    have own : ∀ S, S < 2 ^ mvN (asV A) → c4 108 S = nI (w1 S) := fun S hS => by rw [f4 108 (by omega), f3 108 (by omega)]; exact (r2 S hS).1
    have J4 : Jn n A y sh c4 z := J.cc hA (Kp.of (fun a q => by rw [f4 a (by omega), f3 a (by omega), f2 a (by omega), f1 a (by omega)]))
    refine wl3_fuel (fun S x1 x2 x3 => x3 = nI S ∧ ∃ R F, x1 = nI R ∧ x2 = nI F ∧ fb (okB (asV A)) (fun S => max (w1 S) (w2 (allB (asV A) &&& (1023 ^^^ S)))) S R F) (2 ^ mvN (asV A)) (by omega) (fun r => ∃ (R F : Nat) (w1 w2 t1 t2 : Nat → Nat) (c' : Nat → Nat → Int32), r = some ((if R < FARn then (if p = 0 then nI R else nI F) else -4), HH sh c' z) ∧ Jn n A y sh c' z ∧ QM (asL A) (asV A) (6 * mvL (asV A) + mvA (asV A)) (mvH (asV A)) t1 (10 * (36 * 2 ^ mvN (asV A))) ∧ QM (asL A) (asV A) (6 * 5 + 5) 0 t2 (10 * (36 * 2 ^ mvN (asV A))) ∧ (∀ S, S < 2 ^ mvN (asV A) → MVp t1 S (w1 S)) ∧ (∀ S, S < 2 ^ mvN (asV A) → MVp t2 S (w2 S)) ∧ fb (okB (asV A)) (fun S => max (w1 S) (w2 (allB (asV A) &&& (1023 ^^^ S)))) (2 ^ mvN (asV A)) R F) ?_ _ _ _ ⟨rfl, FARn, 0, rfl, rfl, fb.start _ _⟩
    intro rec S x1 x2 x3 hSi hx
    obtain ⟨rfl, R, F, rfl, rfl, hfb⟩ := hx
    have hR0 : R ≤ 1000000 := hfb.1
    rw [HR (k := 6) W hS.1 rfl, bnd_s, slotR W hS (by omega), bnd_s, h50', sh_one (by omega)]
    rcases Nat.lt_or_ge S (2 ^ mvN (asV A)) with hlt | hlt
    · refine Or.inl ⟨hlt, ?_⟩
      have hc1 : S &&& (1023 ^^^ allB (asV A)) ≤ S := Nat.and_le_left
      have hc2 : allB (asV A) &&& (1023 ^^^ S) ≤ allB (asV A) := Nat.and_le_left
      have b1 : w1 S ≤ 1000000 := (r2 S hlt).2.1
      have b2 : w2 (allB (asV A) &&& (1023 ^^^ S)) ≤ 1000000 := (r4 _ (by omega)).2.1
      have oth := (r4 (allB (asV A) &&& (1023 ^^^ S)) (by omega)).1
      rw [if_neg (nI_ge hlt (by omega)), not_n S _ (by omega), not_n (allB (asV A)) S (by omega), nI_1]
      simp only [jn2_s, jn1_s]
      by_cases g : okB (asV A) S
      · have L1 : ldI 0 (HH sh c4 z) 108 (nI S) = some (nI (w1 S)) := by rw [HL W hS.w.2.2 (show S < 1024 by omega) (by omega), own S hlt]
        have L2 : ldI 0 (HH sh c4 z) 107 (nI (allB (asV A) &&& (1023 ^^^ S))) = some (nI (w2 (allB (asV A) &&& (1023 ^^^ S)))) := by rw [HL W hS.w.2.1 (show allB (asV A) &&& (1023 ^^^ S) < 1024 by omega) (by omega), oth]
        rw [if_pos (show nI (S &&& (1023 ^^^ allB (asV A))) = 0 by rw [show S &&& (1023 ^^^ allB (asV A)) = 0 from g]; rfl), HR (k := 13) W hS.1 rfl, HR (k := 12) W hS.1 rfl]
        simp only [bnd_s, L1, L2]
        have e0 : (if nI (w1 S) ≤ nI (w2 (allB (asV A) &&& (1023 ^^^ S))) then (if nI R ≤ nI (w2 (allB (asV A) &&& (1023 ^^^ S))) then (if nI R ≤ nI (w2 (allB (asV A) &&& (1023 ^^^ S))) then rec (nI R) (nI F) (nI (S + 1)) else rec (nI (w2 (allB (asV A) &&& (1023 ^^^ S)))) (nI F) (nI (S + 1))) else (if nI R ≤ nI (w2 (allB (asV A) &&& (1023 ^^^ S))) then rec (nI R) (nI S) (nI (S + 1)) else rec (nI (w2 (allB (asV A) &&& (1023 ^^^ S)))) (nI S) (nI (S + 1)))) else (if nI R ≤ nI (w1 S) then (if nI R ≤ nI (w1 S) then rec (nI R) (nI F) (nI (S + 1)) else rec (nI (w1 S)) (nI F) (nI (S + 1))) else (if nI R ≤ nI (w1 S) then rec (nI R) (nI S) (nI (S + 1)) else rec (nI (w1 S)) (nI S) (nI (S + 1))))) = if R ≤ max (w1 S) (w2 (allB (asV A) &&& (1023 ^^^ S))) then rec (nI R) (nI F) (nI (S + 1)) else rec (nI (max (w1 S) (w2 (allB (asV A) &&& (1023 ^^^ S))))) (nI S) (nI (S + 1)) := by
          simp only [nle (show w1 S < 2147483648 by omega) (show w2 (allB (asV A) &&& (1023 ^^^ S)) < 2147483648 by omega), nle (show R < 2147483648 by omega) (show w2 (allB (asV A) &&& (1023 ^^^ S)) < 2147483648 by omega), nle (show R < 2147483648 by omega) (show w1 S < 2147483648 by omega)]
          by_cases q1 : w1 S ≤ w2 (allB (asV A) &&& (1023 ^^^ S))
          · rw [if_pos q1, Nat.max_eq_right q1]
            by_cases q2 : R ≤ w2 (allB (asV A) &&& (1023 ^^^ S))
            · simp only [if_pos q2]
            · simp only [if_neg q2]
          · rw [if_neg q1, Nat.max_eq_left (by omega)]
            by_cases q2 : R ≤ w1 S
            · simp only [if_pos q2]
            · simp only [if_neg q2]
        by_cases q : R ≤ max (w1 S) (w2 (allB (asV A) &&& (1023 ^^^ S)))
        · rw [if_pos q] at e0
          exact ⟨_, _, _, ⟨rfl, R, F, rfl, rfl, hfb.skip (fun _ => q)⟩, e0⟩
        · rw [if_neg q] at e0
          exact ⟨_, _, _, ⟨rfl, _, S, rfl, rfl, hfb.take g (by omega)⟩, e0⟩
      · rw [if_neg (show ¬ nI (S &&& (1023 ^^^ allB (asV A))) = 0 by rw [show (0 : Int32) = nI 0 from rfl, nI_eq (by omega) (by omega)]; exact g)]
        exact ⟨_, _, _, ⟨rfl, R, F, rfl, rfl, hfb.skip (fun q => absurd q g)⟩, rfl⟩
    · refine Or.inr ?_
      have eS : S = 2 ^ mvN (asV A) := by omega
      subst eS
      rw [if_pos (nI_le (Nat.le_refl _) (by omega))]
      simp only [jn1_s]
      refine ⟨R, F, w1, w2, t1, t2, c4, ?_, J4, Q1, Q3, fun S hS => (r2 S hS).2, fun S hS => (r4 S hS).2, hfb⟩
      by_cases g : R < FARn
      · rw [if_pos g, if_neg (show ¬ nI R = (1000000 : Int32) by rw [show (1000000 : Int32) = nI 1000000 from rfl, nI_eq (by omega) (by omega)]; unfold FARn at g; omega)]
        by_cases q : p = 0
        · rw [if_pos q, q, if_pos (show nI 0 = 0 by decide)]
        · rw [if_neg q, if_neg (show ¬ nI p = 0 by rw [show (0 : Int32) = nI 0 from rfl, nI_eq (by omega) (by omega)]; exact q)]
      · rw [if_neg g, if_pos (show nI R = (1000000 : Int32) by rw [show R = 1000000 by unfold FARn at g; omega]; rfl)]
theorem op_twoMills {n : Nat} {h : Hp} (hn : n ≤ 10000) (hI : Inv n h) (x : Int32) : ∃ r h1 h2, f_X6_twoMills 0 x h = some (r, h1) ∧ f_X7_twoMills 99 x h1 = some (r, h2) ∧ Inv (n + 1) h2 := by
  obtain ⟨A, y, sh, c, z, rfl, hA, J⟩ := hI.jn
  have hV := hA.2.2.2.1
  by_cases hx : x = 0 ∨ x = 1
  · obtain ⟨p, hp, rfl⟩ : ∃ p, p ≤ 1 ∧ x = nI p := by
      rcases hx with rfl | rfl
      · exact ⟨0, by omega, rfl⟩
      · exact ⟨1, by omega, rfl⟩
    obtain ⟨R, f, v1, v2, y1, sh1, c1, z1, u1, u2, e1, J1, h11, h12, Qu1, Qu2, E1, E2, hf1⟩ := partC hA hn J
    obtain ⟨R', F, w1, w2, t1, t2, c2, e2, J2, Qt1, Qt2, M1, M2, hf2⟩ := twoM hA J1 hp
    have Qu2' : QC (asL A) (asV A) (6 * 5 + (if asL A = 1 then 5 else 5)) 0 u2 (10 * (36 * 2 ^ nW (asV A))) := by rw [ite_self]; exact Qu2
    have hd : ∀ s, s < 2 ^ nW (asV A) → max (w1 (sgN (asV A) s)) (w2 (allB (asV A) &&& (1023 ^^^ sgN (asV A) s))) = max (v1 s) (v2 (2 ^ nW (asV A) - 1 - s)) := by
      intro s hs
      rw [← sgN_rest hV hs, ← ev_mv hA.2.1 hV hV.2.2.1 hV.2.2.2.1 Qt1 Qu1 hs (E1 s hs) (M1 _ (sgN_lt _ _)), ← ev_mv hA.2.1 hV (show 5 ≤ 5 by omega) (show 5 ≤ 5 by omega) Qt2 Qu2' (show 2 ^ nW (asV A) - 1 - s < 2 ^ nW (asV A) by omega) (E2 _ (by omega)) (M2 _ (sgN_lt _ _))]
    obtain ⟨hRR, hFF⟩ := fb_same (okS := okB (asV A)) hd (fun s _ => okB_sg hV s) (fun S hS hk => okB_sur hV hS hk) hf1 hf2
    subst hRR
    subst hFF
    refine ⟨_, HH sh1 c1 z1, HH sh1 c2 z1, ?_, e2, J2.inv hA⟩
    unfold f_X6_twoMills
    rw [HG J.1 J.2.1.1, bnd_s]
    simp only [jn0_s, jn1_s]
    rw [HR (k := 12) J.1 J.2.1.1 rfl, bnd_s, HR (k := 4) J.1 J.2.1.1 rfl, bnd_s, e1, bnd2_s, HR (k := 12) J1.1 J1.2.1.1 rfl, bnd_s, bnd_s, HI (k := 11) J1.1 J1.2.1.a84 rfl, bnd_s, HI (k := 12) J1.1 J1.2.1.a84 rfl, bnd_s, h11, h12]
    have hh : ∀ (P Q : Option (Int32 × Hp)), (if nI p = 0 then P else (if nI p = (1 : Int32) then P else Q)) = P := by
      intro P Q
      rcases (show p = 0 ∨ p = 1 by omega) with rfl | rfl
      · rw [if_pos (by decide)]
      · rw [if_neg (by decide), if_pos (by decide)]
    rw [hh]
    by_cases g : R < FARn
    · rw [if_pos g, if_pos g, if_neg i10]
      by_cases q : p = 0
      · subst q
        rw [if_pos (show nI 0 = 0 by decide), if_pos rfl]
      · rw [if_neg q, if_neg (show ¬ nI p = 0 by rw [show (0 : Int32) = nI 0 from rfl, nI_eq (by omega) (by omega)]; exact q)]
    · rw [if_neg g, if_neg g, if_pos rfl]
  · have h0 : ¬ x = 0 := fun q => hx (Or.inl q)
    have h1 : ¬ x = 1 := fun q => hx (Or.inr q)
    refine ⟨-1, HH sh c z, HH sh c z, ?_, ?_, J.inv hA⟩
    · unfold f_X6_twoMills
      rw [HG J.1 J.2.1.1, bnd_s]
      simp only [jn0_s]
      rw [if_neg h0, if_neg h1]
    · unfold f_X7_twoMills
      rw [HG J.1 J.2.2.2.2.1.1, bnd_s, in_no, bnd_s, if_pos rfl]
      rw [show (0 : Int64).toInt = 0 from rfl, show (1 : Int64).toInt = 1 from rfl]
      have p1 : x.toInt ≠ 0 := fun q => h0 (by rw [i_eq]; exact q)
      have p2 : x.toInt ≠ 1 := fun q => h1 (by rw [i_eq]; exact q)
      omega
end TM2
