/-! ===== pairs of owners: the reference ===== -/
section PG
variable {n : Nat} {A : AS} {y : Dy} {sh : Nat → Shp} {c c' : Nat → Nat → Int32} {z : Nat × Nat}
set_option maxHeartbeats 1000000 in
theorem isPairM (hA : WFA A) (J : Jn n A y sh c z) {p q : Nat} (hp : p < 5) (hq : q < 5) (hpq : p ≠ q) : ∃ sh' c', f_X7_isPair 99 (nI p) (nI q) (HH sh c z) = some (if pB A p q = true then 1 else 0, HH sh' c' z) ∧ Jn n A y sh' c' z := by
  have hV := hA.2.2.2.1
  have W := J.1
  have hS := J.2.2.2.2.1
  have hR := J.2.2.2.2.2
  have w1 := wSum_le (w := wH (mvD (asV A)) p) (wH_le _ _) (mvN (asV A))
  have w2 := wSum_le (w := wH (mvD (asV A)) q) (wH_le _ _) (mvN (asV A))
  have hn10 := hV.1
  unfold f_X7_isPair
  rw [HG W hS.1, bnd_s]
  simp only [jn0_s, jn1_s]
  rw [if_neg (show ¬ nI p = nI q by rw [nI_eq (by omega) (by omega)]; exact hpq), hasMany_eq W hS hR hV hp, bnd_s, hasMany_eq W hS hR hV hq, bnd_s]
  by_cases h1 : 0 < wSum (wH (mvD (asV A)) p) (mvN (asV A))
  · rw [if_neg (nI_ne0 h1 (by omega))]
    by_cases h2 : 0 < wSum (wH (mvD (asV A)) q) (mvN (asV A))
    · rw [if_neg (nI_ne0 h2 (by omega))]
      obtain ⟨c2, e2, f2, z2⟩ := zero_loop (c := c) (ρ := Int32 × Hp) W hS _
      rw [e2]
      clear e2
      have hR2 : ModR A c2 := hR.kp (Kp.of (fun a r => f2 a (by omega)))
      obtain ⟨c3, e3, f3, b3⟩ := base_loop (c := c2) (ρ := Int32 × Hp) W hS hR2 hV (gK (mvD (asV A))) (wO (mvD (asV A)) p q) (fun i hi => (hV.2.1 i hi).1) z2 _ (fun r13 i11 h12 => bnd (gR h12 99 7 17) fun a24 => bnd (f_X7_of 99 i11 (0 : Int32) h12) fun x25 => bnd (ldI 0 h12 a24 x25) fun x26 => bnd (f_X7_isWaiting 99 i11 h12) fun x27 => if x27 = 0 then (bnd (stI 0 h12 a24 x25 (x26 + 0)) fun h30 => r13 (i11 + (1 : Int32)) h30) else (bnd (f_X7_of 99 i11 (2 : Int32) h12) fun x33 => if x33 = nI p then (bnd (stI 0 h12 a24 x25 (x26 + 1)) fun h30 => r13 (i11 + (1 : Int32)) h30) else (bnd (f_X7_of 99 i11 (2 : Int32) h12) fun x36 => if x36 = nI q then (bnd (stI 0 h12 a24 x25 (x26 + 1)) fun h30 => r13 (i11 + (1 : Int32)) h30) else (bnd (stI 0 h12 a24 x25 (x26 + 0)) fun h30 => r13 (i11 + (1 : Int32)) h30)))) (by
        intro rec i c4 hi f4
        have hR4 : ModR A c4 := hR2.kp (Kp.of (fun a r => f4 a (by omega)))
        have hd := hV.2.1 i hi
        have o0 : f_X7_of 99 (nI i) 0 (HH sh c4 z) = some (nI (mvD (asV A) i 0)) := of_in (w := 0) W hS hR4 hV hi (by omega)
        have o2 : f_X7_of 99 (nI i) 2 (HH sh c4 z) = some (nI (mvD (asV A) i 2)) := of_in (w := 2) W hS hR4 hV hi (by omega)
        have st : ∀ v : Int32, stI 0 (HH sh c4 z) 111 (nI (mvD (asV A) i 0)) v = some (HH sh (u2 c4 111 (mvD (asV A) i 0) v) z) := fun v => by rw [HS W hS.rb.2.1 hd.1 (by omega), nrw0]
        show (bnd (gR (HH sh c4 z) 99 7 17) fun a24 => bnd (f_X7_of 99 (nI i) (0 : Int32) (HH sh c4 z)) fun x25 => _) = _
        rw [HR (k := 17) W hS.1 rfl, bnd_s, o0, bnd_s, HL W hS.rb.2.1 hd.1 (by omega), bnd_s, isWaiting_in W hS hR4 hV hi, bnd_s, o2, bnd_s, bnd_s, st, bnd_s, st, bnd_s, nI_1]
        show _ = rec (nI (i + 1)) (HH sh (u2 c4 111 (mvD (asV A) i 0) (c4 111 (mvD (asV A) i 0) + nI (wO (mvD (asV A)) p q i))) z)
        unfold wO
        by_cases e : mvD (asV A) i 4 = 0
        · rw [if_pos e, if_neg i10]
          by_cases e1 : mvD (asV A) i 2 = p
          · rw [if_pos (by rw [e1]), if_pos ⟨e, Or.inl e1⟩]; rfl
          · rw [if_neg (by rw [nI_eq (by omega) (by omega)]; exact e1)]
            by_cases e2 : mvD (asV A) i 2 = q
            · rw [if_pos (by rw [e2]), if_pos ⟨e, Or.inr e2⟩]; rfl
            · rw [if_neg (by rw [nI_eq (by omega) (by omega)]; exact e2), if_neg (fun r => r.2.elim e1 e2)]; rfl
        · rw [if_neg e, if_pos rfl, if_neg (fun r => e r.1)]; rfl)
      rw [e3]
      clear e3
      have J3 : Jn n A y sh c3 z := J.cc hA (Kp.of (fun a r => by rw [f3 a (by omega), f2 a (by omega)]))
      obtain ⟨T4, c4, e4, f4, -⟩ := mostOf_eq (b := bO (asV A) p q) hA J3 (bO_lt hV p q) b3
      have J4 : Jn n A y (shT sh T4) c4 z := (J3.tab T4).cc hA (Kp.of (fun a r => f4 a (by omega)))
      have e4' : f_X7_mostOf 99 (HH sh c3 z) = some (nI (lgN A (bO (asV A) p q)), HH (shT sh T4) c4 z) := e4
      have hlt := lgN_lt (A := A) (bO_lt hV p q)
      have hsm := bO_sum hV p q
      have hso := wO_sum (mvD (asV A)) hpq (mvN (asV A))
      rw [e4', bnd2_s, hasMany_eq J4.1 J4.2.2.2.2.1 J4.2.2.2.2.2 hV hp, bnd_s, hasMany_eq J4.1 J4.2.2.2.2.1 J4.2.2.2.2.2 hV hq, bnd_s, nI_add]
      refine ⟨shT sh T4, c4, ?_, J4⟩
      by_cases h3 : lgN A (bO (asV A) p q) = sum5 (bO (asV A) p q) 5
      · rw [if_pos (show nI (lgN A (bO (asV A) p q)) = nI (wSum (wH (mvD (asV A)) p) (mvN (asV A)) + wSum (wH (mvD (asV A)) q) (mvN (asV A))) by rw [h3, hsm, hso]), rZ_1, if_pos (show pB A p q = true from decide_eq_true ⟨h1, h2, h3⟩)]
      · rw [if_neg (show ¬ nI (lgN A (bO (asV A) p q)) = nI (wSum (wH (mvD (asV A)) p) (mvN (asV A)) + wSum (wH (mvD (asV A)) q) (mvN (asV A))) by rw [nI_eq (by omega) (by omega)]; omega), rZ_0, if_neg (show ¬ pB A p q = true from fun r => h3 (of_decide_eq_true r).2.2)]
    · rw [if_pos (show nI (wSum (wH (mvD (asV A)) q) (mvN (asV A))) = 0 by rw [show wSum (wH (mvD (asV A)) q) (mvN (asV A)) = 0 by omega]; rfl), rZ_0, if_neg (show ¬ pB A p q = true from fun r => h2 (of_decide_eq_true r).2.1)]
      exact ⟨sh, c, rfl, J⟩
  · rw [if_pos (show nI (wSum (wH (mvD (asV A)) p) (mvN (asV A))) = 0 by rw [show wSum (wH (mvD (asV A)) p) (mvN (asV A)) = 0 by omega]; rfl), rZ_0, if_neg (show ¬ pB A p q = true from fun r => h1 (of_decide_eq_true r).1)]
    exact ⟨sh, c, rfl, J⟩
theorem dg6_lt (code k : Nat) : dg6 code k < 6 := Nat.mod_lt _ (by omega)
theorem cnP_le (code : Nat) : ∀ k, cnP code k ≤ k := by
  intro k
  induction k with
  | zero => exact Nat.le_refl 0
  | succ k ih => simp only [cnP]; split <;> omega
theorem allP_down {P : Nat → Nat → Bool} {code k : Nat} : ∀ m, allP P code (k + m) = true → allP P code k = true := by
  intro m
  induction m with
  | zero => exact fun h => h
  | succ m ih =>
    intro h
    have h : (allP P code (k + m) && okP P code (k + m)) = true := h
    rw [Bool.and_eq_true] at h
    exact ih h.1
theorem pvP_no {P : Nat → Nat → Bool} {code k : Nat} (hk : k < 5) (h : okP P code k = false) : pvP P code = 0 := by
  unfold pvP
  rw [if_neg]
  intro q
  have e : k + 1 + (4 - k) = 5 := by omega
  have q2 := allP_down (P := P) (code := code) (k := k + 1) (4 - k) (by rw [e]; exact q)
  have q2 : (allP P code k && okP P code k) = true := q2
  rw [h, Bool.and_false] at q2
  cases q2
theorem pvP_le (P : Nat → Nat → Bool) (code : Nat) : pvP P code ≤ 3 := by
  have := cnP_le code 5
  unfold pvP
  split <;> omega
set_option maxHeartbeats 1000000 in
theorem paired_eq {P : Nat → Nat → Bool} (W : Wz sh z) (hS : SMo sh) {code pm : Nat} (hc : code < 7776) (hpm : pm < 2 ^ 25) (hb : ∀ k m, k < 5 → m < 5 → pm.testBit (5 * k + m) = P k m) : ∃ c', f_X7_paired 99 (nI code) (nI pm) (HH sh c z) = some (nI (pvP P code) - 1, HH sh c' z) ∧ (∀ b, b ≠ 112 → c' b = c b) ∧ ∀ j, j < 5 → c' 112 j = nI (dg6 code j) := by
  have n6 : ¬ (6 : Int32) = 0 := by decide
  have n2 : ¬ (2 : Int32) = 0 := by decide
  have s110 := hS.rb.2.2.1
  have p25 : (2 : Nat) ^ 25 = 33554432 := by decide
  unfold f_X7_paired
  rw [HG W hS.1, bnd_s]
  refine wl3_fuel (fun i r x h => r = nI (code / 6 ^ i) ∧ x = (if i < 5 then nI (4 - i) else -1) ∧ ∃ c', h = HH sh c' z ∧ (∀ b, b ≠ 112 → c' b = c b) ∧ ∀ k, 5 - i ≤ k → k < 5 → c' 112 k = nI (dg6 code k)) 5 (by omega) (fun t => ∃ c', t = some (nI (pvP P code) - 1, HH sh c' z) ∧ (∀ b, b ≠ 112 → c' b = c b) ∧ ∀ j, j < 5 → c' 112 j = nI (dg6 code j)) ?_ _ _ _ ⟨by rw [Nat.pow_zero, Nat.div_one], rfl, c, rfl, fun _ _ => rfl, fun k h1 h2 => absurd h1 (by omega)⟩
  intro rec i r x h hi hx
  obtain ⟨rfl, rfl, c1, rfl, f1, v1⟩ := hx
  rcases Nat.lt_or_ge i 5 with h5 | h5
  · refine Or.inl ⟨h5, ?_⟩
    have hq : code / 6 ^ i ≤ code := Nat.div_le_self _ _
    have ed : dg6 code (4 - i) = code / 6 ^ i % 6 := by unfold dg6; rw [show 4 - (4 - i) = i by omega]
    have ep : code / 6 ^ i / 6 = code / 6 ^ (i + 1) := by rw [Nat.div_div_eq_div_mul, Nat.pow_succ]
    rw [if_pos h5, if_neg (nI_pos (by omega)), HR (k := 18) W hS.1 rfl, bnd_s, if_neg n6, HS W s110 (show 4 - i < 5 by omega) (by omega), bnd_s, if_neg n6, nm_s, nrw0, show (6 : Int32) = nI 6 from rfl, pk_rem (by omega) (by omega) (by omega), pk_div (by omega) (by omega) (by omega), ep, ← ed]
    refine ⟨_, _, _, ⟨rfl, ?_, _, rfl, fun b hb => by rw [u2_other _ _ _ hb]; exact f1 b hb, fun k h1 h2 => ?_⟩, rfl⟩
    · by_cases h4 : i + 1 < 5
      · rw [if_pos h4, show 4 - i = 4 - (i + 1) + 1 by omega, pk_m1]
      · rw [if_neg h4, show 4 - i = 0 by omega]
        decide
    · by_cases e : k = 4 - i
      · rw [e, u2_same]
      · rw [u2_ne _ _ (Or.inr e)]; exact v1 k (by omega) h2
  · refine Or.inr ?_
    have v : ∀ j, j < 5 → c1 112 j = nI (dg6 code j) := fun j hj => v1 j (by omega) hj
    have L : ∀ j, j < 5 → ldI 0 (HH sh c1 z) 112 (nI j) = some (nI (dg6 code j)) := fun j hj => by rw [HL W s110 hj (by omega), v j hj]
    rw [if_neg (show ¬ i < 5 by omega), if_pos (show (-1 : Int32) < 0 by decide)]
    refine wl2_fuel (fun k s x => x = nI k ∧ s = nI (cnP code k) ∧ allP P code k = true) 5 (by omega) (fun t => ∃ c', t = some (nI (pvP P code) - 1, HH sh c' z) ∧ (∀ b, b ≠ 112 → c' b = c b) ∧ ∀ j, j < 5 → c' 112 j = nI (dg6 code j)) ?_ _ _ ⟨rfl, rfl, rfl⟩
    intro rec2 k s x hk hx
    obtain ⟨rfl, rfl, ha⟩ := hx
    rcases Nat.lt_or_ge k 5 with k5 | k5
    · have hd := dg6_lt code k
      rw [if_neg (five_ge k5), HR (k := 18) W hS.1 rfl, bnd_s, L k k5, bnd_s]
      simp only [jn1_s, jn0_s]
      by_cases e5 : dg6 code k = 5
      · refine Or.inl ⟨k5, ?_⟩
        rw [if_pos (five_le (by omega) (by omega)), nI_1]
        refine ⟨_, _, ⟨rfl, ?_, ?_⟩, rfl⟩
        · simp only [cnP]; rw [if_neg (by omega)]; rfl
        · simp only [allP, ha, okP]; simp [e5]
      · have hd5 : dg6 code k < 5 := by omega
        have hd2 := dg6_lt code (dg6 code k)
        rw [if_neg (five_ge hd5), bnd_s, bnd_s, L k k5, bnd_s, L _ hd5, bnd_s]
        have no : okP P code k = false → ∃ c', some ((-1 : Int32), HH sh c1 z) = some (nI (pvP P code) - 1, HH sh c' z) ∧ (∀ b, b ≠ 112 → c' b = c b) ∧ ∀ j, j < 5 → c' 112 j = nI (dg6 code j) := by
          intro hno
          rw [pvP_no k5 hno]
          exact ⟨c1, rfl, f1, v⟩
        by_cases e6 : dg6 code (dg6 code k) = k
        · have eix : (5 : Int32) * nI k + nI (dg6 code k) = nI (5 * k + dg6 code k) := by rw [show (5 : Int32) = nI 5 from rfl, pk_mul, nI_add]
          have hbit : ((nI pm >>> (nI (5 * k + dg6 code k) &&& 31)) &&& 1 = 0) = (pm.testBit (5 * k + dg6 code k) = false) := sh_bit0 (by omega) (by omega)
          rw [if_pos (by rw [e6]), bnd_s, L k k5, bnd_s, eix]
          by_cases e7 : P k (dg6 code k) = true
          · refine Or.inl ⟨k5, ?_⟩
            rw [if_neg (by rw [hbit, hb k _ k5 hd5, e7]; exact fun r => by cases r), nI_1, nI_1]
            refine ⟨_, _, ⟨rfl, ?_, ?_⟩, rfl⟩
            · simp only [cnP]; rw [if_pos hd5]
            · simp only [allP, ha, okP]; simp [e6, e7]
          · refine Or.inr ?_
            have e7' : P k (dg6 code k) = false := by
              cases h : P k (dg6 code k) with
              | false => rfl
              | true => exact absurd h e7
            rw [if_pos (by rw [hbit, hb k _ k5 hd5]; exact e7')]
            exact no (by unfold okP; simp [e5, e7'])
        · refine Or.inr ?_
          rw [if_neg (show ¬ nI (dg6 code (dg6 code k)) = nI k by rw [nI_eq (by omega) (by omega)]; exact e6)]
          exact no (by unfold okP; simp [e5, e6])
    · refine Or.inr ?_
      have ek : k = 5 := by omega
      subst ek
      have hcl := cnP_le code 5
      rw [if_pos (five_le k5 (by omega)), if_neg n2, show (2 : Int32) = nI 2 from rfl, pk_div (by omega) (by omega) (by omega)]
      refine ⟨c1, ?_, f1, v⟩
      unfold pvP
      rw [if_pos ha, nI_pred]
end PG
