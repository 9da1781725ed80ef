/-! ===== owners who should come together ===== -/
section PH
variable {n : Nat} {A : AS} {y : Dy} {sh : Nat → Shp} {c c' : Nat → Nat → Int32} {z : Nat × Nat}
/-- the pairs found so far, as bits -/
def PM (A : AS) (pm a b : Nat) : Prop := ∀ k m, k < 5 → m < 5 → (pm.testBit (5 * k + m) = true ↔ ((k < a ∧ m < a) ∨ (k = a ∧ m < b) ∨ (m = a ∧ k < b)) ∧ pQ A k m = true)
theorem PM.zero (A : AS) : PM A 0 0 0 := by
  intro k m hk hm
  rw [Nat.zero_testBit]
  constructor
  · intro h; cases h
  · rintro ⟨h, _⟩; omega
theorem PM.row {pm a : Nat} (ha : a < 5) (h : PM A pm a a) : PM A pm (a + 1) 0 := by
  intro k m hk hm
  rw [h k m hk hm]
  constructor
  · rintro ⟨h1, h2⟩; exact ⟨by omega, h2⟩
  · rintro ⟨h1, h2⟩
    refine ⟨?_, h2⟩
    by_cases e : k = a ∧ m = a
    · rw [e.1, e.2, pQ_self A ha] at h2
      cases h2
    · omega
theorem PM.yes {pm a b : Nat} (ha : a < 5) (hb : b < a) (h : PM A pm a b) (hB : pB A a b = true) : PM A (pm ||| (2 ^ (5 * a + b) ||| 2 ^ (5 * b + a))) a (b + 1) := by
  intro k m hk hm
  rw [← Nat.or_assoc, tb_put, tb_put]
  simp only [Bool.or_eq_true, decide_eq_true_eq]
  rw [h k m hk hm]
  constructor
  · rintro ((⟨h1, h2⟩ | h1) | h1)
    · exact ⟨by omega, h2⟩
    · have e : k = a ∧ m = b := by omega
      rw [e.1, e.2]
      exact ⟨by omega, by rw [pQ_gt A hb ha]; exact hB⟩
    · have e : k = b ∧ m = a := by omega
      rw [e.1, e.2]
      exact ⟨by omega, by rw [pQ_lt A hb ha, pB_comm]; exact hB⟩
  · rintro ⟨h1, h2⟩
    by_cases e1 : k = a ∧ m = b
    · exact Or.inl (Or.inr (by omega))
    · by_cases e2 : k = b ∧ m = a
      · exact Or.inr (by omega)
      · exact Or.inl (Or.inl ⟨by omega, h2⟩)
theorem PM.no {pm a b : Nat} (ha : a < 5) (hb : b < a) (h : PM A pm a b) (hB : ¬ pB A a b = true) : PM A pm a (b + 1) := by
  intro k m hk hm
  rw [h k m hk hm]
  constructor
  · rintro ⟨h1, h2⟩; exact ⟨by omega, h2⟩
  · rintro ⟨h1, h2⟩
    refine ⟨?_, h2⟩
    by_cases e1 : k = a ∧ m = b
    · rw [e1.1, e1.2, pQ_gt A hb ha] at h2
      exact absurd h2 hB
    · by_cases e2 : k = b ∧ m = a
      · rw [e2.1, e2.2, pQ_lt A hb ha, pB_comm] at h2
        exact absurd h2 hB
      · omega
abbrev mR (A : AS) : PS := scP (pQ A) 7776
theorem scP_le (P : Nat → Nat → Bool) : ∀ n, (scP P n).2 ≤ 3 := by
  intro n
  induction n with
  | zero => show 0 ≤ 3; omega
  | succ n ih =>
    simp only [scP]
    unfold stS
    split
    · exact ih
    · exact pvP_le P n
set_option maxHeartbeats 2000000 in
theorem togM (hA : WFA A) (J : Jn n A y sh c z) {x r : Int32} (h0 : 0 < (mR A).2) (h6 : ∀ j, j < 5 → (mR A).1 j < 6) (hx : (x = -1 ∧ r = nI (mR A).2 - 1) ∨ ∃ j, j < 5 ∧ x = nI j ∧ r = enc ((mR A).1 j)) : ∃ sh' c', f_X7_together 99 x (HH sh c z) = some (r, HH sh' c' z) ∧ Jn n A y sh' c' z := by
  have hin : f_X7_in x.toInt64 (-1) 4 = some 1 := by
    rw [in_int, if_pos]
    rw [show (-1 : Int64).toInt = -1 from rfl, show (4 : Int64).toInt = 4 from rfl]
    rcases hx with ⟨rfl, _⟩ | ⟨j, hj, rfl, _⟩
    · rw [show (-1 : Int32).toInt = -1 from rfl]; omega
    · rw [nI_T _ (by omega)]; omega
  have p25 : (2 : Nat) ^ 25 = 33554432 := by decide
  unfold f_X7_together
  rw [HG J.1 J.2.2.2.2.1.1, bnd_s, hin, bnd_s, if_neg i10]
  refine wl3_fuel (fun a q x h => x = nI a ∧ ∃ pm, q = nI pm ∧ pm < 2 ^ 25 ∧ PM A pm a 0 ∧ ∃ sh' c', h = HH sh' c' z ∧ Jn n A y sh' c' z) 5 (by omega) (fun t => ∃ sh' c', t = some (r, HH sh' c' z) ∧ Jn n A y sh' c' z) ?_ _ _ _ ⟨rfl, 0, rfl, by omega, PM.zero A, sh, c, rfl, J⟩
  intro rec a q i h ha hi
  obtain ⟨rfl, pm, rfl, hpm, hPM, sh1, c1, rfl, J1⟩ := hi
  rcases Nat.lt_or_ge a 5 with a5 | a5
  · refine Or.inl ⟨a5, ?_⟩
    rw [if_neg (five_ge a5)]
    refine wl3_fuel (fun b q x h => x = nI b ∧ ∃ pm, q = nI pm ∧ pm < 2 ^ 25 ∧ PM A pm a b ∧ ∃ sh' c', h = HH sh' c' z ∧ Jn n A y sh' c' z) a (by omega) (fun t => ∃ x1 x2 x3, (x2 = nI (a + 1) ∧ ∃ pm, x1 = nI pm ∧ pm < 2 ^ 25 ∧ PM A pm (a + 1) 0 ∧ ∃ sh' c', x3 = HH sh' c' z ∧ Jn n A y sh' c' z) ∧ t = rec x1 x2 x3) ?_ _ _ _ ⟨rfl, pm, rfl, hpm, hPM, sh1, c1, rfl, J1⟩
    intro rec2 b q i h hb hi
    clear hPM hpm J1
    obtain ⟨rfl, pm, rfl, hpm, hPM, sh2, c2, rfl, J2⟩ := hi
    rcases Nat.lt_or_ge b a with hl | hl
    · refine Or.inl ⟨hl, ?_⟩
      obtain ⟨sh3, c3, e3, J3⟩ := isPairM hA J2 a5 (show b < 5 by omega) (by omega)
      rw [if_neg (nI_ge hl (by omega)), e3, bnd2_s]
      simp only [jn1_s, nm_s]
      by_cases hB : pB A a b = true
      · have ea : (5 : Int32) * nI a + nI b = nI (5 * a + b) := by rw [show (5 : Int32) = nI 5 from rfl, pk_mul, nI_add]
        have eb : (5 : Int32) * nI b + nI a = nI (5 * b + a) := by rw [show (5 : Int32) = nI 5 from rfl, pk_mul, nI_add]
        rw [if_pos hB, if_neg i10, ea, eb, sh_one (by omega), sh_one (by omega), or_n, or_n, nI_1]
        refine ⟨_, _, _, ⟨rfl, _, rfl, ?_, hPM.yes a5 hl hB, sh3, c3, rfl, J3⟩, rfl⟩
        exact Nat.or_lt_two_pow hpm (or_lt (Nat.pow_lt_pow_right (by omega) (by omega)) (by omega))
      · rw [if_neg hB, if_pos rfl, show (0 : Int32) = nI 0 from rfl, or_n, Nat.or_zero, nI_1]
        exact ⟨_, _, _, ⟨rfl, _, rfl, hpm, hPM.no a5 hl hB, sh3, c3, rfl, J3⟩, rfl⟩
    · refine Or.inr ?_
      have e : b = a := by omega
      subst e
      rw [if_pos (nI_le hl (by omega)), nI_1]
      exact ⟨_, _, _, ⟨rfl, pm, rfl, hpm, hPM.row a5, sh2, c2, rfl, J2⟩, rfl⟩
  · refine Or.inr ?_
    have ea : a = 5 := by omega
    subst ea
    have hbt : ∀ k m, k < 5 → m < 5 → pm.testBit (5 * k + m) = pQ A k m := by
      intro k m hk hm
      have q := hPM k m hk hm
      rw [Bool.eq_iff_iff, q]
      constructor
      · exact fun r => r.2
      · exact fun r => ⟨by omega, r⟩
    have W := J1.1
    have hS := J1.2.2.2.2.1
    have s110 := hS.rb.2.2.1
    have s111 := hS.rb.2.2.2
    rw [if_pos (five_le a5 (by omega))]
    refine wl3_fuel (fun k q x h => x = nI k ∧ q = nI (scP (pQ A) k).2 - 1 ∧ ∃ c', h = HH sh1 c' z ∧ (∀ b, b ≠ 112 → b ≠ 113 → c' b = c1 b) ∧ (0 < (scP (pQ A) k).2 → ∀ j, j < 5 → c' 113 j = nI ((scP (pQ A) k).1 j))) 7776 (by omega) (fun t => ∃ sh' c', t = some (r, HH sh' c' z) ∧ Jn n A y sh' c' z) ?_ _ _ _ ⟨rfl, rfl, c1, rfl, fun _ _ _ => rfl, fun q => absurd q (Nat.lt_irrefl 0)⟩
    intro rec3 k q i h hk hi
    obtain ⟨rfl, rfl, c2, rfl, f2, v2⟩ := hi
    have hle := scP_le (pQ A) k
    rcases Nat.lt_or_ge k 7776 with hl | hl
    · refine Or.inl ⟨hl, ?_⟩
      obtain ⟨c3, e3, f3, v3⟩ := paired_eq (P := pQ A) (c := c2) W hS hl hpm hbt
      have hpv := pvP_le (pQ A) k
      have esc : scP (pQ A) (k + 1) = if pvP (pQ A) k ≤ (scP (pQ A) k).2 then scP (pQ A) k else (dg6 k, pvP (pQ A) k) := rfl
      rw [if_neg (show ¬ (7776 : Int32) ≤ nI k from nI_ge (b := 7776) hl (by omega)), e3, bnd2_s]
      simp only [jn2_s]
      have hcmp : (nI (pvP (pQ A) k) - 1 ≤ nI (scP (pQ A) k).2 - 1) = (pvP (pQ A) k ≤ (scP (pQ A) k).2) := by
        rw [i_le, show (1 : Int32) = nI 1 from rfl, pk_sub_toInt (by omega) (by omega), pk_sub_toInt (by omega) (by omega)]
        simp only [eq_iff_iff]
        omega
      by_cases hc : pvP (pQ A) k ≤ (scP (pQ A) k).2
      · rw [if_pos (by rw [hcmp]; exact hc), nI_1]
        rw [if_pos hc] at esc
        exact ⟨_, _, _, ⟨rfl, by rw [esc], c3, rfl, fun b h1 h2 => by rw [f3 b h1]; exact f2 b h1 h2, by rw [esc, f3 113 (by omega)]; exact v2⟩, rfl⟩
      · rw [if_neg (by rw [hcmp]; exact hc)]
        rw [if_neg hc] at esc
        refine wl2_fuel (fun m x h => x = nI m ∧ ∃ c', h = HH sh1 c' z ∧ (∀ b, b ≠ 113 → c' b = c3 b) ∧ ∀ j, j < m → c' 113 j = nI (dg6 k j)) 5 (by omega) (fun t => ∃ x1 x2 x3, (x2 = nI (k + 1) ∧ x1 = nI (scP (pQ A) (k + 1)).2 - 1 ∧ ∃ c', x3 = HH sh1 c' z ∧ (∀ b, b ≠ 112 → b ≠ 113 → c' b = c1 b) ∧ (0 < (scP (pQ A) (k + 1)).2 → ∀ j, j < 5 → c' 113 j = nI ((scP (pQ A) (k + 1)).1 j))) ∧ t = rec3 x1 x2 x3) ?_ _ _ ⟨rfl, c3, rfl, fun _ _ => rfl, fun j hj => absurd hj (by omega)⟩
        intro rec4 m i h hm hi
        obtain ⟨rfl, c4, rfl, f4, v4⟩ := hi
        rcases Nat.lt_or_ge m 5 with m5 | m5
        · refine Or.inl ⟨m5, ?_⟩
          rw [if_neg (five_ge m5), HR (k := 19) W hS.1 rfl, bnd_s, HR (k := 18) W hS.1 rfl, bnd_s, HL W s110 m5 (by omega), bnd_s, f4 112 (by omega), v3 m m5, HS W s111 m5 (by omega), bnd_s, nrw0, nI_1]
          refine ⟨_, _, ⟨rfl, _, rfl, fun b hb => by rw [u2_other _ _ _ hb]; exact f4 b hb, fun j hj => ?_⟩, rfl⟩
          by_cases e : j = m
          · rw [e, u2_same]
          · rw [u2_ne _ _ (Or.inr e)]; exact v4 j (by omega)
        · refine Or.inr ?_
          rw [if_pos (five_le m5 (by omega)), nI_1]
          exact ⟨_, _, _, ⟨rfl, by rw [esc], c4, rfl, fun b h1 h2 => by rw [f4 b h2, f3 b h1]; exact f2 b h1 h2, fun _ j hj => by rw [esc]; exact v4 j (by omega)⟩, rfl⟩
    · refine Or.inr ?_
      have ek : k = 7776 := by omega
      subst ek
      rw [if_pos (show (7776 : Int32) ≤ nI 7776 by decide)]
      simp only [jn1_s]
      have J2 : Jn n A y sh1 c2 z := J1.cc hA (Kp.of (fun b q => f2 b (by omega) (by omega)))
      rcases hx with ⟨rfl, rfl⟩ | ⟨j, hj, rfl, rfl⟩
      · rw [if_neg (show ¬ (0 : Int32) ≤ -1 by decide)]
        exact ⟨sh1, c2, rfl, J2⟩
      · have L : ldI 0 (HH sh1 c2 z) 113 (nI j) = some (nI ((mR A).1 j)) := by rw [HL W s111 hj (by omega), v2 h0 j hj]
        have h6j := h6 j hj
        rw [if_pos (show (0 : Int32) ≤ nI j from nI_le (a := 0) (Nat.zero_le _) (by omega)), HR (k := 19) W hS.1 rfl, bnd_s, L, bnd_s, bnd_s, L, bnd_s]
        refine ⟨sh1, c2, ?_, J2⟩
        by_cases e : (mR A).1 j = 5
        · rw [if_pos (show nI ((mR A).1 j) = 5 by rw [e]; rfl), e]; rfl
        · rw [if_neg (show ¬ nI ((mR A).1 j) = (5 : Int32) by rw [show (5 : Int32) = nI 5 from rfl, nI_eq (by omega) (by omega)]; exact e), enc_ne (by omega)]
theorem scP_6 (P : Nat → Nat → Bool) (j : Nat) : ∀ n, (scP P n).1 j < 6 := by
  intro n
  induction n with
  | zero => show 0 < 6; omega
  | succ n ih =>
    simp only [scP]
    unfold stS
    split
    · exact ih
    · exact dg6_lt n j
theorem op_together {n : Nat} {h : Hp} (hn : n ≤ 10000) (hI : Inv n h) (x : Int32) : ∃ r h1 h2, f_X6_together 0 x h = some (r, h1) ∧ f_X7_together 99 x h1 = some (r, h2) ∧ Inv (n + 1) h2 := by
  obtain ⟨A, y, sh, c, z, rfl, hA, J⟩ := hI.jn
  have key : (cR A).2 = (mR A).2 ∧ (∀ j, j < 5 → (cR A).1 j = (mR A).1 j) ∧ 0 < (mR A).2 := chz_sc (pB A 0 1) (pB A 0 2) (pB A 0 3) (pB A 0 4) (pB A 1 2) (pB A 1 3) (pB A 1 4) (pB A 2 3) (pB A 2 4) (pB A 3 4)
  obtain ⟨k1, k2, k3⟩ := key
  have good : ∀ r, ((x = -1 ∧ r = nI (cR A).2 - 1) ∨ ∃ j, j < 5 ∧ x = nI j ∧ r = enc ((cR A).1 j)) → ∃ r h1 h2, f_X6_together 0 x (HH sh c z) = some (r, h1) ∧ f_X7_together 99 x h1 = some (r, h2) ∧ Inv (n + 1) h2 := by
    intro r hr
    obtain ⟨y1, sh1, c1, z1, e1, J1⟩ := togC hA hn J (by rw [k1]; exact k3) hr
    have hr2 : (x = -1 ∧ r = nI (mR A).2 - 1) ∨ ∃ j, j < 5 ∧ x = nI j ∧ r = enc ((mR A).1 j) := by
      rcases hr with ⟨h1, h2⟩ | ⟨j, hj, h1, h2⟩
      · exact Or.inl ⟨h1, by rw [h2, k1]⟩
      · exact Or.inr ⟨j, hj, h1, by rw [h2, k2 j hj]⟩
    obtain ⟨sh2, c2, e2, J2⟩ := togM hA J1 k3 (fun j _ => scP_6 _ j _) hr2
    exact ⟨r, _, _, e1, e2, J2.inv hA⟩
  by_cases hm : x = -1
  · exact good _ (Or.inl ⟨hm, rfl⟩)
  · rcases i_cases x 5 (by omega) with ⟨j, hj, e⟩ | hx
    · exact good _ (Or.inr ⟨j, hj, e, rfl⟩)
    · refine ⟨-1, HH sh c z, HH sh c z, ?_, ?_, J.inv hA⟩
      · unfold f_X6_together
        rw [HG J.1 J.2.1.1, bnd_s]
        simp only [jn0_s]
        rw [if_neg hm, owner_out hx, bnd_s, if_pos rfl]
      · have hno : f_X7_in x.toInt64 (-1) 4 = some 0 := by
          rw [in_int, if_neg]
          rw [show (-1 : Int64).toInt = -1 from rfl, show (4 : Int64).toInt = 4 from rfl]
          rw [i_lt, i_le, nI_T _ (by omega), show (0 : Int32).toInt = 0 from rfl] at hx
          rw [i_eq, show (-1 : Int32).toInt = -1 from rfl] at hm
          omega
        unfold f_X7_together
        rw [HG J.1 J.2.2.2.2.1.1, bnd_s, hno, bnd_s, if_pos rfl]
end PH
