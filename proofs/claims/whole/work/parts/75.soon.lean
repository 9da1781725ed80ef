/-! ===== soonest ===== -/
set_option maxRecDepth 100000 in
theorem bitCount_eq : ∀ s, s < 1024 → f_J6_bitCount_0f7a4 (nI s) = some (nI (cP (fun q => s.testBit q) 10)) := by decide +kernel
section SN
variable {n : Nat} {A : AS} {y : Dy} {sh : Nat → Shp} {c c' : Nat → Nat → Int32} {z : Nat × Nat}
theorem fillEnds_eq (hA : WFA A) (hn : n ≤ 10000) (J : Jn n A y sh c z) (hTW : TW c (asV A)) {E LE H0 L0 B0 : Nat} (hE : sh E = sA 0 LE) (hE2 : E = y.2.2.1.1 ∨ E = y.2.2.2.1) (hLE : 2 ^ nW (asV A) ≤ LE) (hLE2 : LE ≤ 2048) (hH : H0 < 1000000) (hL0 : L0 ≤ 5) (hB0 : B0 ≤ 5) : ∃ y' sh' c' z' u, f_X1_fillEnds 84 (nI (asL A)) (nI H0) (nI (6 * L0 + B0)) E (HH sh c z) = some (HH sh' c' z') ∧ Jn n A y' sh' c' z' ∧ y'.1 = y.1 ∧ y'.2.2 = y.2.2 ∧ TW c' (asV A) ∧ (∀ b, b < z.1 → b ≠ 84 → b ≠ 89 → b ≠ y.2.1.1 → b ≠ E → c' b = c b) ∧ (∀ b, b < z.1 → b ≠ 84 → sh' b = sh b) ∧ QC (asL A) (asV A) (6 * L0 + B0) H0 u (10 * (36 * 2 ^ nW (asV A))) ∧ ∀ s, s < 2 ^ nW (asV A) → ∃ v, c' E s = nI v ∧ EVp (asL A) u s 36 v := by
  have hV := hA.2.2.2.1
  have hw10 : nW (asV A) ≤ 10 := Nat.le_trans (cP_le _ _) hV.1
  have hp := pow_le10 hw10
  have hpp := Nat.two_pow_pos (nW (asV A))
  have W0 := J.1
  have hs0 := J.2.1
  have hEz : E < z.1 := W0.lt (by rw [hE]; exact fun q => by cases q)
  have hd0 := hs0.dy
  have hlz : y.2.1.1 < z.1 := W0.lt (by rw [hd0.2.1]; exact fun q => by cases q)
  have hB := J.2.2.1.1
  have hyh := hd0.2.2.2.2.2.2.1
  have hyt := hd0.2.2.2.2.2.2.2.1
  have hE84 : E ≠ 84 := by omega
  unfold f_X1_fillEnds
  rw [HG W0 hs0.a84, bnd_s, HR (k := 8) W0 hs0.a84 rfl, bnd_s, HI (k := 5) W0 hs0.a84 rfl, bnd_s, hTW.2.1, show (36 : Int32) = nI 36 from rfl, pk_mul, Nat.mul_comm (2 ^ nW (asV A)) 36]
  obtain ⟨y2, sh2, c2, z2, e2, J2, f2, g2, hlen, k1, k2, k3⟩ := roomL _ hA hn J (L := 36 * 2 ^ nW (asV A)) (by omega)
  rw [e2]
  clear e2
  have W := J2.1
  have hs := J2.2.1
  have hd := hs.dy
  have hll : y2.2.1.2 ≤ 73728 := hd.2.2.2.2.2.2.2.2.2.2.2.2.2.2.2.1
  have hla := hd.2.2.2.2.2.1
  have nlh := hd.2.2.2.2.2.2.2.2.2.2.2.1
  have nlt := hd.2.2.2.2.2.2.2.2.2.2.2.2.1
  have hE2' : E = y2.2.2.1.1 ∨ E = y2.2.2.2.1 := by rw [k2]; exact hE2
  have hEl : E ≠ y2.2.1.1 := by omega
  obtain ⟨c3, e3, f3, r3⟩ := fillRow (c := c2) W (1000000 : Int32) hd.2.1 (by omega)
  rw [HR (k := 8) W hs.a84 rfl, bnd_s, e3, bnd_s]
  simp only [jn1_s]
  rw [if_neg (nI_pos (by omega)), if_neg (show ¬ nI 36 ≤ nI (6 * L0 + B0) from nI_ge (by omega) (by omega)), HR (k := 8) W hs.a84 rfl, bnd_s, HS W hd.2.1 (show 6 * L0 + B0 < y2.2.1.2 by omega) (by omega), bnd_s, nrw0]
  have t3 : TW (u2 c3 y2.2.1.1 (6 * L0 + B0) (nI H0)) (asV A) := by
    refine hTW.kept (fun k hk => ?_) ⟨?_, ?_, ?_, ?_⟩
    · rw [u2_other _ _ _ (by omega), f3 84 (by omega), f2 84 (by omega)]
    · rw [u2_other _ _ _ (by omega), f3 85 (by omega), f2 85 (by omega)]
    · rw [u2_other _ _ _ (by omega), f3 86 (by omega), f2 86 (by omega)]
    · rw [u2_other _ _ _ (by omega), f3 87 (by omega), f2 87 (by omega)]
    · rw [u2_other _ _ _ (by omega), f3 88 (by omega), f2 88 (by omega)]
  obtain ⟨c4, u, e4, f4, Q4, v4⟩ := ends_loop (c := u2 c3 y2.2.1.1 (6 * L0 + B0) (nI H0)) (e0 := 6 * L0 + B0) (H0 := H0) (u0 := fun e => if e = 6 * L0 + B0 then H0 else FARn) (LE := LE) W hs hA.2.1 hV t3 (by rw [g2 E hEz hE84]; exact hE) hE2' hLE hLE2 hlen (by
    intro e he
    show _ = nI (if e = 6 * L0 + B0 then H0 else FARn)
    by_cases q : e = 6 * L0 + B0
    · rw [if_pos q, q, u2_same]
    · rw [if_neg q, u2_ne _ _ (Or.inr q), r3 e (by omega)]
      rfl) (gQ_start _ _ _ _ _ _ _ _ _ hH _ (if_pos rfl) (fun e he q => if_neg q))
  refine ⟨y2, sh2, c4, z2, u, e4, J2.cc hA ?_, k1, k2, t3.kept f4.2 ⟨f4.1 85 (by omega) (by omega) (by omega) (by omega), f4.1 86 (by omega) (by omega) (by omega) (by omega), f4.1 87 (by omega) (by omega) (by omega) (by omega), f4.1 88 (by omega) (by omega) (by omega) (by omega)⟩, ?_, g2, Q4, v4⟩
  · refine Kp.of (fun b hb => ?_)
    rw [f4.1 b (by omega) (by omega) (by omega) (by omega), u2_other _ _ _ (by omega), f3 b (by omega)]
  · intro b h1 h2 h3 h4 h5
    have hbl : b ≠ y2.2.1.1 := by rcases k3 with q | q <;> omega
    rw [f4.1 b h2 h3 hbl h5, u2_other _ _ _ hbl, f3 b hbl, f2 b h1]
end SN
