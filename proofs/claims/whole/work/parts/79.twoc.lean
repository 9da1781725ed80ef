/-! ===== two mills: the class ===== -/
section TC
variable {n : Nat} {A : AS} {y : Dy} {sh : Nat → Shp} {c c' : Nat → Nat → Int32} {z : Nat × Nat}
/-- the bits of the sacks of the first j -/
def sbN (V : MV) (s : Nat) : Nat → Nat
  | 0 => 0
  | j + 1 => if s.testBit j = true then sbN V s j ||| 2 ^ at' V j else sbN V s j
theorem sbN_tb {V : MV} {s q : Nat} : ∀ j, (sbN V s j).testBit q = true ↔ ∃ i, i < j ∧ s.testBit i = true ∧ at' V i = q := by
  intro j
  induction j with
  | zero => simp [sbN]
  | succ j ih =>
    simp only [sbN]
    by_cases h : s.testBit j = true
    · rw [if_pos h, tb_put, Bool.or_eq_true, ih, decide_eq_true_iff]
      constructor
      · rintro (⟨i, h1, h2⟩ | h1)
        · exact ⟨i, by omega, h2⟩
        · exact ⟨j, by omega, h, h1⟩
      · rintro ⟨i, h1, h2, h3⟩
        rcases Nat.lt_or_ge i j with g | g
        · exact Or.inl ⟨i, g, h2, h3⟩
        · rw [show i = j by omega] at h3
          exact Or.inr h3
    · rw [if_neg h, ih]
      constructor
      · rintro ⟨i, h1, h2⟩
        exact ⟨i, by omega, h2⟩
      · rintro ⟨i, h1, h2, h3⟩
        refine ⟨i, ?_, h2, h3⟩
        rcases Nat.lt_or_ge i j with g | g
        · exact g
        · rw [show i = j by omega] at h2
          exact absurd h2 h
theorem sbN_sg {V : MV} (s : Nat) : sbN V s (nW V) = sgN V s := by
  apply tb_ext
  intro q
  rw [Bool.eq_iff_iff, sbN_tb]
  constructor
  · rintro ⟨i, h1, h2, h3⟩
    rw [← h3, sgN_at h1]
    exact h2
  · intro h
    obtain ⟨h1, h2, h3⟩ := sgN_w h
    exact ⟨cP (wP V) q, cP_lt h1 h2, h3, aP_at h1 h2⟩
theorem sackBits_eq (W : Wz sh z) (hs : SC sh y) {V : MV} (hV : WFV V) (hTW : TW c V) {s : Nat} (hsl : s < 2147483648) : f_X1_sackBits 84 (nI s) (HH sh c z) = some (nI (sgN V s)) := by
  have hw10 : nW V ≤ 10 := Nat.le_trans (cP_le _ _) hV.1
  unfold f_X1_sackBits
  rw [HG W hs.a84, bnd_s]
  refine wl2_fuel (fun j x k => x = nI (sbN V s j) ∧ k = nI j) (nW V) (by omega) (fun t => t = some (nI (sgN V s))) ?_ _ _ ⟨rfl, rfl⟩
  intro rec j x k hj hx
  obtain ⟨rfl, rfl⟩ := hx
  rw [HI (k := 4) W hs.a84 rfl, bnd_s, hTW.1]
  rcases Nat.lt_or_ge j (nW V) with h5 | h5
  · refine Or.inl ⟨h5, ?_⟩
    rw [if_neg (nI_ge h5 (by omega))]
    simp only [jn1_s]
    rw [nI_1]
    have hat := aP_in (P := wP V) (mvN V) j h5
    by_cases g : s.testBit j = true
    · rw [if_neg (show ¬ ((nI s >>> (nI j &&& 31)) &&& 1 = 0) by rw [sh_bit0 hsl (by omega), g]; decide), HR (k := 0) W hs.a84 rfl, bnd_s, HL W hs.r8.1 (show j < 10 by omega) (by omega), bnd_s, nm_s, (hTW.2.2 j h5).1, sh_one (show at' V j < 31 from by have h1 := hV.1; have h2 : at' V j < mvN V := hat.1; omega), or_n]
      exact ⟨_, _, ⟨by simp only [sbN]; rw [if_pos g], rfl⟩, rfl⟩
    · have g' : s.testBit j = false := by cases h : s.testBit j <;> simp_all
      rw [if_pos (show (nI s >>> (nI j &&& 31)) &&& 1 = 0 by rw [sh_bit0 hsl (by omega)]; exact g')]
      exact ⟨_, _, ⟨by simp only [sbN]; rw [if_neg g], rfl⟩, rfl⟩
  · refine Or.inr ?_
    rw [if_pos (nI_le h5 (by omega)), show j = nW V by omega, sbN_sg]
theorem Kp.s84 (c : Nat → Nat → Int32) (k : Nat) (x : Int32) : Kp c (u2 c 84 k x) := Kp.s2 c k x (by omega)
theorem TW.s11 {V : MV} (h : TW c V) {k : Nat} (x : Int32) (hk : k ≠ 4 ∧ k ≠ 5) : TW (u2 c 84 k x) V := by
  refine ⟨by rw [u2_ne _ _ (Or.inr (by omega))]; exact h.1, by rw [u2_ne _ _ (Or.inr (by omega))]; exact h.2.1, ?_⟩
  rw [u2_other _ _ _ (by omega), u2_other _ _ _ (by omega), u2_other _ _ _ (by omega), u2_other _ _ _ (by omega)]
  exact h.2.2
set_option maxHeartbeats 1000000 in
theorem partC (hA : WFA A) (hn : n ≤ 10000) (J : Jn n A y sh c z) : ∃ (R f : Nat) (v1 v2 : Nat → Nat) (y' : Dy) (sh' : Nat → Shp) (c' : Nat → Nat → Int32) (z' : Nat × Nat) (ua ub : Nat → Nat), f_X1_partBetweenTwo 84 10 (HH sh c z) = some ((if R < FARn then 1 else 0), HH sh' c' z') ∧ Jn n A y' sh' c' z' ∧ c' 84 11 = nI R ∧ c' 84 12 = nI (sgN (asV A) f) ∧ QC (asL A) (asV A) (6 * mvL (asV A) + (if asL A = 1 then mvA (asV A) else 5)) (mvH (asV A)) ua (10 * (36 * 2 ^ nW (asV A))) ∧ QC (asL A) (asV A) (6 * 5 + 5) 0 ub (10 * (36 * 2 ^ nW (asV A))) ∧ (∀ s, s < 2 ^ nW (asV A) → EVp (asL A) ua s 36 (v1 s)) ∧ (∀ s, s < 2 ^ nW (asV A) → EVp (asL A) ub s 36 (v2 s)) ∧ fb (fun _ => True) (fun s => max (v1 s) (v2 (2 ^ nW (asV A) - 1 - s))) (2 ^ nW (asV A)) R f := by
  have hV := hA.2.2.2.1
  have hw10 : nW (asV A) ≤ 10 := Nat.le_trans (cP_le _ _) hV.1
  have hp := pow_le10 hw10
  have hpp := Nat.two_pow_pos (nW (asV A))
  have hB5 : (if asL A = 1 then mvA (asV A) else 5) ≤ 5 := by have := hV.2.2.2.1; split <;> omega
  obtain ⟨c1, e1, f1, t1⟩ := takeWaiting_eq J.1 J.2.1 J.2.2.2.1.2.2.2.2.2.2.1 hV
  have J1 : Jn n A y sh c1 z := J.cc hA (Kp.of (fun a q => f1 a (by omega)))
  unfold f_X1_partBetweenTwo
  rw [HG J.1 J.2.1.a84, bnd_s, e1, bnd_s, HR (k := 9) J1.1 J1.2.1.a84 rfl, bnd_s, HI (k := 5) J1.1 J1.2.1.a84 rfl, bnd_s, t1.2.1]
  obtain ⟨y2, sh2, c2, z2, e2, J2, f2, g2, hlen, k1, k2, k3, k4⟩ := roomH _ hA hn J1 (L := 2 ^ nW (asV A)) (by omega)
  rw [e2]
  clear e2
  have hB := J1.2.2.1.1
  have t2 : TW c2 (asV A) := t1.kept (fun k _ => by rw [f2 84 (by omega)]) ⟨f2 85 (by omega), f2 86 (by omega), f2 87 (by omega), f2 88 (by omega)⟩
  rw [HR (k := 10) J2.1 J2.2.1.a84 rfl, bnd_s, HI (k := 5) J2.1 J2.2.1.a84 rfl, bnd_s, t2.2.1]
  obtain ⟨y3, sh3, c3, z3, e3, J3, f3, g3, hlen3, m1, m2, m3, m4⟩ := roomT _ hA hn J2 (L := 2 ^ nW (asV A)) (by omega)
  rw [e3]
  clear e3
  have hB2 := J2.2.2.1.1
  have t3 : TW c3 (asV A) := t2.kept (fun k _ => by rw [f3 84 (by omega)]) ⟨f3 85 (by omega), f3 86 (by omega), f3 87 (by omega), f3 88 (by omega)⟩
  have hlen2 : 2 ^ nW (asV A) ≤ y3.2.2.1.2 := by rw [m3]; exact hlen
  have hd3 := J3.2.1.dy
  have hcm3 := J3.2.2.2.1.2.2.2.2.2.2.1
  obtain ⟨y4, sh4, c4, z4, u1, e4, J4, n1, n2, t4, f4, g4, Q4, v4⟩ := fillEnds_eq hA hn J3 t3 (E := y3.2.2.1.1) (LE := y3.2.2.1.2) hd3.2.2.1 (Or.inl rfl) hlen2 hd3.2.2.2.2.2.2.2.2.2.2.2.2.2.2.2.2.1 (hour_lt hV) hV.2.2.1 hB5
  rw [HI (k := 0) J3.1 J3.2.1.m10.1 rfl, bnd_s, HI (k := 8) J3.1 J3.2.1.m10.1 rfl, bnd_s, memNow_eq J3.1 J3.2.1.m10 hcm3, bnd_s, HR (k := 9) J3.1 J3.2.1.a84 rfl, bnd_s, hcm3.1, hcm3.2.2.2.2.1, e4, bnd_s]
  have hd4 := J4.2.1.dy
  have hcm4 := J4.2.2.2.1.2.2.2.2.2.2.1
  have hEh : y4.2.2.1.1 = y3.2.2.1.1 := by rw [n2]
  have hEhl : y4.2.2.1.2 = y3.2.2.1.2 := by rw [n2]
  have hEtl : y4.2.2.2.2 = y3.2.2.2.2 := by rw [n2]
  obtain ⟨y5, sh5, c5, z5, u2', e5, J5, o1, o2, t5, f5, g5, Q5, v5⟩ := fillEnds_eq (H0 := 0) (L0 := 5) (B0 := 5) hA hn J4 t4 (E := y4.2.2.2.1) (LE := y4.2.2.2.2) hd4.2.2.2.1 (Or.inr rfl) (by omega) hd4.2.2.2.2.2.2.2.2.2.2.2.2.2.2.2.2.2 (by omega) (by omega) (by omega)
  have e5' : f_X1_fillEnds 84 (nI (asL A)) (0 : Int32) (nI (6 * 5 + 5)) y4.2.2.2.1 (HH sh4 c4 z4) = some (HH sh5 c5 z5) := e5
  rw [HI (k := 0) J4.1 J4.2.1.m10.1 rfl, bnd_s, hcm4.1, show (5 : Int32) = nI 5 from rfl, mem_eq, bnd_s, HR (k := 10) J4.1 J4.2.1.a84 rfl, bnd_s, e5', bnd_s]
  have W := J5.1
  have hs := J5.2.1
  have hd := hs.dy
  have hh1 : y5.2.2.1.1 = y4.2.2.1.1 := by rw [o2]
  have hh2 : y5.2.2.1.2 = y4.2.2.1.2 := by rw [o2]
  have hh3 : y5.2.2.2.1 = y4.2.2.2.1 := by rw [o2]
  have hh4 : y5.2.2.2.2 = y4.2.2.2.2 := by rw [o2]
  have hlh : y5.2.2.1.2 ≤ 2048 := hd.2.2.2.2.2.2.2.2.2.2.2.2.2.2.2.2.1
  have hlt : y5.2.2.2.2 ≤ 2048 := hd.2.2.2.2.2.2.2.2.2.2.2.2.2.2.2.2.2
  have ah := hd.2.2.2.2.2.2.1
  have at0 := hd.2.2.2.2.2.2.2.1
  have hEz : y4.2.2.1.1 < z4.1 := J4.1.lt (by rw [hd4.2.2.1]; exact fun q => by cases q)
  have hHere : c5 y5.2.2.1.1 = c4 y3.2.2.1.1 := by
    have q1 := hd4.2.2.2.2.2.2.1
    have q2 := hd4.2.2.2.2.2.2.2.2.2.2.2.1
    have q3 := hd4.2.2.2.2.2.2.2.2.2.2.2.2.2.1
    rw [hh1, f5 y4.2.2.1.1 hEz (by omega) (by omega) (by omega) (by omega), hEh]
  obtain ⟨v1, hv1⟩ := ch_n (Q := fun s v => c5 y5.2.2.1.1 s = nI v ∧ EVp (asL A) u1 s 36 v) (N := 2 ^ nW (asV A)) (fun s hs => by rw [hHere]; exact v4 s hs)
  obtain ⟨v2, hv2⟩ := ch_n (Q := fun s v => c5 y5.2.2.2.1 s = nI v ∧ EVp (asL A) u2' s 36 v) (N := 2 ^ nW (asV A)) (fun s hs => by rw [hh3]; exact v5 s hs)
  rw [HP (k := 11) W hs.a84 rfl, bnd_s, HP (k := 12) W hs.a84 rfl, bnd_s]
  refine wl2_fuel (fun s x h => x = nI s ∧ ∃ R f cc, h = HH sh5 cc z5 ∧ (∀ b, b ≠ 84 → cc b = c5 b) ∧ TW cc (asV A) ∧ cc 84 11 = nI R ∧ cc 84 12 = nI (sgN (asV A) f) ∧ fb (fun _ => True) (fun s => max (v1 s) (v2 (2 ^ nW (asV A) - 1 - s))) s R f) (2 ^ nW (asV A)) (by omega) (fun t => ∃ (R f : Nat) (v1 v2 : Nat → Nat) (y' : Dy) (sh' : Nat → Shp) (c' : Nat → Nat → Int32) (z' : Nat × Nat) (ua ub : Nat → Nat), t = some ((if R < FARn then 1 else 0), HH sh' c' z') ∧ Jn n A y' sh' c' z' ∧ c' 84 11 = nI R ∧ c' 84 12 = nI (sgN (asV A) f) ∧ QC (asL A) (asV A) (6 * mvL (asV A) + (if asL A = 1 then mvA (asV A) else 5)) (mvH (asV A)) ua (10 * (36 * 2 ^ nW (asV A))) ∧ QC (asL A) (asV A) (6 * 5 + 5) 0 ub (10 * (36 * 2 ^ nW (asV A))) ∧ (∀ s, s < 2 ^ nW (asV A) → EVp (asL A) ua s 36 (v1 s)) ∧ (∀ s, s < 2 ^ nW (asV A) → EVp (asL A) ub s 36 (v2 s)) ∧ fb (fun _ => True) (fun s => max (v1 s) (v2 (2 ^ nW (asV A) - 1 - s))) (2 ^ nW (asV A)) R f) ?_ _ _ ⟨rfl, FARn, 0, _, rfl, fun b hb => by rw [u2_other _ _ _ hb, u2_other _ _ _ hb], (t5.s11 _ (by omega)).s11 _ (by omega), by rw [u2_ne _ _ (Or.inr (by omega)), u2_same]; rfl, by rw [u2_same, sgN_0]; rfl, fb.start _ _⟩
  intro rec s x h hsi hx
  obtain ⟨rfl, R, f, cc, rfl, fcc, tcc, h11, h12, hfb⟩ := hx
  have hR1 : R ≤ 1000000 := hfb.1
  simp only [jn0_s]
  rw [HI (k := 5) W hs.a84 rfl, bnd_s, tcc.2.1]
  rcases Nat.lt_or_ge s (2 ^ nW (asV A)) with hlt' | hlt'
  · refine Or.inl ⟨hlt', ?_⟩
    have E1 := hv1 s hlt'
    have E2 := hv2 (2 ^ nW (asV A) - 1 - s) (by omega)
    have b1 : v1 s ≤ 1000000 := E1.2.1
    have b2 : v2 (2 ^ nW (asV A) - 1 - s) ≤ 1000000 := E2.2.1
    rw [if_neg (nI_ge hlt' (by omega)), HR (k := 9) W hs.a84 rfl, bnd_s, HN W hd.2.2.1 (by omega), bnd_s, if_neg (nI_ge (show s < y5.2.2.1.2 by omega) (by omega)), HR (k := 10) W hs.a84 rfl, bnd_s, HN W hd.2.2.2.1 (by omega), bnd_s, if_neg (nI_ge (show s < y5.2.2.2.2 by omega) (by omega)), bnd_s, HL W hd.2.2.1 (show s < y5.2.2.1.2 by omega) (by omega), bnd_s, bnd_s, bnd_s, show (1 : Int32) = nI 1 from rfl, pk_sub (by omega), pk_sub (by omega), HL W hd.2.2.2.1 (show 2 ^ nW (asV A) - 1 - s < y5.2.2.2.2 by omega) (by omega), bnd_s, nm_s, HI (k := 11) W hs.a84 rfl, bnd_s, h11, fcc _ (show y5.2.2.1.1 ≠ 84 by omega), fcc _ (show y5.2.2.2.1 ≠ 84 by omega), E1.1, E2.1, mx_n (by omega) (by omega), nI_add]
    simp only [jn1_s]
    by_cases g : R ≤ max (v1 s) (v2 (2 ^ nW (asV A) - 1 - s))
    · rw [if_pos (nI_le g (by omega))]
      exact ⟨_, _, ⟨rfl, R, f, cc, rfl, fcc, tcc, h11, h12, hfb.skip (fun _ => g)⟩, rfl⟩
    · rw [if_neg (nI_ge (by omega) (by omega)), HP (k := 11) W hs.a84 rfl, bnd_s, sackBits_eq W hs hV (tcc.s11 _ (by omega)) (by omega), bnd_s, HP (k := 12) W hs.a84 rfl, bnd_s]
      refine ⟨_, _, ⟨rfl, _, s, _, rfl, fun b hb => by rw [u2_other _ _ _ hb, u2_other _ _ _ hb]; exact fcc b hb, (tcc.s11 _ (by omega)).s11 _ (by omega), by rw [u2_ne _ _ (Or.inr (by omega)), u2_same], by rw [u2_same], hfb.take trivial (by omega)⟩, rfl⟩
  · refine Or.inr ?_
    have ei : s = 2 ^ nW (asV A) := by omega
    rw [if_pos (nI_le hlt' (by omega)), HI (k := 11) W hs.a84 rfl, bnd_s, h11]
    simp only [jn1_s]
    rw [ei] at hfb
    have J6 : Jn n A y5 sh5 cc z5 := J5.cc hA (Kp.of (fun b q => fcc b (by omega)))
    refine ⟨R, f, v1, v2, y5, sh5, cc, z5, u1, u2', ?_, J6, h11, h12, Q4, Q5, fun s hs => (hv1 s hs).2, fun s hs => (hv2 s hs).2, hfb⟩
    by_cases g : R < FARn
    · rw [if_pos g, if_neg (show ¬ (1000000 : Int32) ≤ nI R from nI_ge (b := 1000000) g (by omega))]
      exact rZ_1 _
    · rw [if_neg g, if_pos (show (1000000 : Int32) ≤ nI R from nI_le (a := 1000000) (by unfold FARn at g; omega) (by omega))]
      exact rZ_0 _
end TC
