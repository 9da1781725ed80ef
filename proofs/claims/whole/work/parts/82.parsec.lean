/-! ===== the text, read: the class ===== -/
section PC
variable {n : Nat} {A : AS} {y : Dy} {sh : Nat → Shp} {c c' : Nat → Nat → Int32} {z : Nat × Nat} {X : Nat → Int32} {T : Nat}
theorem SC.b1 (h : SC sh y) : sh 1 = sA 1 300 := h.2.1
theorem SC.b2 (h : SC sh y) : sh 2 = sO 4 [some 3, none] := h.2.2.1
theorem SC.b3 (h : SC sh y) : sh 3 = sA 0 4 := h.2.2.2.1
theorem SC.m4 (h : SC sh y) : isM sh 4 := h.2.2.2.2.1 4 (Or.inl rfl)
theorem isFigure_eq (W : Wz sh z) (hs : SC sh y) (hT : T ≤ 300) (hX : c 1 = X) {p : Nat} (hp : p ≤ 1000) (h2 : c 2 1 = nI p) : f_X4_isFigure 2 1 (nI T) (HH sh c z) = some (if fg X T p = true then 1 else 0) := by
  unfold f_X4_isFigure
  simp only [HG W hs.b2, bnd_s, jn1_s, jn0_s, HI (k := 1) W hs.b2 rfl, h2, HN W hs.b1 (show 1 < 5 by omega), rZp_0, rZp_1]
  by_cases h1 : p < T
  · rw [if_neg (nI_ge h1 (by omega)), if_neg (nI_ge (show p < 300 by omega) (by omega)), HL W hs.b1 (show p < 300 by omega) (by omega), bnd_s, bnd_s, hX]
    by_cases h3 : X p < 48
    · rw [if_pos h3, if_neg (fun q => (fg_iff.mp q).2.1 h3)]
    · rw [if_neg h3]
      by_cases h4 : 57 < X p
      · rw [if_pos h4, if_neg (fun q => (fg_iff.mp q).2.2 h4)]
      · rw [if_neg h4, if_pos (fg_iff.mpr ⟨h1, h3, h4⟩)]
  · rw [if_pos (nI_le (by omega) (by omega)), if_neg (fun q => h1 (fg_iff.mp q).1)]
theorem isSign_eq (W : Wz sh z) (hs : SC sh y) (hT : T ≤ 300) (hX : c 1 = X) {p : Nat} (hp : p ≤ 1000) (h2 : c 2 1 = nI p) (ch : Int32) : f_X4_isSign 2 1 (nI T) ch (HH sh c z) = some (if sgn X T p ch then 1 else 0) := by
  unfold f_X4_isSign
  simp only [HG W hs.b2, bnd_s, jn1_s, jn0_s, HI (k := 1) W hs.b2 rfl, h2, HN W hs.b1 (show 1 < 5 by omega), rZp_0, rZp_1]
  by_cases h1 : p < T
  · rw [if_neg (nI_ge h1 (by omega)), if_neg (nI_ge (show p < 300 by omega) (by omega)), HL W hs.b1 (show p < 300 by omega) (by omega), bnd_s, hX]
    by_cases h3 : X p = ch
    · rw [if_pos h3, if_pos ⟨h1, h3⟩]
    · rw [if_neg h3, if_neg (fun q => h3 q.2)]
  · rw [if_pos (nI_le (by omega) (by omega)), if_neg (fun q => h1 q.1)]
/-- the value behind i figures -/
def vlC (X : Nat → Int32) (p : Nat) : Nat → Int32
  | 0 => -1
  | 1 => nI (dg X p)
  | _ => nI (10 * dg X p + dg X (p + 1))
theorem readNumber_eq (W : Wz sh z) (hs : SC sh y) (hT : T ≤ 300) (hX : c 1 = X) {p : Nat} (hp : p ≤ T) (h2 : c 2 1 = nI p) : ∃ x c', f_X4_readNumber 2 1 (nI T) (HH sh c z) = some (x, HH sh c' z) ∧ (∀ b, b ≠ 2 → c' b = c b) ∧ ((nC X T p = none ∧ x = -1) ∨ ∃ v q, nC X T p = some (v, q) ∧ x = nI v ∧ c' 2 1 = nI q) := by
  unfold f_X4_readNumber
  rw [HG W hs.b2, bnd_s]
  refine wl3_fuel (fun i x1 x2 h => x2 = nI i ∧ x1 = vlC X p i ∧ (∀ j, j < i → fg X T (p + j) = true) ∧ ∃ c', h = HH sh c' z ∧ (∀ b, b ≠ 2 → c' b = c b) ∧ c' 2 1 = nI (p + i)) 2 (by omega) (fun t => ∃ x c', t = some (x, HH sh c' z) ∧ (∀ b, b ≠ 2 → c' b = c b) ∧ ((nC X T p = none ∧ x = -1) ∨ ∃ v q, nC X T p = some (v, q) ∧ x = nI v ∧ c' 2 1 = nI q)) ?_ _ _ _ ⟨rfl, rfl, fun j hj => absurd hj (by omega), c, rfl, fun b _ => rfl, h2⟩
  intro rec i x1 x2 h hi hx
  obtain ⟨rfl, rfl, hfg, c1, rfl, f1, p1⟩ := hx
  simp only [jn0_s]
  rcases Nat.lt_or_ge i 2 with h5 | h5
  · rw [if_neg (show ¬ (2 : Int32) ≤ nI i from nI_ge (b := 2) h5 (by omega)), isFigure_eq (X := X) W hs hT (by rw [f1 1 (by omega)]; exact hX) (show p + i ≤ 1000 by omega) p1, bnd_s]
    by_cases g : fg X T (p + i) = true
    · refine Or.inl ⟨h5, ?_⟩
      have hd := dg_at g
      have ht := (fg_iff.mp g).1
      rw [if_pos g, if_neg i10, HI (k := 1) W hs.b2 rfl, bnd_s, p1, HL W hs.b1 (show p + i < 300 by omega) (by omega), bnd_s, nm_s, bnd_s, HP (k := 1) W hs.b2 rfl, bnd_s, f1 1 (by omega), hX, hd.1, nI_1, nI_1, show nI (48 + dg X (p + i)) - (48 : Int32) = nI (dg X (p + i)) from by rw [show (48 : Int32) = nI 48 from rfl, pk_sub (by omega), show 48 + dg X (p + i) - 48 = dg X (p + i) by omega]]
      refine ⟨_, _, _, ⟨rfl, ?_, ?_, _, rfl, fun b hb => by rw [u2_other _ _ _ hb]; exact f1 b hb, by rw [u2_same]; rfl⟩, rfl⟩
      · rcases (show i = 0 ∨ i = 1 by omega) with rfl | rfl
        · show mx (-1 : Int32) 0 * 10 + nI (dg X (p + 0)) = nI (dg X p)
          rw [show mx (-1 : Int32) 0 * 10 = nI 0 by decide, nI_add, Nat.add_zero, Nat.zero_add]
        · have hd0 := dg_at (hfg 0 (by omega))
          rw [Nat.add_zero] at hd0
          show mx (nI (dg X p)) 0 * 10 + nI (dg X (p + 1)) = nI (10 * dg X p + dg X (p + 1))
          rw [show (0 : Int32) = nI 0 from rfl, mx_n (by omega) (by omega), Nat.max_eq_left (by omega), show (10 : Int32) = nI 10 from rfl, pk_mul, nI_add, Nat.mul_comm]
      · intro j hj
        rcases Nat.lt_or_ge j i with q | q
        · exact hfg j q
        · rw [show j = i by omega]; exact g
    · refine Or.inr ?_
      rw [if_neg g, if_pos rfl]
      refine ⟨_, c1, rfl, f1, ?_⟩
      unfold nC
      rcases (show i = 0 ∨ i = 1 by omega) with rfl | rfl
      · rw [Nat.add_zero] at g
        rw [if_neg g]
        exact Or.inl ⟨rfl, rfl⟩
      · have g0 := hfg 0 (by omega)
        rw [Nat.add_zero] at g0
        rw [if_pos g0, if_neg g]
        exact Or.inr ⟨_, _, rfl, rfl, p1⟩
  · refine Or.inr ?_
    have ei : i = 2 := by omega
    subst ei
    rw [if_pos (show (2 : Int32) ≤ nI 2 by decide)]
    refine ⟨_, c1, rfl, f1, Or.inr ⟨_, _, ?_, rfl, p1⟩⟩
    unfold nC
    have g0 := hfg 0 (by omega)
    rw [Nat.add_zero] at g0
    rw [if_pos g0, if_pos (hfg 1 (by omega))]
theorem readNumbers_eq (W : Wz sh z) (hs : SC sh y) (hT : T ≤ 300) (hX : c 1 = X) {p w : Nat} (hp : p ≤ T) (hw : w ≤ 4) (h2 : c 2 1 = nI p) : ∃ x c', f_X4_readNumbers 2 1 (nI T) (nI w) (HH sh c z) = some (x, HH sh c' z) ∧ (∀ b, b ≠ 2 → b ≠ 3 → c' b = c b) ∧ ((rdK X T w p w = none ∧ x = 0) ∨ ∃ g q, rdK X T w p w = some (g, q) ∧ x = 1 ∧ c' 2 1 = nI q ∧ ∀ j, j < w → c' 3 j = nI (g j)) := by
  unfold f_X4_readNumbers
  rw [HG W hs.b2, bnd_s]
  refine wl2_fuel (fun k x h => x = nI k ∧ ∃ g q c', h = HH sh c' z ∧ (∀ b, b ≠ 2 → b ≠ 3 → c' b = c b) ∧ rdK X T w p k = some (g, q) ∧ c' 2 1 = nI q ∧ ∀ j, j < k → c' 3 j = nI (g j)) w (by omega) (fun t => ∃ x c', t = some (x, HH sh c' z) ∧ (∀ b, b ≠ 2 → b ≠ 3 → c' b = c b) ∧ ((rdK X T w p w = none ∧ x = 0) ∨ ∃ g q, rdK X T w p w = some (g, q) ∧ x = 1 ∧ c' 2 1 = nI q ∧ ∀ j, j < w → c' 3 j = nI (g j))) ?_ _ _ ⟨rfl, _, p, c, rfl, fun b _ _ => rfl, rfl, h2, fun j hj => absurd hj (by omega)⟩
  intro rec k x h hk hx
  obtain ⟨rfl, g, q, c1, rfl, f1, hr, p1, r1⟩ := hx
  have hq := rdK_ok hp k g q hr
  simp only [jn0_s]
  rcases Nat.lt_or_ge k w with h5 | h5
  · obtain ⟨x, c2, e2, f2, hcase⟩ := readNumber_eq (X := X) (c := c1) W hs hT (by rw [f1 1 (by omega) (by omega)]; exact hX) hq.2.1 p1
    rw [if_neg (nI_ge h5 (by omega)), if_neg (show ¬ (4 : Int32) ≤ nI k from nI_ge (b := 4) (by omega) (by omega)), HR (k := 0) W hs.b2 rfl, bnd_s, e2, bnd2_s, HS W hs.b3 (show k < 4 by omega) (by omega), bnd_s, nrw0]
    have ech : ∀ (P : Int32 → Option (Int32 × Hp)), (if nI w ≤ nI k + 1 then P 59 else P 44) = P (chK w k) := by
      intro P
      rw [nI_1]
      by_cases g : k + 1 < w
      · rw [if_neg (nI_ge g (by omega))]
        show P 44 = P (if k + 1 < w then 44 else 59)
        rw [if_pos g]
      · rw [if_pos (nI_le (by omega) (by omega))]
        show P 59 = P (if k + 1 < w then 44 else 59)
        rw [if_neg g]
    simp only [jn1_s]
    rw [ech (fun ch => bnd (gR (HH sh (u2 c2 3 k x) z) 2 4 0) fun a13 => bnd (ldI 0 (HH sh (u2 c2 3 k x) z) a13 (nI k)) fun x14 => if x14 < 0 then rZ 0 (HH sh (u2 c2 3 k x) z) else bnd (f_X4_isSign 2 1 (nI T) ch (HH sh (u2 c2 3 k x) z)) fun x17 => if x17 = 0 then rZ 0 (HH sh (u2 c2 3 k x) z) else bnd (gI (HH sh (u2 c2 3 k x) z) 2 4 1) fun x19 => bnd (pF (HH sh (u2 c2 3 k x) z) 2 4 1 (.int (x19 + 1))) fun h20 => rec (nI k + 1) h20), HR (k := 0) W hs.b2 rfl, bnd_s, HL W hs.b3 (show k < 4 by omega) (by omega), bnd_s, u2_same]
    rcases hcase with ⟨n1, rfl⟩ | ⟨v, q', n1, rfl, p2⟩
    · refine Or.inr ?_
      rw [if_pos (by decide)]
      refine ⟨_, _, rZ_0 _, fun b h3 h4 => by rw [u2_other _ _ _ h4, f2 b h3, f1 b h3 h4], Or.inl ⟨?_, rfl⟩⟩
      refine rdK_to (rdK_stop hr ?_) (show k + 1 ≤ w by omega)
      unfold nS
      rw [n1, bnd_n]
    · have hv := nC_ok n1
      rw [if_neg (nI_pos (by omega)), isSign_eq (X := X) W hs hT (by rw [u2_other _ _ _ (by omega), f2 1 (by omega), f1 1 (by omega) (by omega)]; exact hX) (show q' ≤ 1000 by omega) (by rw [u2_other _ _ _ (by omega)]; exact p2), bnd_s]
      by_cases gs : sgn X T q' (chK w k)
      · refine Or.inl ⟨h5, ?_⟩
        have e3 : nS X T q (chK w k) = some (v, q' + 1) := by
          unfold nS
          rw [n1, bnd_s, if_pos gs]
        rw [if_pos gs, if_neg i10, HI (k := 1) W hs.b2 rfl, bnd_s, HP (k := 1) W hs.b2 rfl, bnd_s, u2_other _ _ _ (show 2 ≠ 3 by omega), p2, nI_1, nI_1]
        refine ⟨_, _, ⟨rfl, _, _, _, rfl, fun b h3 h4 => by rw [u2_other _ _ _ h3, u2_other _ _ _ h4, f2 b h3, f1 b h3 h4], rdK_go hr e3, by rw [u2_same], fun j hj => ?_⟩, rfl⟩
        rw [u2_other _ _ _ (show 3 ≠ 2 by omega)]
        by_cases ejk : j = k
        · rw [ejk, u2_same, if_pos rfl]
        · rw [u2_ne _ _ (Or.inr ejk), f2 3 (by omega), if_neg ejk]
          exact r1 j (by omega)
      · refine Or.inr ?_
        rw [if_neg gs, if_pos rfl]
        refine ⟨_, _, rZ_0 _, fun b h3 h4 => by rw [u2_other _ _ _ h4, f2 b h3, f1 b h3 h4], Or.inl ⟨?_, rfl⟩⟩
        refine rdK_to (rdK_stop hr ?_) (show k + 1 ≤ w by omega)
        unfold nS
        rw [n1, bnd_s, if_neg gs]
  · refine Or.inr ?_
    have ek : k = w := by omega
    subst ek
    rw [if_pos (nI_le h5 (by omega))]
    exact ⟨_, c1, rZ_1 _, f1, Or.inr ⟨g, q, hr, rfl, p1, r1⟩⟩
end PC
