/-! ===== the text, read: the reference ===== -/
theorem SMo.t98 {sh : Nat → Shp} (h : SMo sh) : sh 100 = sA 1 300 := h.2.1
theorem SMo.t99 {sh : Nat → Shp} (h : SMo sh) : sh 101 = sA 0 4 := h.2.2.1
theorem SMo.t100 {sh : Nat → Shp} (h : SMo sh) : sh 102 = sA 0 2 := h.2.2.2.1
theorem SMo.t101 {sh : Nat → Shp} (h : SMo sh) : sh 103 = sA 0 32 := h.2.2.2.2.1
theorem SMo.t112 {sh : Nat → Shp} (h : SMo sh) : sh 114 = sA 0 4 := h.2.2.2.2.2.2.2.2.2.2.2.2.2.2.2.1
section PM
variable {n : Nat} {A : AS} {y : Dy} {sh : Nat → Shp} {c c' : Nat → Nat → Int32} {z : Nat × Nat} {X : Nat → Int32} {T : Nat}
def vlM (X : Nat → Int32) (p : Nat) : Nat → Int32
  | 0 => 0
  | 1 => nI (dg X p)
  | _ => nI (10 * dg X p + dg X (p + 1))
theorem fg_in {p : Nat} (hp : p < T) : f_X7_in (X p).toInt64 48 57 = some (if fg X T p = true then 1 else 0) := by
  rw [in_int, show (48 : Int64).toInt = 48 from rfl, show (57 : Int64).toInt = 57 from rfl]
  by_cases g : fg X T p = true
  · have q := fg_iff.mp g
    rw [i_lt, i_lt, show (48 : Int32).toInt = 48 from rfl, show (57 : Int32).toInt = 57 from rfl] at q
    rw [if_pos g, if_pos (by omega)]
  · rw [if_neg g, if_neg]
    intro q
    apply g
    rw [fg_iff, i_lt, i_lt, show (48 : Int32).toInt = 48 from rfl, show (57 : Int32).toInt = 57 from rfl]
    omega
theorem number_eq (W : Wz sh z) (hS : SMo sh) (hT : T ≤ 300) (hX : c 100 = X) (h0 : c 99 0 = nI T) {p : Nat} (hp : p ≤ T) (h2 : c 99 2 = nI p) : ∃ x c', f_X7_number 99 (HH sh c z) = some (x, HH sh c' z) ∧ (∀ b, b ≠ 99 → c' b = c b) ∧ (∀ k, k ≠ 2 → c' 99 k = c 99 k) ∧ ((nM X T p = none ∧ x = -1) ∨ ∃ v q, nM X T p = some (v, q) ∧ x = nI v ∧ c' 99 2 = nI q) := by
  unfold f_X7_number
  rw [HG W hS.1, bnd_s]
  refine wl3_fuel (fun i x1 x2 h => x2 = nI i ∧ x1 = vlM X p i ∧ (∀ j, j < i → fg X T (p + j) = true) ∧ ∃ c', h = HH sh c' z ∧ (∀ b, b ≠ 99 → c' b = c b) ∧ (∀ k, k ≠ 2 → c' 99 k = c 99 k) ∧ c' 99 2 = nI (p + i)) 300 (by omega) (fun t => ∃ x c', t = some (x, HH sh c' z) ∧ (∀ b, b ≠ 99 → c' b = c b) ∧ (∀ k, k ≠ 2 → c' 99 k = c 99 k) ∧ ((nM X T p = none ∧ x = -1) ∨ ∃ v q, nM X T p = some (v, q) ∧ x = nI v ∧ c' 99 2 = nI q)) ?_ _ _ _ ⟨rfl, rfl, fun j hj => absurd hj (by omega), c, rfl, fun b _ => rfl, fun k _ => rfl, h2⟩
  intro rec i x1 x2 h hi hx
  obtain ⟨rfl, rfl, hfg, c1, rfl, f1, k1, p1⟩ := hx
  simp only [jn0_s, jn1_s]
  rw [HI (k := 2) W hS.1 rfl, bnd_s, HI (k := 0) W hS.1 rfl, bnd_s, p1, k1 0 (by omega), h0]
  have hi2 : p + i ≤ 700 := by omega
  have hend : ¬ fg X T (p + i) = true → ∃ x c', (bnd (f_X7_in (nI i).toInt64 1 2) fun x8 => if x8 = 0 then some ((-1 : Int32), HH sh c1 z) else some (vlM X p i, HH sh c1 z)) = some (x, HH sh c' z) ∧ (∀ b, b ≠ 99 → c' b = c b) ∧ (∀ k, k ≠ 2 → c' 99 k = c 99 k) ∧ ((nM X T p = none ∧ x = -1) ∨ ∃ v q, nM X T p = some (v, q) ∧ x = nI v ∧ c' 99 2 = nI q) := by
    intro g
    have hin : f_X7_in (nI i).toInt64 1 2 = some (if 1 ≤ i ∧ i ≤ 2 then 1 else 0) := by
      rw [in_int, nI_T _ (by omega), show (1 : Int64).toInt = 1 from rfl, show (2 : Int64).toInt = 2 from rfl]
      by_cases q : 1 ≤ i ∧ i ≤ 2
      · rw [if_pos q, if_pos (by omega)]
      · rw [if_neg q, if_neg (by omega)]
    rw [hin, bnd_s]
    unfold nM
    rcases (show i = 0 ∨ i = 1 ∨ i = 2 ∨ 3 ≤ i by omega) with rfl | rfl | rfl | h3
    · rw [Nat.add_zero] at g
      rw [if_neg (show ¬ (1 ≤ 0 ∧ 0 ≤ 2) by omega), if_pos rfl, if_neg g]
      exact ⟨_, c1, rfl, f1, k1, Or.inl ⟨rfl, rfl⟩⟩
    · have g0 := hfg 0 (by omega)
      rw [Nat.add_zero] at g0
      rw [if_pos (show 1 ≤ 1 ∧ 1 ≤ 2 by omega), if_neg i10, if_pos g0, if_neg g]
      exact ⟨_, c1, rfl, f1, k1, Or.inr ⟨_, _, rfl, rfl, p1⟩⟩
    · have g0 := hfg 0 (by omega)
      rw [Nat.add_zero] at g0
      rw [if_pos (show 1 ≤ 2 ∧ 2 ≤ 2 by omega), if_neg i10, if_pos g0, if_pos (hfg 1 (by omega)), if_neg g]
      exact ⟨_, c1, rfl, f1, k1, Or.inr ⟨_, _, rfl, rfl, p1⟩⟩
    · have g0 := hfg 0 (by omega)
      rw [Nat.add_zero] at g0
      rw [if_neg (show ¬ (1 ≤ i ∧ i ≤ 2) by omega), if_pos rfl, if_pos g0, if_pos (hfg 1 (by omega)), if_pos (hfg 2 (by omega))]
      exact ⟨_, c1, rfl, f1, k1, Or.inl ⟨rfl, rfl⟩⟩
  rcases Nat.lt_or_ge (p + i) T with hlt | hlt
  · rw [if_neg (nI_ge hlt (by omega)), HR (k := 1) W hS.1 rfl, bnd_s, bnd_s, HL W hS.t98 (show p + i < 300 by omega) (by omega), bnd_s, f1 100 (by omega), hX, fg_in hlt, bnd_s]
    by_cases g : fg X T (p + i) = true
    · refine Or.inl ⟨by omega, ?_⟩
      have hd := dg_at g
      have L : ldI 1 (HH sh c1 z) 100 (nI (p + i)) = some (X (p + i)) := by rw [HL W hS.t98 (show p + i < 300 by omega) (by omega), f1 100 (by omega), hX]
      have P : pF (HH sh c1 z) 99 7 2 (.int (nI (p + i) + 1)) = some (HH sh (u2 c1 99 2 (nI (p + i + 1))) z) := by rw [HP (k := 2) W hS.1 rfl, nI_1]
      rw [if_pos g, if_neg i10]
      simp only [bnd_s, L, P]
      rw [show nI i + 1 = nI (i + 1) from nI_1 i]
      have hfg' : ∀ j, j < i + 1 → fg X T (p + j) = true := by
        intro j hj
        rcases Nat.lt_or_ge j i with q | q
        · exact hfg j q
        · rw [show j = i by omega]; exact g
      have fr1 : ∀ b, b ≠ 99 → u2 c1 99 2 (nI (p + i + 1)) b = c b := fun b hb => by rw [u2_other _ _ _ hb]; exact f1 b hb
      have fr2 : ∀ k, k ≠ 2 → u2 c1 99 2 (nI (p + i + 1)) 99 k = c 99 k := fun k hk => by rw [u2_ne _ _ (Or.inr hk)]; exact k1 k hk
      rcases Nat.lt_or_ge i 2 with q2 | q2
      · rw [if_neg (show ¬ (2 : Int32) ≤ nI i from nI_ge (b := 2) q2 (by omega)), hd.1]
        refine ⟨_, _, _, ⟨rfl, ?_, hfg', _, rfl, fr1, fr2, u2_same _ _ _ _⟩, rfl⟩
        rcases (show i = 0 ∨ i = 1 by omega) with rfl | rfl
        · show ((10 : Int32) * nI 0 + nI (48 + dg X (p + 0))) - 48 = nI (dg X p)
          rw [show (10 : Int32) = nI 10 from rfl, pk_mul, nI_add, show (48 : Int32) = nI 48 from rfl, pk_sub (by omega), Nat.add_zero]
          congr 1
          omega
        · show ((10 : Int32) * nI (dg X p) + nI (48 + dg X (p + 1))) - 48 = nI (10 * dg X p + dg X (p + 1))
          rw [show (10 : Int32) = nI 10 from rfl, pk_mul, nI_add, show (48 : Int32) = nI 48 from rfl, pk_sub (by omega)]
          congr 1
          omega
      · rw [if_pos (show (2 : Int32) ≤ nI i from nI_le (a := 2) q2 (by omega))]
        refine ⟨_, _, _, ⟨rfl, ?_, hfg', _, rfl, fr1, fr2, u2_same _ _ _ _⟩, rfl⟩
        obtain ⟨m, rfl⟩ : ∃ m, i = m + 2 := ⟨i - 2, by omega⟩
        rfl
    · refine Or.inr ?_
      rw [if_neg g, if_pos rfl]
      exact hend g
  · refine Or.inr ?_
    rw [if_pos (nI_le hlt (by omega))]
    exact hend (fun q => by have := (fg_iff.mp q).1; omega)
def FrI (c c' : Nat → Nat → Int32) : Prop := (∀ b, b ≠ 99 → b ≠ 114 → c' b = c b) ∧ ∀ k, k ≠ 2 → c' 99 k = c 99 k
theorem FrI.trans {c c' c'' : Nat → Nat → Int32} (h : FrI c c') (g : FrI c' c'') : FrI c c'' := ⟨fun b h1 h2 => (g.1 b h1 h2).trans (h.1 b h1 h2), fun k hk => (g.2 k hk).trans (h.2 k hk)⟩
theorem FrI.at2 (c : Nat → Nat → Int32) (x : Int32) : FrI c (u2 c 99 2 x) := ⟨fun b h1 _ => u2_other _ _ _ h1, fun k hk => u2_ne _ _ (Or.inr hk)⟩
theorem FrI.got (c : Nat → Nat → Int32) (k : Nat) (x : Int32) : FrI c (u2 c 114 k x) := ⟨fun b _ h2 => u2_other _ _ _ h2, fun k hk => by rw [u2_other _ _ _ (by omega)]⟩
/-- number k read behind k numbers -/
theorem numStep (W : Wz sh z) (hS : SMo sh) (hT : T ≤ 300) (hX : c 100 = X) (h0 : c 99 0 = nI T) {w p0 k q : Nat} {g : Nat → Nat} (hp0 : p0 ≤ T) (hk : k < w) (hw : w ≤ 4) (hr : rdK X T w p0 k = some (g, q)) (h2 : c 99 2 = nI q) (hg : ∀ i, i < k → c 114 i = nI (g i)) : ∃ c2 is, (∀ rec : Int32 → Int32 → Hp → Option (Int32 × Hp), (bnd2 (f_X7_number 99 (HH sh c z)) fun x56 h57 => bnd (stI 0 h57 114 (nI k) x56) fun h49 => bnd (gR h49 99 7 20) fun a50 => bnd (ldI 0 h49 a50 (nI k)) fun x51 => if x51 < 0 then rec 0 (nI (k + 1)) h49 else rec 1 (nI (k + 1)) h49) = rec is (nI (k + 1)) (HH sh c2 z)) ∧ FrI c c2 ∧ ((is = 0 ∧ rdK X T w p0 w = none) ∨ (is = 1 ∧ ∃ v q', nM X T q = some (v, q') ∧ c2 99 2 = nI q' ∧ (∀ i, i < k → c2 114 i = nI (g i)) ∧ c2 114 k = nI v)) := by
  have hq := rdK_ok hp0 k g q hr
  obtain ⟨x, c1, e1, f1, k1, hcase⟩ := number_eq (X := X) W hS hT hX h0 hq.2.1 h2
  have fr : FrI c (u2 c1 114 k x) := (FrI.trans ⟨fun b h1 _ => f1 b h1, k1⟩ (FrI.got c1 k x))
  refine ⟨u2 c1 114 k x, if x < 0 then 0 else 1, fun rec => ?_, fr, ?_⟩
  · rw [e1, bnd2_s, HS W hS.t112 (show k < 4 by omega) (by omega), bnd_s, nrw0, HR (k := 20) W hS.1 rfl, bnd_s, HL W hS.t112 (show k < 4 by omega) (by omega), bnd_s, u2_same]
    by_cases h : x < 0
    · rw [if_pos h, if_pos h]
    · rw [if_neg h, if_neg h]
  · rcases hcase with ⟨n1, rfl⟩ | ⟨v, q', n1, rfl, p2⟩
    · refine Or.inl ⟨if_pos (by decide), rdK_to (rdK_stop hr ?_) (show k + 1 ≤ w by omega)⟩
      rw [nS_M X T q (chK_or w k), n1, bnd_n]
    · have hv := nC_ok (nM_C n1)
      refine Or.inr ⟨if_neg (nI_pos (by omega)), v, q', n1, by rw [u2_other _ _ _ (by omega)]; exact p2, fun i hi => ?_, u2_same _ _ _ _⟩
      rw [u2_ne _ _ (Or.inr (by omega)), f1 114 (by omega)]
      exact hg i hi
def itB (w6 : Int32) (G : Hp → Option (Int32 × Hp)) (r13 : Int32 → Int32 → Hp → Option (Int32 × Hp)) (i10 i11 : Int32) (h12 : Hp) : Option (Int32 × Hp) :=
  jn0 (jn1 (fun (w15 : Int32) => bnd (gI h12 99 7 2) fun x17 => bnd (pF h12 99 7 2 (.int (x17 + (1 : Int32)))) fun h18 => jn2 (fun (w19 : Int32) (h20 : Hp) => rZ w19 h20) fun k21 => jn1 (fun (h22 : Hp) => k21 (0 : Int32) h22) fun k23 => if w15 = 0 then (k23 h18) else (bnd2 (G h18) fun x25 h26 => if x25 = 0 then (k23 h26) else (k21 (1 : Int32) h26))) fun k16 => jn0 (k16 (0 : Int32)) fun k28 => if i10 = 0 then k28 else (bnd (gI h12 99 7 2) fun x30 => bnd (gI h12 99 7 0) fun x31 => if x31 ≤ x30 then k28 else (bnd (gR h12 99 7 1) fun a33 => bnd (gI h12 99 7 2) fun x34 => bnd (ldI 1 h12 a33 x34) fun x35 => if x35 = (59 : Int32) then (k16 (1 : Int32)) else k28))) fun k14 => if w6 ≤ i11 then k14 else (if i10 = 0 then k14 else (jn1 (fun (w39 : Int32) => bnd (gI h12 99 7 2) fun x41 => jn1 (fun (w42 : Int32) => bnd (pF h12 99 7 2 (.int (x41 + w42))) fun h44 => bnd (gR h44 99 7 20) fun a45 => jn2 (fun (w46 : Int32) (h47 : Hp) => bnd (stI 0 h47 a45 i11 w46) fun h49 => bnd (gR h49 99 7 20) fun a50 => bnd (ldI 0 h49 a50 i11) fun x51 => jn1 (fun (w52 : Int32) => r13 w52 (i11 + (1 : Int32)) h49) fun k53 => if x51 < 0 then (k53 (0 : Int32)) else (k53 (1 : Int32))) fun k48 => if w39 = 0 then (k48 (-1 : Int32) h44) else (bnd2 (f_X7_number 99 h44) fun x56 h57 => k48 x56 h57)) fun k43 => if i11 = 0 then (k43 (0 : Int32)) else (k43 (1 : Int32))) fun k40 => jn0 (k40 (1 : Int32)) fun k59 => if i11 = 0 then k59 else (bnd (gI h12 99 7 2) fun x61 => bnd (gI h12 99 7 0) fun x62 => jn0 (k40 (0 : Int32)) fun k63 => if x62 ≤ x61 then k63 else (bnd (gR h12 99 7 1) fun a65 => bnd (gI h12 99 7 2) fun x66 => bnd (ldI 1 h12 a65 x66) fun x67 => if x67 = (44 : Int32) then k59 else k63))))
end PM
