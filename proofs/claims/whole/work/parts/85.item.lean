/-! ===== the text, read: the reference's items ===== -/
section IT
variable {n : Nat} {A : AS} {y : Dy} {sh : Nat → Shp} {c c' : Nat → Nat → Int32} {z : Nat × Nat} {X : Nat → Int32} {T : Nat}
set_option maxHeartbeats 1000000 in
theorem itemLoop (W : Wz sh z) (hS : SMo sh) (hT : T ≤ 300) (hX : c 100 = X) (h0 : c 99 0 = nI T) {w p0 : Nat} (hp0 : p0 ≤ T) (h2 : c 99 2 = nI p0) (hw1 : 1 ≤ w) (hw : w ≤ 4) (G : Hp → Option (Int32 × Hp)) : ∃ c', FrI c c' ∧ ((rdK X T w p0 w = none ∧ wl3 (itB (nI w) G) fuel 1 0 (HH sh c z) = some (0, HH sh c' z)) ∨ ∃ g q, rdK X T w p0 w = some (g, q) ∧ c' 99 2 = nI q ∧ (∀ j, j < w → c' 114 j = nI (g j)) ∧ wl3 (itB (nI w) G) fuel 1 0 (HH sh c z) = (bnd2 (G (HH sh c' z)) fun x25 h26 => if x25 = 0 then rZ 0 h26 else rZ 1 h26)) := by
  refine wl3_fuel (body := itB (nI w) G) (fun k x1 x2 h => x2 = nI k ∧ ∃ c', h = HH sh c' z ∧ FrI c c' ∧ ((x1 = 0 ∧ rdK X T w p0 w = none) ∨ (x1 = 1 ∧ k = 0 ∧ c' 99 2 = nI p0) ∨ (x1 = 1 ∧ ∃ j g q v q', k = j + 1 ∧ rdK X T w p0 j = some (g, q) ∧ nM X T q = some (v, q') ∧ c' 99 2 = nI q' ∧ (∀ i, i < j → c' 114 i = nI (g i)) ∧ c' 114 j = nI v))) w (by omega) (fun t => ∃ c', FrI c c' ∧ ((rdK X T w p0 w = none ∧ t = some (0, HH sh c' z)) ∨ ∃ g q, rdK X T w p0 w = some (g, q) ∧ c' 99 2 = nI q ∧ (∀ j, j < w → c' 114 j = nI (g j)) ∧ t = (bnd2 (G (HH sh c' z)) fun x25 h26 => if x25 = 0 then rZ 0 h26 else rZ 1 h26))) ?_ _ _ _ ⟨rfl, c, rfl, ⟨fun b _ _ => rfl, fun k _ => rfl⟩, Or.inr (Or.inl ⟨rfl, rfl, h2⟩)⟩
  intro rec k x1 x2 h hk hx
  obtain ⟨rfl, c1, rfl, fr1, hcase⟩ := hx
  unfold itB
  simp only [jn0_s, jn1_s, jn2_s]
  have hX1 : c1 100 = X := by rw [fr1.1 100 (by omega) (by omega)]; exact hX
  have h01 : c1 99 0 = nI T := by rw [fr1.2 0 (by omega)]; exact h0
  have P : ∀ x, pF (HH sh c1 z) 99 7 2 (.int x) = some (HH sh (u2 c1 99 2 x) z) := fun x => HP (k := 2) W hS.1 rfl
  rcases hcase with ⟨rfl, hnone⟩ | ⟨rfl, rfl, p1⟩ | ⟨rfl, j, g, q, v, q', rfl, hr, hn, p1, r1, r2⟩
  · -- it is over
    refine Or.inr ⟨u2 c1 99 2 (c1 99 2 + 1), fr1.trans (FrI.at2 _ _), Or.inl ⟨hnone, ?_⟩⟩
    simp only [HI (k := 2) W hS.1 rfl, bnd_s, P, if_true]
    by_cases g : nI w ≤ nI k
    · rw [if_pos g]; exact rZ_0 _
    · rw [if_neg g]; exact rZ_0 _
  · -- the first number
    refine Or.inl ⟨by omega, ?_⟩
    obtain ⟨c2, is, e2, fr2, hc2⟩ := numStep (c := u2 c1 99 2 (nI p0)) (X := X) W hS hT (by rw [u2_other _ _ _ (by omega)]; exact hX1) (by rw [u2_ne _ _ (Or.inr (by omega))]; exact h01) (w := w) (p0 := p0) (k := 0) (q := p0) (g := fun _ => 0) hp0 (by omega) hw rfl (u2_same _ _ _ _) (fun i hi => absurd hi (by omega))
    have e2' := e2 rec
    rw [if_neg (nI_ge (show 0 < w by omega) (by omega)), if_neg i10]
    simp only [show nI 0 = 0 from rfl, if_true, HI (k := 2) W hS.1 rfl, bnd_s, p1]
    rw [show nI p0 + 0 = nI p0 from nI_add p0 0, P, bnd_s, HR (k := 20) W hS.1 rfl, bnd_s]
    simp only [if_neg i10]
    refine ⟨_, _, _, ⟨rfl, c2, rfl, (fr1.trans (FrI.at2 _ _)).trans fr2, ?_⟩, e2'⟩
    rcases hc2 with ⟨q1, q2⟩ | ⟨q1, v, q', q2, q3, q4, q5⟩
    · exact Or.inl ⟨q1, q2⟩
    · exact Or.inr (Or.inr ⟨q1, 0, fun _ => 0, p0, v, q', rfl, rfl, q2, q3, q4, q5⟩)
  · have hq := rdK_ok hp0 j g q hr
    have hv := nC_ok (nM_C hn)
    have L : q' < T → ldI 1 (HH sh c1 z) 100 (nI q') = some (X q') := fun h => by rw [HL W hS.t98 (show q' < 300 by omega) (by omega), hX1]
    have eS : nS X T q (chK w j) = if sgn X T q' (chK w j) then some (v, q' + 1) else none := by
      rw [nS_M X T q (chK_or w j), hn, bnd_s]
    rcases Nat.lt_or_ge (j + 1) w with hlt | hlt
    · -- a comma, and a number more
      refine Or.inl ⟨hlt, ?_⟩
      have ech : chK w j = 44 := if_pos hlt
      have hk0 : ¬ nI (j + 1) = 0 := by rw [show (0 : Int32) = nI 0 from rfl, nI_eq (by omega) (by omega)]; omega
      rw [if_neg (nI_ge hlt (by omega)), if_neg i10]
      simp only [HI (k := 2) W hS.1 rfl, HI (k := 0) W hS.1 rfl, HR (k := 1) W hS.1 rfl, bnd_s, p1, h01, if_neg hk0]
      rw [show nI q' + 1 = nI (q' + 1) from nI_1 q', show nI (j + 1) + 1 = nI (j + 1 + 1) from nI_1 _, P, bnd_s, HR (k := 20) W hS.1 rfl, bnd_s]
      by_cases gs : sgn X T q' 44
      · rw [ech, if_pos gs] at eS
        have hr' := rdK_go hr (by rw [ech]; exact eS)
        obtain ⟨c2, is, e2, fr2, hc2⟩ := numStep (c := u2 c1 99 2 (nI (q' + 1))) (X := X) W hS hT (by rw [u2_other _ _ _ (by omega)]; exact hX1) (by rw [u2_ne _ _ (Or.inr (by omega))]; exact h01) (w := w) (p0 := p0) (k := j + 1) (q := q' + 1) hp0 hlt hw hr' (u2_same _ _ _ _) (fun i hi => by
          rw [u2_other _ _ _ (by omega)]
          by_cases e : i = j
          · rw [e, if_pos rfl]; exact r2
          · rw [if_neg e]; exact r1 i (by omega))
        have e2' := e2 rec
        rw [if_neg (nI_ge gs.1 (by omega)), L gs.1, bnd_s, if_pos gs.2, bnd_s, HR (k := 20) W hS.1 rfl, bnd_s, if_neg i10]
        refine ⟨_, _, _, ⟨rfl, c2, rfl, (fr1.trans (FrI.at2 _ _)).trans fr2, ?_⟩, e2'⟩
        rcases hc2 with ⟨q1, q2⟩ | ⟨q1, v2, q2', q2, q3, q4, q5⟩
        · exact Or.inl ⟨q1, q2⟩
        · exact Or.inr (Or.inr ⟨q1, j + 1, _, _, v2, q2', rfl, hr', q2, q3, q4, q5⟩)
      · rw [ech, if_neg gs] at eS
        have hno : rdK X T w p0 w = none := rdK_to (rdK_stop hr (by rw [ech]; exact eS)) (show j + 1 ≤ w by omega)
        have tail : ∀ (Z : Option (Int32 × Hp)), Z = (if (0 : Int32) = 0 then bnd (stI 0 (HH sh (u2 c1 99 2 (nI (q' + 1))) z) 114 (nI (j + 1)) (-1)) fun h49 => bnd (gR h49 99 7 20) fun a50 => bnd (ldI 0 h49 a50 (nI (j + 1))) fun x51 => if x51 < 0 then rec 0 (nI (j + 1 + 1)) h49 else rec 1 (nI (j + 1 + 1)) h49 else none) → ∃ y1 y2 y3, (y2 = nI (j + 1 + 1) ∧ ∃ c', y3 = HH sh c' z ∧ FrI c c' ∧ ((y1 = 0 ∧ rdK X T w p0 w = none) ∨ (y1 = 1 ∧ j + 1 + 1 = 0 ∧ c' 99 2 = nI p0) ∨ (y1 = 1 ∧ ∃ j' g q v q', j + 1 + 1 = j' + 1 ∧ rdK X T w p0 j' = some (g, q) ∧ nM X T q = some (v, q') ∧ c' 99 2 = nI q' ∧ (∀ i, i < j' → c' 114 i = nI (g i)) ∧ c' 114 j' = nI v))) ∧ Z = rec y1 y2 y3 := by
          intro Z hZ
          rw [if_pos rfl, HS W hS.t112 (show j + 1 < 4 by omega) (by omega), bnd_s, nrw0, HR (k := 20) W hS.1 rfl, bnd_s, HL W hS.t112 (show j + 1 < 4 by omega) (by omega), bnd_s, u2_same, if_pos (by decide)] at hZ
          exact ⟨0, _, _, ⟨rfl, _, rfl, (fr1.trans (FrI.at2 _ _)).trans (FrI.got _ _ _), Or.inl ⟨rfl, hno⟩⟩, hZ⟩
        refine tail _ ?_
        rcases Nat.lt_or_ge q' T with hq2 | hq2
        · rw [if_neg (nI_ge hq2 (by omega)), L hq2, bnd_s, if_neg (fun e => gs ⟨hq2, e⟩)]
          rw [if_pos rfl, if_pos trivial]
        · rw [if_pos (nI_le hq2 (by omega)), if_pos rfl, if_pos trivial]
    · -- the end
      refine Or.inr ?_
      have ejw : j + 1 = w := by omega
      have ech : chK w j = 59 := if_neg (by omega)
      rw [if_pos (nI_le hlt (by omega))]
      simp only [if_neg i10, HI (k := 2) W hS.1 rfl, HI (k := 0) W hS.1 rfl, HR (k := 1) W hS.1 rfl, bnd_s, p1, h01, if_true]
      rw [show nI q' + 1 = nI (q' + 1) from nI_1 q', P, bnd_s]
      by_cases gs : sgn X T q' 59
      · rw [ech, if_pos gs] at eS
        have hr' := rdK_go hr (by rw [ech]; exact eS)
        rw [ejw] at hr'
        refine ⟨u2 c1 99 2 (nI (q' + 1)), fr1.trans (FrI.at2 _ _), Or.inr ⟨_, _, hr', u2_same _ _ _ _, fun i hi => ?_, ?_⟩⟩
        · rw [u2_other _ _ _ (by omega)]
          by_cases e : i = j
          · rw [e, if_pos rfl]; exact r2
          · rw [if_neg e]; exact r1 i (by omega)
        · rw [if_neg (nI_ge gs.1 (by omega)), L gs.1, bnd_s, if_pos gs.2, bnd_s]
      · rw [ech, if_neg gs] at eS
        have hno : rdK X T w p0 w = none := rdK_to (rdK_stop hr (by rw [ech]; exact eS)) (show j + 1 ≤ w by omega)
        refine ⟨u2 c1 99 2 (nI (q' + 1)), fr1.trans (FrI.at2 _ _), Or.inl ⟨hno, ?_⟩⟩
        rcases Nat.lt_or_ge q' T with hq2 | hq2
        · rw [if_neg (nI_ge hq2 (by omega)), L hq2, bnd_s, if_neg (fun e => gs ⟨hq2, e⟩)]
          exact rZ_0 _
        · rw [if_pos (nI_le hq2 (by omega))]
          exact rZ_0 _
/-- what the reference holds of what is told -/
def TdM (c : Nat → Nat → Int32) (s : St) : Prop := c 102 1 = nI s.1 ∧ c 101 2 = nI s.2.2.1 ∧ c 101 3 = nI s.2.2.2 ∧ ∀ i, i < s.1 → ∀ k, k < 4 → c 103 (4 * i + k) = nI (s.2.1 i k)
def FrT (c c' : Nat → Nat → Int32) : Prop := (∀ b, b ≠ 99 → b ≠ 101 → b ≠ 102 → b ≠ 103 → b ≠ 114 → c' b = c b) ∧ (∀ k, k ≠ 2 → c' 99 k = c 99 k) ∧ ∀ k, k < 2 → c' 101 k = c 101 k
theorem FrT.refl (c : Nat → Nat → Int32) : FrT c c := ⟨fun _ _ _ _ _ _ => rfl, fun _ _ => rfl, fun _ _ => rfl⟩
theorem FrT.trans {c c' c'' : Nat → Nat → Int32} (h : FrT c c') (g : FrT c' c'') : FrT c c'' := ⟨fun b h1 h2 h3 h4 h5 => (g.1 b h1 h2 h3 h4 h5).trans (h.1 b h1 h2 h3 h4 h5), fun k hk => (g.2.1 k hk).trans (h.2.1 k hk), fun k hk => (g.2.2 k hk).trans (h.2.2 k hk)⟩
theorem FrI.frT {c c' : Nat → Nat → Int32} (h : FrI c c') : FrT c c' := ⟨fun b h1 _ _ _ h5 => h.1 b h1 h5, h.2, fun k _ => by rw [h.1 101 (by omega) (by omega)]⟩
theorem TdM.frI {c c' : Nat → Nat → Int32} {s : St} (h : TdM c s) (f : FrI c c') : TdM c' s := by
  unfold TdM
  rw [f.1 102 (by omega) (by omega), f.1 101 (by omega) (by omega), f.1 103 (by omega) (by omega)]
  exact h
theorem isGood_s (W : Wz sh z) (hS : SMo sh) {s : St} (hs : WFS s) (hM : TdM c s) {g : Nat → Nat} (hg : ∀ j, j < 4 → c 114 j = nI (g j)) (hg9 : ∀ j, j < 4 → g j ≤ 99) : ∃ c', f_X7_isGood 99 115 (HH sh c z) = some (if gdS s g then 1 else 0, HH sh c' z) ∧ (∀ b, b ≠ 102 → b ≠ 103 → c' b = c b) ∧ (gdS s g → TdM c' (adS s g)) := by
  have l : ∀ j, j < 4 → ldI 0 (HH sh c z) 114 (nI j) = some (nI (g j)) := fun j hj => by rw [HL W hS.t112 hj (by omega), hg j hj]
  have l0 : ldI 0 (HH sh c z) 114 (0 : Int32) = some (nI (g 0)) := l 0 (by omega)
  have l1 : ldI 0 (HH sh c z) 114 (1 : Int32) = some (nI (g 1)) := l 1 (by omega)
  have l2 : ldI 0 (HH sh c z) 114 (2 : Int32) = some (nI (g 2)) := l 2 (by omega)
  have lm : ldI 0 (HH sh c z) 102 (1 : Int32) = some (nI s.1) := by rw [show (1 : Int32) = nI 1 from rfl, HL W hS.t100 (show 1 < 2 by omega) (by omega), hM.1]
  have g0 := hg9 0 (by omega)
  have g1 := hg9 1 (by omega)
  have g2 := hg9 2 (by omega)
  have s8 := hs.1
  have i4 : ∀ v, v ≤ 99 → f_X7_in (nI v).toInt64 0 4 = some (if v < 5 then 1 else 0) := by
    intro v hv
    rw [in_int, nI_T _ (by omega), show (0 : Int64).toInt = 0 from rfl, show (4 : Int64).toInt = 4 from rfl]
    by_cases q : v < 5
    · rw [if_pos q, if_pos (by omega)]
    · rw [if_neg q, if_neg (by omega)]
  have i9 : f_X7_in (nI (g 1)).toInt64 1 9 = some (if 1 ≤ g 1 ∧ g 1 ≤ 9 then 1 else 0) := by
    rw [in_int, nI_T _ (by omega), show (1 : Int64).toInt = 1 from rfl, show (9 : Int64).toInt = 9 from rfl]
    by_cases q : 1 ≤ g 1 ∧ g 1 ≤ 9
    · rw [if_pos q, if_pos (by omega)]
    · rw [if_neg q, if_neg (by omega)]
  unfold f_X7_isGood
  simp only [HG W hS.1, bnd_s, if_true, HR (k := 20) W hS.1 rfl, HR (k := 4) W hS.1 rfl, jn1_s, jn0_s, l0, l1, l2, lm, i4 _ g0, i4 _ g2, i9]
  by_cases h : gdS s g
  · obtain ⟨q1, q2, q4, q5⟩ := h
    rw [if_pos q1, if_neg i10, if_pos q2, if_neg i10, if_pos q4, if_neg i10, if_neg (show ¬ (8 : Int32) ≤ nI s.1 from nI_ge (b := 8) q5 (by omega)), if_pos ⟨q1, q2, q4, q5⟩]
    refine wl2_fuel (fun k x h => x = nI k ∧ ∃ c1, h = HH sh c1 z ∧ (∀ b, b ≠ 103 → c1 b = c b) ∧ (∀ j, j < k → c1 103 (4 * s.1 + j) = nI (g j)) ∧ ∀ e, e < 4 * s.1 → c1 103 e = c 103 e) 4 (by omega) (fun t => ∃ c', t = some (1, HH sh c' z) ∧ (∀ b, b ≠ 102 → b ≠ 103 → c' b = c b) ∧ (gdS s g → TdM c' (adS s g))) ?_ _ _ ⟨rfl, c, rfl, fun _ _ => rfl, fun j hj => absurd hj (by omega), fun _ _ => rfl⟩
    intro rec k x h hk hx
    obtain ⟨rfl, c1, rfl, f1, r1, r2⟩ := hx
    have lm1 : ldI 0 (HH sh c1 z) 102 (1 : Int32) = some (nI s.1) := by rw [show (1 : Int32) = nI 1 from rfl, HL W hS.t100 (show 1 < 2 by omega) (by omega), f1 102 (by omega), hM.1]
    rcases Nat.lt_or_ge k 4 with h5 | h5
    · refine Or.inl ⟨h5, ?_⟩
      rw [if_neg (show ¬ (4 : Int32) ≤ nI k from nI_ge (b := 4) h5 (by omega)), if_neg i10, HR (k := 5) W hS.1 rfl, bnd_s, HR (k := 4) W hS.1 rfl, bnd_s, lm1, bnd_s, HR (k := 20) W hS.1 rfl, bnd_s, HL W hS.t112 h5 (by omega), bnd_s, show (4 : Int32) = nI 4 from rfl, pk_mul, nI_add, HS W hS.t101 (show 4 * s.1 + k < 32 by omega) (by omega), bnd_s, nrw0, f1 114 (by omega), hg k h5, nI_1]
      refine ⟨_, _, ⟨rfl, _, rfl, fun b hb => by rw [u2_other _ _ _ hb]; exact f1 b hb, fun j hj => ?_, fun e he => by rw [u2_ne _ _ (Or.inr (by omega))]; exact r2 e he⟩, rfl⟩
      by_cases e : j = k
      · rw [e, u2_same]
      · rw [u2_ne _ _ (Or.inr (by omega))]; exact r1 j (by omega)
    · refine Or.inr ?_
      rw [if_pos (show (4 : Int32) ≤ nI k from nI_le (a := 4) h5 (by omega)), HR (k := 4) W hS.1 rfl, bnd_s, lm1, bnd_s, if_neg i10, show (1 : Int32) = nI 1 from rfl, nI_add, HS W hS.t100 (show 1 < 2 by omega) (by omega), bnd_s, nrw0]
      refine ⟨_, rZ_1 _, fun b h1 h2 => by rw [u2_other _ _ _ h1]; exact f1 b h2, fun _ => ⟨u2_same _ _ _ _, ?_, ?_, ?_⟩⟩
      · rw [u2_other _ _ _ (by omega), f1 101 (by omega)]; exact hM.2.1
      · rw [u2_other _ _ _ (by omega), f1 101 (by omega)]; exact hM.2.2.1
      · intro i hi j hj
        have hi : i < s.1 + 1 := hi
        rw [u2_other _ _ _ (by omega)]
        show _ = nI (if i = s.1 then (if j < 4 then g j else 0) else s.2.1 i j)
        by_cases e : i = s.1
        · rw [if_pos e, if_pos hj, e]; exact r1 j (by omega)
        · rw [if_neg e, r2 _ (by omega)]; exact hM.2.2.2 i (by omega) j hj
  · rw [if_neg h]
    have hz : ∃ c', wl2 (fun (r24 : Int32 → Hp → Option (Int32 × Hp)) (i22 : Int32) (h23 : Hp) => if (4 : Int32) ≤ i22 then (bnd (gR h23 99 7 4) fun a26 => bnd (ldI 0 h23 a26 (1 : Int32)) fun x27 => if (0 : Int32) = 0 then (bnd (stI 0 h23 a26 (1 : Int32) (x27 + 0)) fun h30 => rZ 0 h30) else (bnd (stI 0 h23 a26 (1 : Int32) (x27 + 1)) fun h30 => rZ 0 h30)) else (if (0 : Int32) = 0 then (bnd (gR h23 99 7 4) fun a26 => bnd (ldI 0 h23 a26 (1 : Int32)) fun x27 => if (0 : Int32) = 0 then (bnd (stI 0 h23 a26 (1 : Int32) (x27 + 0)) fun h30 => rZ 0 h30) else (bnd (stI 0 h23 a26 (1 : Int32) (x27 + 1)) fun h30 => rZ 0 h30)) else (bnd (gR h23 99 7 5) fun a34 => bnd (gR h23 99 7 4) fun a35 => bnd (ldI 0 h23 a35 (1 : Int32)) fun x36 => bnd (gR h23 99 7 20) fun a37 => bnd (ldI 0 h23 a37 i22) fun x38 => bnd (stI 0 h23 a34 (((4 : Int32) * x36) + i22) x38) fun h39 => r24 (i22 + (1 : Int32)) h39))) fuel (0 : Int32) (HH sh c z) = some (0, HH sh c' z) ∧ (∀ b, b ≠ 102 → b ≠ 103 → c' b = c b) ∧ (gdS s g → TdM c' (adS s g)) := by
      refine wl2_fuel (fun k x h => k = 0 ∧ x = 0 ∧ h = HH sh c z) 0 (by omega) (fun t => ∃ c', t = some (0, HH sh c' z) ∧ (∀ b, b ≠ 102 → b ≠ 103 → c' b = c b) ∧ (gdS s g → TdM c' (adS s g))) ?_ _ _ ⟨rfl, rfl, rfl⟩
      intro rec k x h' hk hx
      obtain ⟨rfl, rfl, rfl⟩ := hx
      refine Or.inr ⟨u2 c 102 1 (nI s.1 + 0), ?_, fun b h1 _ => u2_other _ _ _ h1, fun q => absurd q h⟩
      rw [if_neg (by decide), if_pos rfl, HR (k := 4) W hS.1 rfl, bnd_s, lm, bnd_s, if_pos rfl, show (1 : Int32) = nI 1 from rfl, HS W hS.t100 (show 1 < 2 by omega) (by omega), bnd_s, nrw0]
      exact rZ_0 _
    by_cases q1 : g 0 < 5
    · rw [if_pos q1, if_neg i10]
      by_cases q2 : 1 ≤ g 1 ∧ g 1 ≤ 9
      · rw [if_pos q2, if_neg i10]
        by_cases q4 : g 2 < 5
        · rw [if_pos q4, if_neg i10, if_pos (show (8 : Int32) ≤ nI s.1 from nI_le (a := 8) (by
            rcases Nat.lt_or_ge s.1 8 with r | r
            · exact absurd ⟨q1, q2, q4, r⟩ h
            · exact r) (by omega))]
          exact hz
        · rw [if_neg q4, if_pos rfl]
          exact hz
      · rw [if_neg q2, if_pos rfl]
        exact hz
    · rw [if_neg q1, if_pos rfl]
      exact hz
theorem isGood_l (W : Wz sh z) (hS : SMo sh) {s : St} (hM : TdM c s) {v : Nat} (hg : c 114 0 = nI v) (hv : v ≤ 99) : ∃ c', f_X7_isGood 99 108 (HH sh c z) = some (if v ≤ 1 then 1 else 0, HH sh c' z) ∧ (∀ b, b ≠ 101 → c' b = c b) ∧ (∀ k, k < 2 → c' 101 k = c 101 k) ∧ TdM c' (s.1, s.2.1, v, s.2.2.2) := by
  have l0 : ∀ x, ldI 0 (HH sh (u2 c 101 2 x) z) 114 (0 : Int32) = some (nI v) := fun x => by rw [show (0 : Int32) = nI 0 from rfl, HL W hS.t112 (show 0 < 4 by omega) (by omega), u2_other _ _ _ (by omega), hg]
  have l1 : ldI 0 (HH sh c z) 114 (0 : Int32) = some (nI v) := by rw [show (0 : Int32) = nI 0 from rfl, HL W hS.t112 (show 0 < 4 by omega) (by omega), hg]
  have st : ∀ x, stI 0 (HH sh c z) 101 (2 : Int32) x = some (HH sh (u2 c 101 2 x) z) := fun x => by rw [show (2 : Int32) = nI 2 from rfl, HS W hS.t99 (show 2 < 4 by omega) (by omega), nrw0]
  unfold f_X7_isGood
  simp only [HG W hS.1, bnd_s, HR (k := 20) W hS.1 rfl, HR (k := 3) W hS.1 rfl, jn1_s, jn0_s, l0, l1, st, if_true, if_neg (show ¬ (108 : Int32) = 115 by decide), if_neg (show ¬ (108 : Int32) = 99 by decide)]
  refine ⟨u2 c 101 2 (nI v), ?_, fun b hb => u2_other _ _ _ hb, fun k hk => u2_ne _ _ (Or.inr (by omega)), ?_, u2_same _ _ _ _, ?_, ?_⟩
  · rw [in_int, nI_T _ (by omega), show (0 : Int64).toInt = 0 from rfl, show (1 : Int64).toInt = 1 from rfl, bnd_s]
    by_cases q : v ≤ 1
    · rw [if_pos q, if_pos (show (0 : Int) ≤ (v : Int) ∧ (v : Int) ≤ 1 by omega), if_neg i10]; exact rZ_1 _
    · rw [if_neg q, if_neg (show ¬ ((0 : Int) ≤ (v : Int) ∧ (v : Int) ≤ 1) by omega), if_pos rfl]; exact rZ_0 _
  · rw [u2_other _ _ _ (by omega)]; exact hM.1
  · rw [u2_ne _ _ (Or.inr (by omega))]; exact hM.2.2.1
  · rw [u2_other _ _ _ (by omega)]; exact hM.2.2.2
theorem isGood_c (W : Wz sh z) (hS : SMo sh) {s : St} (hM : TdM c s) {v : Nat} (hg : c 114 0 = nI v) : ∃ c', f_X7_isGood 99 99 (HH sh c z) = some (1, HH sh c' z) ∧ (∀ b, b ≠ 101 → c' b = c b) ∧ (∀ k, k < 2 → c' 101 k = c 101 k) ∧ TdM c' (s.1, s.2.1, s.2.2.1, v) := by
  have l1 : ldI 0 (HH sh c z) 114 (0 : Int32) = some (nI v) := by rw [show (0 : Int32) = nI 0 from rfl, HL W hS.t112 (show 0 < 4 by omega) (by omega), hg]
  have st : ∀ x, stI 0 (HH sh c z) 101 (3 : Int32) x = some (HH sh (u2 c 101 3 x) z) := fun x => by rw [show (3 : Int32) = nI 3 from rfl, HS W hS.t99 (show 3 < 4 by omega) (by omega), nrw0]
  unfold f_X7_isGood
  simp only [HG W hS.1, bnd_s, HR (k := 20) W hS.1 rfl, HR (k := 3) W hS.1 rfl, jn1_s, jn0_s, l1, st, if_true, if_neg (show ¬ (99 : Int32) = 115 by decide), if_neg (show ¬ (99 : Int32) = 108 by decide)]
  refine ⟨u2 c 101 3 (nI v), rZ_1 _, fun b hb => u2_other _ _ _ hb, fun k hk => u2_ne _ _ (Or.inr (by omega)), ?_, ?_, u2_same _ _ _ _, ?_⟩
  · rw [u2_other _ _ _ (by omega)]; exact hM.1
  · rw [u2_ne _ _ (Or.inr (by omega))]; exact hM.2.1
  · rw [u2_other _ _ _ (by omega)]; exact hM.2.2.2
end IT
