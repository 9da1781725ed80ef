/-! ===== fault, lay: both ===== -/
section LZ
variable {n : Nat} {h : Hp} {A : AS} {y : Dy} {sh : Nat → Shp} {c c' : Nat → Nat → Int32} {z : Nat × Nat}
theorem ClsR.kt (hA : WFA A) (hc : ClsR A sh c) (f : ∀ b, b < 2 ∨ (10 ≤ b ∧ b < 79) → c' b = c b) : ClsR A sh c' := by
  obtain ⟨c1, c2, c3, c4, c5, c6, c7, ⟨σ, c8, c9, c10, c11⟩, c12⟩ := hc
  obtain ⟨w1, w2, w3, w4, w5, w6, w7, w8, w9, w10, w11⟩ := hA
  refine ⟨?_, ?_, ?_, ?_, ?_, ?_, ?_, ⟨σ, c8, c9, c10, ?_⟩, ?_⟩
  · rw [f 1 (by omega)]; exact c1
  · rw [f 0 (by omega)]; exact c2
  · rw [f 0 (by omega)]; exact c3
  · rw [f 0 (by omega)]; exact c4
  · rw [f 0 (by omega)]; exact c5
  · intro i hi; rw [f 78 (by omega)]; exact c6 i hi
  · exact c7.kept (fun b g1 g2 => f b (by omega))
  · intro p hp
    have := c9 p (by omega)
    exact (c11 p hp).kept (fun b g1 g2 => f b (by omega))
  · intro k hk
    exact (c12 k hk).kept (fun b g1 g2 => f b (by omega))
theorem ModR.kt (hR : ModR A c) (f : FrT c c') : ModR A c' := by
  obtain ⟨r1, r2, r3, r4, r5, r6, r7, r8, r9, r10, r11⟩ := hR
  have f102 := f.1 104 (by omega) (by omega) (by omega) (by omega) (by omega)
  refine ⟨?_, ?_, ?_, ?_, ?_, ?_, ?_, ?_, ?_, ?_, ?_⟩
  · rw [f.1 100 (by omega) (by omega) (by omega) (by omega) (by omega)]; exact r1
  · rw [f.2.1 0 (by omega)]; exact r2
  · rw [f.2.1 8 (by omega)]; exact r3
  · rw [f.2.1 7 (by omega)]; exact r4
  · rw [f.2.1 9 (by omega)]; exact r5
  · rw [f.1 105 (by omega) (by omega) (by omega) (by omega) (by omega)]; exact r6
  · rw [f.2.2 0 (by omega)]; exact r7
  · rw [f.2.2 1 (by omega)]; exact r8
  · rw [f102]; exact r9
  · rw [f102]; exact r10
  · rw [f102]; exact r11
theorem ModR.kf (hR : ModR A c) (f : ∀ b, b < 2 ∨ 10 ≤ b → c' b = c b) : ModR A c' := by
  unfold ModR at hR ⊢
  rw [f 100 (by omega), f 99 (by omega), f 105 (by omega), f 101 (by omega), f 104 (by omega)]
  exact hR
theorem op_fault (hI : Inv n h) : ∃ r h1 h2, f_X6_fault 0 h = some (r, h1) ∧ f_X7_fault 99 h1 = some (r, h2) ∧ Inv (n + 1) h2 := by
  obtain ⟨A, y, sh, c, z, rfl, hA, J⟩ := hI.jn
  obtain ⟨W, hs, hb, hc, hS, hR⟩ := id J
  obtain ⟨c1, e1, f1, -⟩ := read_eq (X := asX A) (T := asT A) W hs hA.1 hc.1
  have hR1 : ModR A c1 := hR.kf f1
  obtain ⟨c2, e2, f2, -⟩ := faultM_eq (X := asX A) (T := asT A) W hS hA.1 hR1.1 hR1.2.1
  refine ⟨_, _, _, ?_, e2, ?_⟩
  · unfold f_X6_fault
    rw [HG W hs.1, bnd_s, HR (k := 2) W hs.1 rfl, bnd_s, HR (k := 0) W hs.1 rfl, bnd_s, HI (k := 1) W hs.1 rfl, bnd_s, HR (k := 3) W hs.1 rfl, bnd_s, hc.2.1, e1, bnd2_s]
  · have J2 : Jn n A y sh c2 z := ⟨W, hs, hb, hc.kt hA (fun b q => by rw [f2.1 b (by omega) (by omega) (by omega) (by omega) (by omega), f1 b (by omega)]), hS, hR1.kt f2⟩
    exact J2.inv hA
/-- what takes leaves behind -/
def TkQ (c c' : Nat → Nat → Int32) (s : St) : Prop := c' 102 0 = nI s.1 ∧ c' 101 0 = nI s.2.2.1 ∧ c' 101 1 = nI s.2.2.2 ∧ SlM (c' 104) 0 (stV s) ∧ c' 99 7 = 0 ∧ c' 99 8 = 0 ∧ c' 99 9 = 0 ∧ (∀ k, k ≠ 7 → k ≠ 8 → k ≠ 9 → c' 99 k = c 99 k) ∧ ∀ b, b ≠ 99 → b ≠ 101 → b ≠ 102 → b ≠ 104 → c' b = c b
set_option maxHeartbeats 1000000 in
theorem takes_eq (W : Wz sh z) (hS : SMo sh) {s : St} (hs : WFS s) (hM : TdM c s) : ∃ c', f_X7_takes 99 (HH sh c z) = some (HH sh c' z) ∧ TkQ c c' s := by
  have s8 := hs.1
  have t102 : sh 104 = sA 0 605 := hS.2.2.2.2.2.1
  have st : ∀ (cc : Nat → Nat → Int32) (a m k : Nat) (x : Int32), sh a = sA 0 m → k < m → m ≤ 1000 → stI 0 (HH sh cc z) a (nI k) x = some (HH sh (u2 cc a k x) z) := fun cc a m k x e hk hm => by rw [HS W e hk (by omega), nrw0]
  have a1 : ldI 0 (HH sh c z) 102 (1 : Int32) = some (nI s.1) := by rw [show (1 : Int32) = nI 1 from rfl, HL W hS.t100 (show 1 < 2 by omega) (by omega), hM.1]
  have a2 : stI 0 (HH sh c z) 102 (0 : Int32) (nI s.1) = some (HH sh (u2 c 102 0 (nI s.1)) z) := st c 102 2 0 _ hS.t100 (by omega) (by omega)
  have a3 : ldI 0 (HH sh (u2 c 102 0 (nI s.1)) z) 101 (2 : Int32) = some (nI s.2.2.1) := by rw [show (2 : Int32) = nI 2 from rfl, HL W hS.t99 (show 2 < 4 by omega) (by omega), u2_other _ _ _ (by omega), hM.2.1]
  have a4 : stI 0 (HH sh (u2 c 102 0 (nI s.1)) z) 101 (0 : Int32) (nI s.2.2.1) = some (HH sh (u2 (u2 c 102 0 (nI s.1)) 101 0 (nI s.2.2.1)) z) := st _ 101 4 0 _ hS.t99 (by omega) (by omega)
  have a5 : ldI 0 (HH sh (u2 (u2 c 102 0 (nI s.1)) 101 0 (nI s.2.2.1)) z) 101 (3 : Int32) = some (nI s.2.2.2) := by rw [show (3 : Int32) = nI 3 from rfl, HL W hS.t99 (show 3 < 4 by omega) (by omega), u2_ne _ _ (Or.inr (by omega)), u2_other _ _ _ (by omega), hM.2.2.1]
  have a6 : stI 0 (HH sh (u2 (u2 c 102 0 (nI s.1)) 101 0 (nI s.2.2.1)) z) 101 (1 : Int32) (nI s.2.2.2) = some (HH sh (u2 (u2 (u2 c 102 0 (nI s.1)) 101 0 (nI s.2.2.1)) 101 1 (nI s.2.2.2)) z) := st _ 101 4 1 _ hS.t99 (by omega) (by omega)
  generalize hc3 : u2 (u2 (u2 c 102 0 (nI s.1)) 101 0 (nI s.2.2.1)) 101 1 (nI s.2.2.2) = c3 at a6
  have g100 : c3 102 0 = nI s.1 := by rw [← hc3, u2_other _ _ _ (by omega), u2_other _ _ _ (by omega), u2_same]
  have g990 : c3 101 0 = nI s.2.2.1 := by rw [← hc3, u2_ne _ _ (Or.inr (by omega)), u2_same]
  have g991 : c3 101 1 = nI s.2.2.2 := by rw [← hc3, u2_same]
  have g3 : ∀ b, b ≠ 101 → b ≠ 102 → c3 b = c b := fun b h1 h2 => by rw [← hc3, u2_other _ _ _ h1, u2_other _ _ _ h1, u2_other _ _ _ h2]
  unfold f_X7_takes
  rw [HG W hS.1, bnd_s, HR (k := 4) W hS.1 rfl, bnd_s, bnd_s, a1, bnd_s, a2, bnd_s, HR (k := 3) W hS.1 rfl, bnd_s, bnd_s, a3, bnd_s, a4, bnd_s, HR (k := 3) W hS.1 rfl, bnd_s, bnd_s, a5, bnd_s, a6, bnd_s]
  clear a1 a2 a3 a4 a5 a6 hc3
  refine wl2_fuel (fun i x h => x = nI i ∧ ∃ cc, h = HH sh cc z ∧ (∀ b, b ≠ 104 → cc b = c3 b) ∧ ∀ k, k < i → cc 104 k = 0) 55 (by omega) (fun t => ∃ c', t = some (HH sh c' z) ∧ TkQ c c' s) ?_ _ _ ⟨rfl, c3, rfl, fun _ _ => rfl, fun k hk => absurd hk (by omega)⟩
  intro rec i x h hi hx
  obtain ⟨rfl, cc, rfl, f1, r1⟩ := hx
  rcases Nat.lt_or_ge i 55 with h5 | h5
  · refine Or.inl ⟨h5, ?_⟩
    rw [if_neg (show ¬ (55 : Int32) ≤ nI i from nI_ge (b := 55) h5 (by omega)), HR (k := 6) W hS.1 rfl, bnd_s, st cc 104 605 i 0 t102 (by omega) (by omega), bnd_s, nI_1]
    refine ⟨_, _, ⟨rfl, _, rfl, fun b hb => by rw [u2_other _ _ _ hb]; exact f1 b hb, fun k hk => ?_⟩, rfl⟩
    by_cases e : k = i
    · rw [e, u2_same]
    · rw [u2_ne _ _ (Or.inr e)]; exact r1 k (by omega)
  · refine Or.inr ?_
    rw [if_pos (show (55 : Int32) ≤ nI i from nI_le (a := 55) h5 (by omega))]
    have ei : i = 55 := by omega
    subst ei
    refine wl2_fuel (fun i x h => x = nI i ∧ ∃ cc, h = HH sh cc z ∧ (∀ b, b ≠ 104 → cc b = c3 b) ∧ (∀ j, j < i → ∀ w, w < 4 → cc 104 (5 * j + w) = nI (s.2.1 j w)) ∧ ∀ k, k < 55 → (5 * i ≤ k ∨ k % 5 = 4) → cc 104 k = 0) s.1 (by omega) (fun t => ∃ c', t = some (HH sh c' z) ∧ TkQ c c' s) ?_ _ _ ⟨rfl, cc, rfl, f1, fun j hj => absurd hj (by omega), fun k hk _ => r1 k hk⟩
    intro rec2 i x h hi hx
    clear r1 f1 cc
    obtain ⟨rfl, cc, rfl, f1, d1, z1⟩ := hx
    have l100 : ldI 0 (HH sh cc z) 102 (0 : Int32) = some (nI s.1) := by rw [show (0 : Int32) = nI 0 from rfl, HL W hS.t100 (show 0 < 2 by omega) (by omega), f1 102 (by omega), g100]
    rw [HR (k := 4) W hS.1 rfl, bnd_s, l100, bnd_s]
    rcases Nat.lt_or_ge i s.1 with hl | hl
    · refine Or.inl ⟨hl, ?_⟩
      rw [if_neg (nI_ge hl (by omega))]
      refine wl2_fuel (fun m x h => x = nI m ∧ ∃ cc, h = HH sh cc z ∧ (∀ b, b ≠ 104 → cc b = c3 b) ∧ (∀ j, j < i → ∀ w, w < 4 → cc 104 (5 * j + w) = nI (s.2.1 j w)) ∧ (∀ w, w < m → cc 104 (5 * i + w) = nI (s.2.1 i w)) ∧ ∀ k, k < 55 → (5 * i + m ≤ k ∨ k % 5 = 4) → cc 104 k = 0) 4 (by omega) (fun t => ∃ y1 y2, (y1 = nI (i + 1) ∧ ∃ cc, y2 = HH sh cc z ∧ (∀ b, b ≠ 104 → cc b = c3 b) ∧ (∀ j, j < i + 1 → ∀ w, w < 4 → cc 104 (5 * j + w) = nI (s.2.1 j w)) ∧ ∀ k, k < 55 → (5 * (i + 1) ≤ k ∨ k % 5 = 4) → cc 104 k = 0) ∧ t = rec2 y1 y2) ?_ _ _ ⟨rfl, cc, rfl, f1, d1, fun w hw => absurd hw (by omega), z1⟩
      intro rec3 m x h hm hx
      clear z1 d1 l100 f1 cc
      obtain ⟨rfl, cc, rfl, f1, d1, w1, z1⟩ := hx
      rcases Nat.lt_or_ge m 4 with hm4 | hm4
      · refine Or.inl ⟨hm4, ?_⟩
        rw [if_neg (show ¬ (4 : Int32) ≤ nI m from nI_ge (b := 4) hm4 (by omega)), HR (k := 6) W hS.1 rfl, bnd_s, HR (k := 5) W hS.1 rfl, bnd_s, show (4 : Int32) = nI 4 from rfl, show (5 : Int32) = nI 5 from rfl, pk_mul, pk_mul, nI_add, nI_add, HL W hS.t101 (show 4 * i + m < 32 by omega) (by omega), bnd_s, f1 103 (by omega), g3 103 (by omega) (by omega), hM.2.2.2 i hl m hm4, st cc 104 605 _ _ t102 (by omega) (by omega), bnd_s, nI_1]
        refine ⟨_, _, ⟨rfl, _, rfl, fun b hb => by rw [u2_other _ _ _ hb]; exact f1 b hb, fun j hj w hw => ?_, fun w hw => ?_, fun k hk hkk => ?_⟩, rfl⟩
        · rw [u2_ne _ _ (Or.inr (by omega))]; exact d1 j hj w hw
        · by_cases e : w = m
          · rw [e, u2_same]
          · rw [u2_ne _ _ (Or.inr (by omega))]; exact w1 w (by omega)
        · rw [u2_ne _ _ (Or.inr (by omega))]; exact z1 k hk (by omega)
      · refine Or.inr ?_
        rw [if_pos (show (4 : Int32) ≤ nI m from nI_le (a := 4) hm4 (by omega)), nI_1]
        refine ⟨_, _, ⟨rfl, cc, rfl, f1, fun j hj w hw => ?_, fun k hk hkk => z1 k hk (by omega)⟩, rfl⟩
        by_cases e : j = i
        · rw [e]; exact w1 w (by omega)
        · exact d1 j (by omega) w hw
    · refine Or.inr ?_
      have ei : i = s.1 := by omega
      subst ei
      rw [if_pos (nI_le hl (by omega)), HR (k := 6) W hS.1 rfl, bnd_s, bnd_s, l100, bnd_s, show (50 : Int32) = nI 50 from rfl, st cc 104 605 _ _ t102 (by omega) (by omega), bnd_s, HR (k := 6) W hS.1 rfl, bnd_s, show (52 : Int32) = nI 52 from rfl, st _ 104 605 _ _ t102 (by omega) (by omega), bnd_s, HR (k := 6) W hS.1 rfl, bnd_s, show (53 : Int32) = nI 53 from rfl, st _ 104 605 _ _ t102 (by omega) (by omega), bnd_s, HP (k := 9) W hS.1 rfl, bnd_s, HP (k := 8) W hS.1 rfl, bnd_s, HP (k := 7) W hS.1 rfl, bnd_s]
      refine ⟨_, rfl, ?_⟩
      generalize hcc : u2 (u2 (u2 (u2 (u2 (u2 cc 104 50 (nI s.1)) 104 52 5) 104 53 5) 99 9 0) 99 8 0) 99 7 0 = c4
      have q1 : ∀ b, b ≠ 99 → b ≠ 104 → c4 b = c3 b := fun b h1 h2 => by rw [← hcc, u2_other _ _ _ h1, u2_other _ _ _ h1, u2_other _ _ _ h1, u2_other _ _ _ h2, u2_other _ _ _ h2, u2_other _ _ _ h2, f1 b h2]
      have q2 : ∀ k, k ≠ 50 → k ≠ 52 → k ≠ 53 → c4 104 k = cc 104 k := fun k h1 h2 h3 => by rw [← hcc, u2_other _ _ _ (by omega), u2_other _ _ _ (by omega), u2_other _ _ _ (by omega), u2_ne _ _ (Or.inr h3), u2_ne _ _ (Or.inr h2), u2_ne _ _ (Or.inr h1)]
      have q97 : ∀ k, k ≠ 7 → k ≠ 8 → k ≠ 9 → c4 99 k = c 99 k := fun k h1 h2 h3 => by rw [← hcc, u2_ne _ _ (Or.inr h1), u2_ne _ _ (Or.inr h2), u2_ne _ _ (Or.inr h3), u2_other _ _ _ (by omega), u2_other _ _ _ (by omega), u2_other _ _ _ (by omega), f1 99 (by omega), g3 99 (by omega) (by omega)]
      refine ⟨by rw [q1 102 (by omega) (by omega)]; exact g100, by rw [q1 101 (by omega) (by omega)]; exact g990, by rw [q1 101 (by omega) (by omega)]; exact g991, ⟨?_, ?_, ?_, ?_, ?_, ?_⟩, ?_, ?_, ?_, q97, fun b h1 h2 h3 h4 => by rw [q1 b h1 h4, g3 b h2 h3]⟩
      · intro j hj w hw
        have hj : j < s.1 := hj
        rw [show 55 * 0 + 5 * j + w = 5 * j + w by omega, q2 _ (by omega) (by omega) (by omega)]
        rcases Nat.lt_or_ge w 4 with g | g
        · exact d1 j hj w g
        · rw [show w = 4 by omega, z1 _ (by omega) (Or.inr (by omega))]
          show 0 = nI (s.2.1 j 4)
          rw [(hs.2.1 j hj).2.2.2.2.2]
          rfl
      · show c4 104 50 = _
        rw [← hcc]; simp [u2]; rfl
      · show c4 104 51 = _
        rw [q2 _ (by omega) (by omega) (by omega), z1 _ (by omega) (Or.inl (by omega))]; rfl
      · show c4 104 52 = _
        rw [← hcc]; simp [u2]; rfl
      · show c4 104 53 = _
        rw [← hcc]; simp [u2]; rfl
      · show c4 104 54 = _
        rw [q2 _ (by omega) (by omega) (by omega), z1 _ (by omega) (Or.inl (by omega))]; rfl
      · rw [← hcc]; simp [u2]
      · rw [← hcc]; simp [u2]
      · rw [← hcc]; simp [u2]
theorem WFV_st {s : St} (h : WFS s) : WFV (stV s) := by
  obtain ⟨h1, h2, h3, h4⟩ := h
  refine ⟨by show s.1 ≤ 10; omega, fun i hi => ?_, by show 5 ≤ 5; omega, by show 5 ≤ 5; omega, by show 0 ≤ _; omega, trivial⟩
  have q := h2 i hi
  exact ⟨q.1, q.2.1, q.2.2.1, q.2.2.2.1, q.2.2.2.2.1, by show s.2.1 i 4 ≤ 2; omega⟩
set_option maxHeartbeats 1000000 in
theorem op_lay (hI : Inv n h) : ∃ r h1 h2, f_X6_lay 0 h = some (r, h1) ∧ f_X7_lay 99 h1 = some (r, h2) ∧ Inv (n + 1) h2 := by
  obtain ⟨A, y, sh, c, z, rfl, hA, J⟩ := hI.jn
  obtain ⟨W, hs, hb, hc, hS, hR⟩ := id J
  obtain ⟨c1, e1, f1, q1⟩ := read_eq (X := asX A) (T := asT A) W hs hA.1 hc.1
  generalize hrn : rnn (asX A) (asT A) 301 0 st0 = rn at *
  obtain ⟨x, s⟩ := rn
  have ehead : f_X6_lay 0 (HH sh c z) = jn0 (some ((-2 : Int32), HH sh c1 z)) fun k7 => if x = (-4 : Int32) then (bnd (gR (HH sh c1 z) 0 6 3) fun a9 => bnd (gI (HH sh c1 z) a9 2 2) fun x10 => if x10 = 0 then k7 else (bnd (gR (HH sh c1 z) 0 6 4) fun a12 => bnd (gR (HH sh c1 z) 0 6 3) fun a13 => bnd (f_X2_copyFrom a12 a13 (HH sh c1 z)) fun h14 => bnd (pF h14 0 6 10 (.int (0 : Int32))) fun h15 => bnd (pF h15 0 6 6 (.int (0 : Int32))) fun h16 => bnd (pF h16 0 6 8 (.int (0 : Int32))) fun h17 => bnd (gR h17 0 6 4) fun a18 => bnd (gI h17 a18 2 2) fun x19 => some (x19, h17))) else k7 := by
    unfold f_X6_lay
    rw [HG W hs.1, bnd_s, HR (k := 2) W hs.1 rfl, bnd_s, HR (k := 0) W hs.1 rfl, bnd_s, HI (k := 1) W hs.1 rfl, bnd_s, HR (k := 3) W hs.1 rfl, bnd_s, hc.2.1, e1, bnd2_s]
  have mhead : ∀ cc : Nat → Nat → Int32, ModR A cc → ∃ c2, FrT cc c2 ∧ (x = -4 → TdM c2 s) ∧ f_X7_lay 99 (HH sh cc z) = (jn0 (some ((-2 : Int32), HH sh c2 z)) fun k3 => if x = (-4 : Int32) then (bnd (gR (HH sh c2 z) 99 7 4) fun a5 => bnd (ldI 0 (HH sh c2 z) a5 (1 : Int32)) fun x6 => if x6 = 0 then k3 else (bnd (f_X7_takes 99 (HH sh c2 z)) fun h8 => bnd (gR h8 99 7 4) fun a9 => bnd (ldI 0 h8 a9 (0 : Int32)) fun x10 => some (x10, h8))) else k3) := by
    intro cc hRc
    obtain ⟨c2, e2, f2, t2⟩ := faultM_eq (X := asX A) (T := asT A) W hS hA.1 hRc.1 hRc.2.1
    rw [hrn] at e2 t2
    refine ⟨c2, f2, t2, ?_⟩
    unfold f_X7_lay
    rw [HG W hS.1, bnd_s, e2, bnd2_s]
  have no : (x = -4 → s.1 = 0) → ∃ r h1 h2, f_X6_lay 0 (HH sh c z) = some (r, h1) ∧ f_X7_lay 99 h1 = some (r, h2) ∧ Inv (n + 1) h2 := by
    intro hno
    have hR1 : ModR A c1 := hR.kf f1
    obtain ⟨c2, f2, t2, e2⟩ := mhead c1 hR1
    refine ⟨-2, HH sh c1 z, HH sh c2 z, ?_, ?_, ?_⟩
    · rw [ehead]
      simp only [jn0_s]
      by_cases hx : x = -4
      · have h0 := hno hx
        have hT := (q1 hx).1.2.2.1
        have hT : c1 4 2 = nI s.1 := hT
        rw [if_pos hx, HR (k := 3) W hs.1 rfl, bnd_s, HI (k := 2) W hs.m4.1 rfl, bnd_s, hT, h0, if_pos (show nI 0 = 0 from rfl)]
      · rw [if_neg hx]
    · rw [e2]
      simp only [jn0_s]
      by_cases hx : x = -4
      · have h0 := hno hx
        have hT := (t2 hx).1
        rw [if_pos hx, HR (k := 4) W hS.1 rfl, bnd_s, show (1 : Int32) = nI 1 from rfl, HL W hS.t100 (show 1 < 2 by omega) (by omega), bnd_s, hT, h0, if_pos (show nI 0 = 0 from rfl)]
      · rw [if_neg hx]
    · have J2 : Jn n A y sh c2 z := ⟨W, hs, hb, hc.kt hA (fun b q => by rw [f2.1 b (by omega) (by omega) (by omega) (by omega) (by omega), f1 b (by omega)]), hS, hR1.kt f2⟩
      exact J2.inv hA
  by_cases hx : x = -4
  · by_cases h0 : s.1 = 0
    · exact no (fun _ => h0)
    · obtain ⟨tC, wS⟩ := q1 hx
      have wS : WFS s := wS
      have tC : TdC c1 s := tC
      have s8 := wS.1
      have hV := WFV_st wS
      obtain ⟨d, e3, e4, e5⟩ := copyFrom_eq (c := c1) W hs.m10 hs.m4 (by omega)
      have hd10 : CM d 10 s.2.2.1 s.2.2.2 (stV s) := e4 _ _ _ hV.1 tC
      generalize hd : u2 (u2 (u2 d 0 10 0) 0 6 0) 0 8 0 = d4
      have fd : ∀ b, b ≠ 0 → (b < 2 ∨ 16 ≤ b) → d4 b = c b := fun b g1 g2 => by rw [← hd, u2_other _ _ _ g1, u2_other _ _ _ g1, u2_other _ _ _ g1, e5 b (by omega), f1 b (by omega)]
      have fd10 : ∀ b, 10 ≤ b → b < 16 → d4 b = d b := fun b g1 g2 => by rw [← hd, u2_other _ _ _ (by omega), u2_other _ _ _ (by omega), u2_other _ _ _ (by omega)]
      have fd0 : ∀ k, k ≠ 6 → k ≠ 8 → k ≠ 10 → d4 0 k = c 0 k := fun k g1 g2 g3 => by rw [← hd, u2_ne _ _ (Or.inr g2), u2_ne _ _ (Or.inr g1), u2_ne _ _ (Or.inr g3), e5 0 (by omega), f1 0 (by omega)]
      have hRd : ModR A d4 := hR.kept (sh := sh) (sh' := sh) (fun b g1 g2 => ⟨rfl, fd b (by omega) (by omega)⟩)
      obtain ⟨c2, f2, t2, e2⟩ := mhead d4 hRd
      have tM : TdM c2 s := t2 hx
      obtain ⟨c5, e6, k1, k2, k3, k4, k5, k6, k7, k8, k9⟩ := takes_eq W hS wS tM
      have hT : c1 4 2 = nI s.1 := tC.2.2.1
      have hn0 : ¬ nI s.1 = 0 := nI_ne0 (by omega) (by omega)
      have d102 : d 10 2 = nI s.1 := hd10.2.2.1
      refine ⟨nI s.1, HH sh d4 z, HH sh c5 z, ?_, ?_, ?_⟩
      · rw [ehead]
        simp only [jn0_s]
        rw [if_pos hx, HR (k := 3) W hs.1 rfl, bnd_s, HI (k := 2) W hs.m4.1 rfl, bnd_s, hT, if_neg hn0, HR (k := 4) W hs.1 rfl, bnd_s, bnd_s, e3, bnd_s, HP (k := 10) W hs.1 rfl, bnd_s, HP (k := 6) W hs.1 rfl, bnd_s, HP (k := 8) W hs.1 rfl, bnd_s, HR (k := 4) W hs.1 rfl, bnd_s, HI (k := 2) W hs.m10.1 rfl, bnd_s, hd, fd10 10 (by omega) (by omega), d102]
      · rw [e2]
        simp only [jn0_s]
        rw [if_pos hx, HR (k := 4) W hS.1 rfl, bnd_s, show (1 : Int32) = nI 1 from rfl, HL W hS.t100 (show 1 < 2 by omega) (by omega), bnd_s, tM.1, if_neg hn0, e6, bnd_s, HR (k := 4) W hS.1 rfl, bnd_s, show (0 : Int32) = nI 0 from rfl, HL W hS.t100 (show 0 < 2 by omega) (by omega), bnd_s, k1]
      · have fr : ∀ b, b < 99 ∨ b = 100 ∨ b = 105 → c5 b = d4 b := fun b q => by rw [k9 b (by omega) (by omega) (by omega) (by omega), f2.1 b (by omega) (by omega) (by omega) (by omega) (by omega)]
        obtain ⟨x1, x2, x3, x4, x5, x6, x7, ⟨σ, x8, x9, x10, x11⟩, x12⟩ := hc
        obtain ⟨r1, r2, r3, r4, r5, r6, r7, r8, r9, r10, r11⟩ := hR
        obtain ⟨w1, w2, w3, w4, w5, w6, w7, w8, w9, w10, w11⟩ := hA
        refine ⟨(asX A, asT A, s.2.2.1, s.2.2.2, stV s, asU A, 0, asK A, 0, asQ A, 0), sh, c5, z, rfl, ⟨w1, wS.2.2.1, wS.2.2.2, hV, by show 0 ≤ 8; omega, fun p hp => absurd hp (Nat.not_lt_zero p), by show 0 ≤ 2; omega, fun k hk => absurd hk (Nat.not_lt_zero k), by show 0 ≤ 10; omega, fun i hi => absurd hi (Nat.not_lt_zero i), fun i j hi => absurd hi (Nat.not_lt_zero i)⟩, ⟨y, W, hs, ⟨hb.1, by have := hb.2.1; omega, by have := hb.2.2; omega⟩, ?_, ?_, ?_, ?_, ?_, ?_, ?_, ⟨σ, x8, x9, x10, fun p hp => absurd hp (Nat.not_lt_zero p)⟩, fun k hk => absurd hk (Nat.not_lt_zero k)⟩, hS, ?_, ?_, ?_, ?_, ?_, ?_, ?_, ?_, ?_, fun k hk => absurd hk (Nat.not_lt_zero k), fun p hp => absurd hp (Nat.not_lt_zero p)⟩
        · rw [fr 1 (by omega), fd 1 (by omega) (by omega)]; exact x1
        · rw [fr 0 (by omega), fd0 1 (by omega) (by omega) (by omega)]; exact x2
        · rw [fr 0 (by omega), ← hd]; simp [u2]; rfl
        · rw [fr 0 (by omega), ← hd]; simp [u2]; rfl
        · rw [fr 0 (by omega), ← hd]; simp [u2]; rfl
        · exact fun i hi => absurd hi (Nat.not_lt_zero i)
        · exact hd10.kept (fun b g1 g2 => by rw [fr b (by omega), fd10 b (by omega) (by omega)])
        · rw [fr 100 (by omega), fd 100 (by omega) (by omega)]; exact r1
        · rw [k8 0 (by omega) (by omega) (by omega), f2.2.1 0 (by omega), fd 99 (by omega) (by omega)]; exact r2
        · exact k6
        · exact k5
        · exact k7
        · exact fun i hi => absurd hi (Nat.not_lt_zero i)
        · exact k2
        · exact k3
        · exact k4
  · exact no (fun q => absurd q hx)
end LZ
