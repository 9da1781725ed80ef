/-! ===== the start: both constructors ===== -/
section ST
variable {sh : Nat → Shp} {c : Nat → Nat → Int32} {z : Nat × Nat} {p q p' q' : Nat}
theorem HnR (W : Wz sh z) {m : Nat} (h1 : z.1 + 1 ≤ 600000) (h2 : z.2 + m ≤ 7300000) : nwR (HH sh c z) (nI m) = some (z.1, HH (uS sh z.1 (sC (aR m (fun _ => none)))) c (z.1 + 1, z.2 + m)) := by
  unfold nwR
  rw [if_neg (nI_pos (by omega)), nI_clamp (by omega), if_pos ⟨h1, Nat.le_trans h2 rmS_ge⟩]
  congr 2
  unfold hnew HH
  congr 1
  funext b
  by_cases hb : b = z.1
  · subst hb
    simp [uS, mkc]
  · simp [uS, hb]
theorem HnL (W : Wz sh z) {m : Nat} (h1 : z.1 + 1 ≤ 600000) (h2 : z.2 + m ≤ 7300000) : nwL (HH sh c z) (nI m) = some (z.1, HH (uS sh z.1 (sC (aL m (fun _ => 0)))) c (z.1 + 1, z.2 + m)) := by
  unfold nwL
  rw [if_neg (nI_pos (by omega)), nI_clamp (by omega), if_pos ⟨h1, Nat.le_trans h2 rmS_ge⟩]
  congr 2
  unfold hnew HH
  congr 1
  funext b
  by_cases hb : b = z.1
  · subst hb
    simp [uS, mkc]
  · simp [uS, hb]
theorem toO {a ci : Nat} {row : Nat → Int32} {fs : List (Option Nat)} (W : Wz sh z) (hs : sh a = sC (oB ci (fvs row 0 fs))) : ∃ sh' c', HH sh c z = HH sh' c' z ∧ Wz sh' z ∧ sh' a = sO ci fs ∧ c' a = row ∧ ∀ b, b ≠ a → sh' b = sh b ∧ c' b = c b := by
  refine ⟨uS sh a (sO ci fs), uR c a row, ?_, W.put (by rw [hs]; exact fun h => by cases h), uS_same _ _ _, uR_same _ _ _, fun b hb => ⟨uS_ne _ _ hb, uR_other _ _ hb⟩⟩
  unfold HH
  congr 1
  funext b
  by_cases hb : b = a
  · subst hb
    rw [uS_same, uR_same, hs]
    rfl
  · rw [uS_ne _ _ hb, uR_other _ _ hb]
theorem putR {a ci k r : Nat} {ws ws' : List Value} (W : Wz sh z) (hs : sh a = sC (oB ci ws)) (hk : k < ws.length) (hw : ws.set k (.ref r) = ws') : ∃ sh', pF (HH sh c z) a ci k (.ref r) = some (HH sh' c z) ∧ Wz sh' z ∧ sh' a = sC (oB ci ws') ∧ ∀ b, b ≠ a → sh' b = sh b := by
  subst hw
  exact ⟨_, HPc W hs hk, W.put (by rw [hs]; exact fun h => by cases h), uS_same _ _ _, fun b hb => uS_ne _ _ hb⟩
theorem mkRow (W : Wz sh (p, q)) {a ci k t m : Nat} {ws ws' : List Value} (x : Int32) (hx : x = nI m) (hs : sh a = sC (oB ci ws)) (hk : k < ws.length) (hw : ws.set k (.ref p) = ws') (hp : p + 1 = p') (hq : q + m = q') (h1 : p' ≤ 600000) (h2 : q' ≤ 7300000) : ∃ h1 sh' c', nwI t (HH sh c (p, q)) x = some (p, h1) ∧ pF h1 a ci k (.ref p) = some (HH sh' c' (p', q')) ∧ Wz sh' (p', q') ∧ sh' a = sC (oB ci ws') ∧ sh' p = sA t m ∧ c' p = (fun _ => 0) ∧ (∀ b, b ≠ p → b ≠ a → sh' b = sh b) ∧ ∀ b, b ≠ p → c' b = c b := by
  subst hx
  subst hw
  subst hp
  subst hq
  have ha : a < p := W.ltC hs
  have hs2 : uS sh p (sA t m) a = sC (oB ci ws) := by rw [uS_ne _ _ (by omega)]; exact hs
  have W2 : Wz (uS sh p (sA t m)) (p + 1, q + m) := Wz.new (z := (p, q)) W
  refine ⟨_, _, _, HnI (z := (p, q)) W h1 h2, HPc W2 hs2 hk, W2.put (by rw [hs2]; exact fun h => by cases h), uS_same _ _ _, ?_, uR_same _ _ _, fun b g1 g2 => ?_, fun b g1 => uR_other _ _ g1⟩
  · rw [uS_ne _ _ (by omega), uS_same]
  · rw [uS_ne _ _ g2, uS_ne _ _ g1]
theorem newO (W : Wz sh (p, q)) {ci m : Nat} {ws : List Value} (hl : ws.length = m) (hp : p + 1 = p') (hq : q + m = q') (h1 : p' ≤ 600000) (h2 : q' ≤ 7300000) : ∃ sh', nwO (HH sh c (p, q)) ci ws = some (p, HH sh' c (p', q')) ∧ Wz sh' (p', q') ∧ sh' p = sC (oB ci ws) ∧ ∀ b, b ≠ p → sh' b = sh b := by
  subst hl
  subst hp
  subst hq
  exact ⟨_, HnO (z := (p, q)) W h1 h2, Wz.new (z := (p, q)) W, uS_same _ _ _, fun b hb => uS_ne _ _ hb⟩
theorem mkX4 (W : Wz sh (p, q)) (hp : p + 2 = p') (hq : q + 6 = q') (h1 : p' ≤ 600000) (h2 : q' ≤ 7300000) : ∃ h1 sh' c', nwO (HH sh c (p, q)) 4 [.null, .int 0] = some (p, h1) ∧ f_X4_init p h1 = some (HH sh' c' (p', q')) ∧ Wz sh' (p', q') ∧ sh' p = sO 4 [some (p + 1), none] ∧ sh' (p + 1) = sA 0 4 ∧ ∀ b, b < p → sh' b = sh b ∧ c' b = c b := by
  subst hp
  subst hq
  obtain ⟨s0, e0, W0, z0, g0⟩ := newO (c := c) (ci := 4) (ws := [.null, .int 0]) (p' := p + 1) (q' := q + 2) W rfl rfl rfl (by omega) (by omega)
  obtain ⟨k1, s1, c1, e1, d1, W1, z1, r1, v1, g1, f1⟩ := mkRow (t := 0) (m := 4) (k := 0) (c := c) (p := p + 1) (q := q + 2) (p' := p + 2) (q' := q + 6) (ws' := [.ref (p + 1), .int 0]) W0 (4 : Int32) rfl z0 (by show 0 < 2; omega) rfl (by omega) (by omega) (by omega) (by omega)
  obtain ⟨s', c', eo, Wo, zo, vo, go⟩ := toO (c := c1) (row := fun _ => 0) (fs := [some (p + 1), none]) W1 z1
  refine ⟨_, s', c', e0, ?_, Wo, zo, by rw [(go (p + 1) (by omega)).1, r1], fun b hb => ⟨by rw [(go b (by omega)).1, g1 b (by omega) (by omega), g0 b (by omega)], by rw [(go b (by omega)).2, f1 b (by omega)]⟩⟩
  unfold f_X4_init
  rw [HGc W0 z0, bnd_s, e1, bnd2_s, d1, bnd_s, eo]
theorem mkX2 (W : Wz sh (p, q)) (hp : p + 6 = p') (hq : q + 62 = q') (h1 : p' ≤ 600000) (h2 : q' ≤ 7300000) : ∃ h1 sh' c', nwO (HH sh c (p, q)) 2 [.int 0, .int 0, .int 0, .null, .null, .null, .null, .null, .int 0, .int 0, .int 0, .int 0] = some (p, h1) ∧ f_X2_init p h1 = some (HH sh' c' (p', q')) ∧ Wz sh' (p', q') ∧ isM sh' p ∧ CM c' p 0 5 (stV st0) ∧ ∀ b, b < p → sh' b = sh b ∧ c' b = c b := by
  subst hp
  subst hq
  obtain ⟨s0, e0, W0, z0, g0⟩ := newO (c := c) (ci := 2) (ws := [.int 0, .int 0, .int 0, .null, .null, .null, .null, .null, .int 0, .int 0, .int 0, .int 0]) (p' := p + 1) (q' := q + 12) W rfl rfl rfl (by omega) (by omega)
  obtain ⟨k1, s1, c1, e1, d1, W1, z1, r1, v1, g1, f1⟩ := mkRow (t := 0) (m := 10) (k := 3) (c := c) (p := p + 1) (q := q + 12) (p' := p + 2) (q' := q + 22) (ws' := [.int 0, .int 0, .int 0, .ref (p + 1), .null, .null, .null, .null, .int 0, .int 0, .int 0, .int 0]) W0 (10 : Int32) rfl z0 (by show 3 < 12; omega) rfl (by omega) (by omega) (by omega) (by omega)
  obtain ⟨k2, s2, c2, e2, d2, W2, z2, r2, v2, g2, f2⟩ := mkRow (t := 0) (m := 10) (k := 4) (c := c1) (p := p + 2) (q := q + 22) (p' := p + 3) (q' := q + 32) (ws' := [.int 0, .int 0, .int 0, .ref (p + 1), .ref (p + 2), .null, .null, .null, .int 0, .int 0, .int 0, .int 0]) W1 (10 : Int32) rfl z1 (by show 4 < 12; omega) rfl (by omega) (by omega) (by omega) (by omega)
  obtain ⟨k3, s3, c3, e3, d3, W3, z3, r3, v3, g3, f3⟩ := mkRow (t := 0) (m := 10) (k := 5) (c := c2) (p := p + 3) (q := q + 32) (p' := p + 4) (q' := q + 42) (ws' := [.int 0, .int 0, .int 0, .ref (p + 1), .ref (p + 2), .ref (p + 3), .null, .null, .int 0, .int 0, .int 0, .int 0]) W2 (10 : Int32) rfl z2 (by show 5 < 12; omega) rfl (by omega) (by omega) (by omega) (by omega)
  obtain ⟨k4, s4, c4, e4, d4, W4, z4, r4, v4, g4, f4⟩ := mkRow (t := 0) (m := 10) (k := 6) (c := c3) (p := p + 4) (q := q + 42) (p' := p + 5) (q' := q + 52) (ws' := [.int 0, .int 0, .int 0, .ref (p + 1), .ref (p + 2), .ref (p + 3), .ref (p + 4), .null, .int 0, .int 0, .int 0, .int 0]) W3 (10 : Int32) rfl z3 (by show 6 < 12; omega) rfl (by omega) (by omega) (by omega) (by omega)
  obtain ⟨k5, s5, c5, e5, d5, W5, z5, r5, v5, g5, f5⟩ := mkRow (t := 0) (m := 10) (k := 7) (c := c4) (p := p + 5) (q := q + 52) (p' := p + 6) (q' := q + 62) (ws' := [.int 0, .int 0, .int 0, .ref (p + 1), .ref (p + 2), .ref (p + 3), .ref (p + 4), .ref (p + 5), .int 0, .int 0, .int 0, .int 0]) W4 (10 : Int32) rfl z4 (by show 7 < 12; omega) rfl (by omega) (by omega) (by omega) (by omega)
  obtain ⟨s', c', eo, Wo, zo, vo, go⟩ := toO (c := c5) (row := fun _ => 0) (fs := [none, none, none, some (p + 1), some (p + 2), some (p + 3), some (p + 4), some (p + 5), none, none, none, none]) W5 z5
  have hM : isM s' p := by
    refine ⟨zo, fun u hu => ?_⟩
    rcases (show u = 0 ∨ u = 1 ∨ u = 2 ∨ u = 3 ∨ u = 4 by omega) with rfl | rfl | rfl | rfl | rfl
    · show s' (p + 1) = _
      rw [(go (p + 1) (by omega)).1, g5 (p + 1) (by omega) (by omega), g4 (p + 1) (by omega) (by omega), g3 (p + 1) (by omega) (by omega), g2 (p + 1) (by omega) (by omega), r1]
    · show s' (p + 2) = _
      rw [(go (p + 2) (by omega)).1, g5 (p + 2) (by omega) (by omega), g4 (p + 2) (by omega) (by omega), g3 (p + 2) (by omega) (by omega), r2]
    · show s' (p + 3) = _
      rw [(go (p + 3) (by omega)).1, g5 (p + 3) (by omega) (by omega), g4 (p + 3) (by omega) (by omega), r3]
    · show s' (p + 4) = _
      rw [(go (p + 4) (by omega)).1, g5 (p + 4) (by omega) (by omega), r4]
    · show s' (p + 5) = _
      rw [(go (p + 5) (by omega)).1, r5]
  obtain ⟨cc, ec, tc, fc⟩ := clear_eq (c := c') Wo hM
  refine ⟨_, s', cc, e0, ?_, Wo, hM, tc, fun b hb => ⟨by rw [(go b (by omega)).1, g5 b (by omega) (by omega), g4 b (by omega) (by omega), g3 b (by omega) (by omega), g2 b (by omega) (by omega), g1 b (by omega) (by omega), g0 b (by omega)], ?_⟩⟩
  · unfold f_X2_init
    rw [HGc W0 z0, bnd_s, e1, bnd2_s, d1, bnd_s, e2, bnd2_s, d2, bnd_s, e3, bnd2_s, d3, bnd_s, e4, bnd2_s, d4, bnd_s, e5, bnd2_s, d5, bnd_s, eo, ec, bnd_s]
  · rw [fc b (by omega), (go b (by omega)).2, f5 b (by omega), f4 b (by omega), f3 b (by omega), f2 b (by omega), f1 b (by omega)]
theorem mkX0 (W : Wz sh (p, q)) (hp : p + 5 = p') (hq : q + 20 = q') (h1 : p' ≤ 600000) (h2 : q' ≤ 7300000) : ∃ h1 sh' c', nwO (HH sh c (p, q)) 0 [.null, .null, .null, .int 0, .null] = some (p, h1) ∧ f_X0_init p h1 = some (HH sh' c' (p', q')) ∧ Wz sh' (p', q') ∧ sh' p = sO 0 [some (p + 1), some (p + 2), some (p + 3), none, some (p + 4)] ∧ sh' (p + 1) = sA 0 5 ∧ sh' (p + 2) = sA 0 5 ∧ sh' (p + 3) = sA 0 5 ∧ sh' (p + 4) = sA 0 0 ∧ ∀ b, b < p → sh' b = sh b ∧ c' b = c b := by
  subst hp
  subst hq
  obtain ⟨s0, e0, W0, z0, g0⟩ := newO (c := c) (ci := 0) (ws := [.null, .null, .null, .int 0, .null]) (p' := p + 1) (q' := q + 5) W rfl rfl rfl (by omega) (by omega)
  obtain ⟨k1, s1, c1, e1, d1, W1, z1, r1, v1, g1, f1⟩ := mkRow (t := 0) (m := 5) (k := 0) (c := c) (p := p + 1) (q := q + 5) (p' := p + 2) (q' := q + 10) (ws' := [.ref (p + 1), .null, .null, .int 0, .null]) W0 (5 : Int32) rfl z0 (by show 0 < 5; omega) rfl (by omega) (by omega) (by omega) (by omega)
  obtain ⟨k2, s2, c2, e2, d2, W2, z2, r2, v2, g2, f2⟩ := mkRow (t := 0) (m := 5) (k := 1) (c := c1) (p := p + 2) (q := q + 10) (p' := p + 3) (q' := q + 15) (ws' := [.ref (p + 1), .ref (p + 2), .null, .int 0, .null]) W1 (5 : Int32) rfl z1 (by show 1 < 5; omega) rfl (by omega) (by omega) (by omega) (by omega)
  obtain ⟨k3, s3, c3, e3, d3, W3, z3, r3, v3, g3, f3⟩ := mkRow (t := 0) (m := 5) (k := 2) (c := c2) (p := p + 3) (q := q + 15) (p' := p + 4) (q' := q + 20) (ws' := [.ref (p + 1), .ref (p + 2), .ref (p + 3), .int 0, .null]) W2 (5 : Int32) rfl z2 (by show 2 < 5; omega) rfl (by omega) (by omega) (by omega) (by omega)
  obtain ⟨k4, s4, c4, e4, d4, W4, z4, r4, v4, g4, f4⟩ := mkRow (t := 0) (m := 0) (k := 4) (c := c3) (p := p + 4) (q := q + 20) (p' := p + 5) (q' := q + 20) (ws' := [.ref (p + 1), .ref (p + 2), .ref (p + 3), .int 0, .ref (p + 4)]) W3 (0 : Int32) rfl z3 (by show 4 < 5; omega) rfl (by omega) (by omega) (by omega) (by omega)
  obtain ⟨s', c', eo, Wo, zo, vo, go⟩ := toO (c := c4) (row := fun _ => 0) (fs := [some (p + 1), some (p + 2), some (p + 3), none, some (p + 4)]) W4 z4
  refine ⟨_, s', c', e0, ?_, Wo, zo, by rw [(go (p + 1) (by omega)).1, g4 (p + 1) (by omega) (by omega), g3 (p + 1) (by omega) (by omega), g2 (p + 1) (by omega) (by omega), r1], by rw [(go (p + 2) (by omega)).1, g4 (p + 2) (by omega) (by omega), g3 (p + 2) (by omega) (by omega), r2], by rw [(go (p + 3) (by omega)).1, g4 (p + 3) (by omega) (by omega), r3], by rw [(go (p + 4) (by omega)).1, r4], fun b hb => ⟨by rw [(go b (by omega)).1, g4 b (by omega) (by omega), g3 b (by omega) (by omega), g2 b (by omega) (by omega), g1 b (by omega) (by omega), g0 b (by omega)], by rw [(go b (by omega)).2, f4 b (by omega), f3 b (by omega), f2 b (by omega), f1 b (by omega)]⟩⟩
  unfold f_X0_init
  rw [HGc W0 z0, bnd_s, e1, bnd2_s, d1, bnd_s, e2, bnd2_s, d2, bnd_s, e3, bnd2_s, d3, bnd_s, e4, bnd2_s, d4, bnd_s, eo]
theorem mkX1 (W : Wz sh (p, q)) (hp : p + 9 = p') (hq : q + 63 = q') (h1 : p' ≤ 600000) (h2 : q' ≤ 7300000) : ∃ h1 sh' c', nwO (HH sh c (p, q)) 1 [.null, .null, .null, .null, .int 0, .int 0, .null, .int 0, .null, .null, .null, .int 0, .int 0] = some (p, h1) ∧ f_X1_init p h1 = some (HH sh' c' (p', q')) ∧ Wz sh' (p', q') ∧ sh' p = sO 1 [some (p + 1), some (p + 2), some (p + 3), some (p + 4), none, none, some (p + 5), none, some (p + 6), some (p + 7), some (p + 8), none, none] ∧ sh' (p + 1) = sA 0 10 ∧ sh' (p + 2) = sA 0 10 ∧ sh' (p + 3) = sA 0 10 ∧ sh' (p + 4) = sA 0 10 ∧ sh' (p + 5) = sA 0 10 ∧ sh' (p + 6) = sA 0 0 ∧ sh' (p + 7) = sA 0 0 ∧ sh' (p + 8) = sA 0 0 ∧ ∀ b, b < p → sh' b = sh b ∧ c' b = c b := by
  subst hp
  subst hq
  obtain ⟨s0, e0, W0, z0, g0⟩ := newO (c := c) (ci := 1) (ws := [.null, .null, .null, .null, .int 0, .int 0, .null, .int 0, .null, .null, .null, .int 0, .int 0]) (p' := p + 1) (q' := q + 13) W rfl rfl rfl (by omega) (by omega)
  obtain ⟨k1, s1, c1, e1, d1, W1, z1, r1, v1, g1, f1⟩ := mkRow (t := 0) (m := 10) (k := 0) (c := c) (p := p + 1) (q := q + 13) (p' := p + 2) (q' := q + 23) (ws' := [.ref (p + 1), .null, .null, .null, .int 0, .int 0, .null, .int 0, .null, .null, .null, .int 0, .int 0]) W0 (10 : Int32) rfl z0 (by show 0 < 13; omega) rfl (by omega) (by omega) (by omega) (by omega)
  obtain ⟨k2, s2, c2, e2, d2, W2, z2, r2, v2, g2, f2⟩ := mkRow (t := 0) (m := 10) (k := 1) (c := c1) (p := p + 2) (q := q + 23) (p' := p + 3) (q' := q + 33) (ws' := [.ref (p + 1), .ref (p + 2), .null, .null, .int 0, .int 0, .null, .int 0, .null, .null, .null, .int 0, .int 0]) W1 (10 : Int32) rfl z1 (by show 1 < 13; omega) rfl (by omega) (by omega) (by omega) (by omega)
  obtain ⟨k3, s3, c3, e3, d3, W3, z3, r3, v3, g3, f3⟩ := mkRow (t := 0) (m := 10) (k := 2) (c := c2) (p := p + 3) (q := q + 33) (p' := p + 4) (q' := q + 43) (ws' := [.ref (p + 1), .ref (p + 2), .ref (p + 3), .null, .int 0, .int 0, .null, .int 0, .null, .null, .null, .int 0, .int 0]) W2 (10 : Int32) rfl z2 (by show 2 < 13; omega) rfl (by omega) (by omega) (by omega) (by omega)
  obtain ⟨k4, s4, c4, e4, d4, W4, z4, r4, v4, g4, f4⟩ := mkRow (t := 0) (m := 10) (k := 3) (c := c3) (p := p + 4) (q := q + 43) (p' := p + 5) (q' := q + 53) (ws' := [.ref (p + 1), .ref (p + 2), .ref (p + 3), .ref (p + 4), .int 0, .int 0, .null, .int 0, .null, .null, .null, .int 0, .int 0]) W3 (10 : Int32) rfl z3 (by show 3 < 13; omega) rfl (by omega) (by omega) (by omega) (by omega)
  obtain ⟨k5, s5, c5, e5, d5, W5, z5, r5, v5, g5, f5⟩ := mkRow (t := 0) (m := 10) (k := 6) (c := c4) (p := p + 5) (q := q + 53) (p' := p + 6) (q' := q + 63) (ws' := [.ref (p + 1), .ref (p + 2), .ref (p + 3), .ref (p + 4), .int 0, .int 0, .ref (p + 5), .int 0, .null, .null, .null, .int 0, .int 0]) W4 (10 : Int32) rfl z4 (by show 6 < 13; omega) rfl (by omega) (by omega) (by omega) (by omega)
  obtain ⟨k6, s6, c6, e6, d6, W6, z6, r6, v6, g6, f6⟩ := mkRow (t := 0) (m := 0) (k := 8) (c := c5) (p := p + 6) (q := q + 63) (p' := p + 7) (q' := q + 63) (ws' := [.ref (p + 1), .ref (p + 2), .ref (p + 3), .ref (p + 4), .int 0, .int 0, .ref (p + 5), .int 0, .ref (p + 6), .null, .null, .int 0, .int 0]) W5 (0 : Int32) rfl z5 (by show 8 < 13; omega) rfl (by omega) (by omega) (by omega) (by omega)
  obtain ⟨k7, s7, c7, e7, d7, W7, z7, r7, v7, g7, f7⟩ := mkRow (t := 0) (m := 0) (k := 9) (c := c6) (p := p + 7) (q := q + 63) (p' := p + 8) (q' := q + 63) (ws' := [.ref (p + 1), .ref (p + 2), .ref (p + 3), .ref (p + 4), .int 0, .int 0, .ref (p + 5), .int 0, .ref (p + 6), .ref (p + 7), .null, .int 0, .int 0]) W6 (0 : Int32) rfl z6 (by show 9 < 13; omega) rfl (by omega) (by omega) (by omega) (by omega)
  obtain ⟨k8, s8, c8, e8, d8, W8, z8, r8, v8, g8, f8⟩ := mkRow (t := 0) (m := 0) (k := 10) (c := c7) (p := p + 8) (q := q + 63) (p' := p + 9) (q' := q + 63) (ws' := [.ref (p + 1), .ref (p + 2), .ref (p + 3), .ref (p + 4), .int 0, .int 0, .ref (p + 5), .int 0, .ref (p + 6), .ref (p + 7), .ref (p + 8), .int 0, .int 0]) W7 (0 : Int32) rfl z7 (by show 10 < 13; omega) rfl (by omega) (by omega) (by omega) (by omega)
  obtain ⟨s', c', eo, Wo, zo, vo, go⟩ := toO (c := c8) (row := fun _ => 0) (fs := [some (p + 1), some (p + 2), some (p + 3), some (p + 4), none, none, some (p + 5), none, some (p + 6), some (p + 7), some (p + 8), none, none]) W8 z8
  refine ⟨_, s', c', e0, ?_, Wo, zo, by rw [(go (p + 1) (by omega)).1, g8 (p + 1) (by omega) (by omega), g7 (p + 1) (by omega) (by omega), g6 (p + 1) (by omega) (by omega), g5 (p + 1) (by omega) (by omega), g4 (p + 1) (by omega) (by omega), g3 (p + 1) (by omega) (by omega), g2 (p + 1) (by omega) (by omega), r1], by rw [(go (p + 2) (by omega)).1, g8 (p + 2) (by omega) (by omega), g7 (p + 2) (by omega) (by omega), g6 (p + 2) (by omega) (by omega), g5 (p + 2) (by omega) (by omega), g4 (p + 2) (by omega) (by omega), g3 (p + 2) (by omega) (by omega), r2], by rw [(go (p + 3) (by omega)).1, g8 (p + 3) (by omega) (by omega), g7 (p + 3) (by omega) (by omega), g6 (p + 3) (by omega) (by omega), g5 (p + 3) (by omega) (by omega), g4 (p + 3) (by omega) (by omega), r3], by rw [(go (p + 4) (by omega)).1, g8 (p + 4) (by omega) (by omega), g7 (p + 4) (by omega) (by omega), g6 (p + 4) (by omega) (by omega), g5 (p + 4) (by omega) (by omega), r4], by rw [(go (p + 5) (by omega)).1, g8 (p + 5) (by omega) (by omega), g7 (p + 5) (by omega) (by omega), g6 (p + 5) (by omega) (by omega), r5], by rw [(go (p + 6) (by omega)).1, g8 (p + 6) (by omega) (by omega), g7 (p + 6) (by omega) (by omega), r6], by rw [(go (p + 7) (by omega)).1, g8 (p + 7) (by omega) (by omega), r7], by rw [(go (p + 8) (by omega)).1, r8], fun b hb => ⟨by rw [(go b (by omega)).1, g8 b (by omega) (by omega), g7 b (by omega) (by omega), g6 b (by omega) (by omega), g5 b (by omega) (by omega), g4 b (by omega) (by omega), g3 b (by omega) (by omega), g2 b (by omega) (by omega), g1 b (by omega) (by omega), g0 b (by omega)], by rw [(go b (by omega)).2, f8 b (by omega), f7 b (by omega), f6 b (by omega), f5 b (by omega), f4 b (by omega), f3 b (by omega), f2 b (by omega), f1 b (by omega)]⟩⟩
  unfold f_X1_init
  rw [HGc W0 z0, bnd_s, e1, bnd2_s, d1, bnd_s, e2, bnd2_s, d2, bnd_s, e3, bnd2_s, d3, bnd_s, e4, bnd2_s, d4, bnd_s, e5, bnd2_s, d5, bnd_s, e6, bnd2_s, d6, bnd_s, e7, bnd2_s, d7, bnd_s, e8, bnd2_s, d8, bnd_s, eo]
theorem mkX3 (W : Wz sh (p, q)) (hp : p + 4 = p') (hq : q + 39 = q') (h1 : p' ≤ 600000) (h2 : q' ≤ 7300000) : ∃ h1 sh' c', nwO (HH sh c (p, q)) 3 [.null, .null, .null, .int 0] = some (p, h1) ∧ f_X3_init p h1 = some (HH sh' c' (p', q')) ∧ Wz sh' (p', q') ∧ sh' p = sO 3 [some (p + 1), some (p + 2), some (p + 3), none] ∧ sh' (p + 1) = sA 2 25 ∧ sh' (p + 2) = sA 0 5 ∧ sh' (p + 3) = sA 0 5 ∧ ∀ b, b < p → sh' b = sh b ∧ c' b = c b := by
  subst hp
  subst hq
  obtain ⟨s0, e0, W0, z0, g0⟩ := newO (c := c) (ci := 3) (ws := [.null, .null, .null, .int 0]) (p' := p + 1) (q' := q + 4) W rfl rfl rfl (by omega) (by omega)
  obtain ⟨k1, s1, c1, e1, d1, W1, z1, r1, v1, g1, f1⟩ := mkRow (t := 2) (m := 25) (k := 0) (c := c) (p := p + 1) (q := q + 4) (p' := p + 2) (q' := q + 29) (ws' := [.ref (p + 1), .null, .null, .int 0]) W0 (25 : Int32) rfl z0 (by show 0 < 4; omega) rfl (by omega) (by omega) (by omega) (by omega)
  obtain ⟨k2, s2, c2, e2, d2, W2, z2, r2, v2, g2, f2⟩ := mkRow (t := 0) (m := 5) (k := 1) (c := c1) (p := p + 2) (q := q + 29) (p' := p + 3) (q' := q + 34) (ws' := [.ref (p + 1), .ref (p + 2), .null, .int 0]) W1 (5 : Int32) rfl z1 (by show 1 < 4; omega) rfl (by omega) (by omega) (by omega) (by omega)
  obtain ⟨k3, s3, c3, e3, d3, W3, z3, r3, v3, g3, f3⟩ := mkRow (t := 0) (m := 5) (k := 2) (c := c2) (p := p + 3) (q := q + 34) (p' := p + 4) (q' := q + 39) (ws' := [.ref (p + 1), .ref (p + 2), .ref (p + 3), .int 0]) W2 (5 : Int32) rfl z2 (by show 2 < 4; omega) rfl (by omega) (by omega) (by omega) (by omega)
  obtain ⟨s', c', eo, Wo, zo, vo, go⟩ := toO (c := c3) (row := fun _ => 0) (fs := [some (p + 1), some (p + 2), some (p + 3), none]) W3 z3
  refine ⟨_, s', c', e0, ?_, Wo, zo, by rw [(go (p + 1) (by omega)).1, g3 (p + 1) (by omega) (by omega), g2 (p + 1) (by omega) (by omega), r1], by rw [(go (p + 2) (by omega)).1, g3 (p + 2) (by omega) (by omega), r2], by rw [(go (p + 3) (by omega)).1, r3], fun b hb => ⟨by rw [(go b (by omega)).1, g3 b (by omega) (by omega), g2 b (by omega) (by omega), g1 b (by omega) (by omega), g0 b (by omega)], by rw [(go b (by omega)).2, f3 b (by omega), f2 b (by omega), f1 b (by omega)]⟩⟩
  unfold f_X3_init
  rw [HGc W0 z0, bnd_s, e1, bnd2_s, d1, bnd_s, e2, bnd2_s, d2, bnd_s, e3, bnd2_s, d3, bnd_s, eo]
theorem mkX5 (W : Wz sh (p, q)) (hp : p + 2 = p') (hq : q + 10 = q') (h1 : p' ≤ 600000) (h2 : q' ≤ 7300000) : ∃ h1 sh' c', nwO (HH sh c (p, q)) 5 [.int 0, .null, .int 0, .int 0, .int 0] = some (p, h1) ∧ f_X5_init p h1 = some (HH sh' c' (p', q')) ∧ Wz sh' (p', q') ∧ sh' p = sO 5 [none, some (p + 1), none, none, none] ∧ sh' (p + 1) = sA 0 5 ∧ ∀ b, b < p → sh' b = sh b ∧ c' b = c b := by
  subst hp
  subst hq
  obtain ⟨s0, e0, W0, z0, g0⟩ := newO (c := c) (ci := 5) (ws := [.int 0, .null, .int 0, .int 0, .int 0]) (p' := p + 1) (q' := q + 5) W rfl rfl rfl (by omega) (by omega)
  obtain ⟨k1, s1, c1, e1, d1, W1, z1, r1, v1, g1, f1⟩ := mkRow (t := 0) (m := 5) (k := 1) (c := c) (p := p + 1) (q := q + 5) (p' := p + 2) (q' := q + 10) (ws' := [.int 0, .ref (p + 1), .int 0, .int 0, .int 0]) W0 (5 : Int32) rfl z0 (by show 1 < 5; omega) rfl (by omega) (by omega) (by omega) (by omega)
  obtain ⟨s', c', eo, Wo, zo, vo, go⟩ := toO (c := c1) (row := fun _ => 0) (fs := [none, some (p + 1), none, none, none]) W1 z1
  refine ⟨_, s', c', e0, ?_, Wo, zo, by rw [(go (p + 1) (by omega)).1, r1], fun b hb => ⟨by rw [(go b (by omega)).1, g1 b (by omega) (by omega), g0 b (by omega)], by rw [(go b (by omega)).2, f1 b (by omega)]⟩⟩
  unfold f_X5_init
  rw [HGc W0 z0, bnd_s, e1, bnd2_s, d1, bnd_s, eo]
theorem HRc {a ci k r : Nat} {ws : List Value} (W : Wz sh z) (hs : sh a = sC (oB ci ws)) (hk : ws[k]? = some (.ref r)) : gR (HH sh c z) a ci k = some r := by
  unfold gR
  rw [HGc W hs, bnd_s, hk]
  simp [isR]
theorem newR (W : Wz sh (p, q)) {m : Nat} (x : Int32) (hx : x = nI m) (hp : p + 1 = p') (hq : q + m = q') (h1 : p' ≤ 600000) (h2 : q' ≤ 7300000) : ∃ sh', nwR (HH sh c (p, q)) x = some (p, HH sh' c (p', q')) ∧ Wz sh' (p', q') ∧ sh' p = sC (aR m (fun _ => none)) ∧ ∀ b, b ≠ p → sh' b = sh b := by
  subst hx
  subst hp
  subst hq
  exact ⟨_, HnR (z := (p, q)) W h1 h2, Wz.new (z := (p, q)) W, uS_same _ _ _, fun b hb => uS_ne _ _ hb⟩
theorem newL (W : Wz sh (p, q)) {m : Nat} (x : Int32) (hx : x = nI m) (hp : p + 1 = p') (hq : q + m = q') (h1 : p' ≤ 600000) (h2 : q' ≤ 7300000) : ∃ sh', nwL (HH sh c (p, q)) x = some (p, HH sh' c (p', q')) ∧ Wz sh' (p', q') ∧ sh' p = sC (aL m (fun _ => 0)) ∧ ∀ b, b ≠ p → sh' b = sh b := by
  subst hx
  subst hp
  subst hq
  exact ⟨_, HnL (z := (p, q)) W h1 h2, Wz.new (z := (p, q)) W, uS_same _ _ _, fun b hb => uS_ne _ _ hb⟩
/-- what is told at the start -/
def sg0 (k : Nat) : Nat := if k = 1 then 2 else 0
def sg1 (k : Nat) : Nat := if k = 0 then 1 else if k = 1 then 3 else if k = 2 then 1 else 0
def sg2 (k : Nat) : Nat := if k = 1 then 1 else if k = 3 then 5 else 0
def sIn : St := adS (adS (adS st0 sg0) sg1) sg2
theorem WFsIn : WFS sIn := ((WFS0.ad (g := sg0) (by decide) (by decide)).ad (g := sg1) (by decide) (by decide)).ad (g := sg2) (by decide) (by decide)
set_option maxHeartbeats 4000000 in
theorem startC : ∃ h1 sh c, nwO (fun _ => .inr (0, []), 0, 0) 6 [.null, .int 0, .null, .null, .null, .null, .int 0, .null, .int 0, .null, .int 0, .null, .null, .null, .null] = some (0, h1) ∧ f_X6_init 0 h1 = some (HH sh c (99, 1217)) ∧ Wz sh (99, 1217) ∧ SC sh ((83, 0), (90, 0), (91, 0), (92, 0)) ∧ sh 16 = sC (aR 8 (pRow (fun p => p))) ∧ c 0 = (fun _ => 0) ∧ c 1 = (fun _ => 0) ∧ CM c 10 0 5 (stV sIn) := by
  have W00 : Wz (fun _ => sN) (0, 0) := fun _ _ => rfl
  obtain ⟨s0, e0, W0, z0, g0⟩ := newO (c := fun _ _ => 0) (ci := 6) (m := 15) (ws := [.null, .int 0, .null, .null, .null, .null, .int 0, .null, .int 0, .null, .int 0, .null, .null, .null, .null]) (p' := 1) (q' := 15) W00 rfl rfl rfl (by omega) (by omega)
  have e0' : nwO (fun _ => .inr (0, []), 0, 0) 6 [.null, .int 0, .null, .null, .null, .null, .int 0, .null, .int 0, .null, .int 0, .null, .null, .null, .null] = _ := e0
  suffices hh : ∃ sh c, f_X6_init 0 (HH s0 (fun _ _ => 0) (1, 15)) = some (HH sh c (99, 1217)) ∧ Wz sh (99, 1217) ∧ SC sh ((83, 0), (90, 0), (91, 0), (92, 0)) ∧ sh 16 = sC (aR 8 (pRow (fun p => p))) ∧ c 0 = (fun _ => 0) ∧ c 1 = (fun _ => 0) ∧ CM c 10 0 5 (stV sIn) by
    obtain ⟨sh, c, h⟩ := hh
    exact ⟨_, sh, c, e0', h⟩
  unfold f_X6_init
  rw [HGc W0 z0, bnd_s]
  obtain ⟨k1, s1, c1, e1, d1, W1, z1, r1, v1, g1, f1⟩ := mkRow (t := 1) (m := 300) (k := 0) (c := (fun _ _ => 0)) (p := 1) (q := 15) (p' := 2) (q' := 315) (ws' := [.ref 1, .int 0, .null, .null, .null, .null, .int 0, .null, .int 0, .null, .int 0, .null, .null, .null, .null]) W0 (300 : Int32) rfl z0 (by show 0 < 15; omega) rfl rfl rfl (by omega) (by omega)
  rw [e1, bnd2_s, d1, bnd_s]
  obtain ⟨k2, a2, c2, e2, d2, V2, y2, y2_1, F2⟩ := mkX4 (c := c1) (p := 2) (q := 315) (p' := 4) (q' := 321) W1 rfl rfl (by omega) (by omega)
  obtain ⟨s2, x2, W2, z2, g2⟩ := putR (c := c2) (r := 2) (k := 2) (ws' := [.ref 1, .int 0, .ref 2, .null, .null, .null, .int 0, .null, .int 0, .null, .int 0, .null, .null, .null, .null]) V2 (by rw [(F2 0 (by omega)).1]; exact z1) (by show 2 < 15; omega) rfl
  rw [e2, bnd2_s, d2, bnd_s, x2, bnd_s]
  obtain ⟨k3, a3, c3, e3, d3, V3, m3, t3, F3⟩ := mkX2 (c := c2) (p := 4) (q := 321) (p' := 10) (q' := 383) W2 rfl rfl (by omega) (by omega)
  obtain ⟨s3, x3, W3, z3, g3⟩ := putR (c := c3) (r := 4) (k := 3) (ws' := [.ref 1, .int 0, .ref 2, .ref 4, .null, .null, .int 0, .null, .int 0, .null, .int 0, .null, .null, .null, .null]) V3 (by rw [(F3 0 (by omega)).1]; exact z2) (by show 3 < 15; omega) rfl
  rw [e3, bnd2_s, d3, bnd_s, x3, bnd_s]
  obtain ⟨k4, a4, c4, e4, d4, V4, m4_, t4, F4⟩ := mkX2 (c := c3) (p := 10) (q := 383) (p' := 16) (q' := 445) W3 rfl rfl (by omega) (by omega)
  obtain ⟨s4, x4, W4, z4, g4⟩ := putR (c := c4) (r := 10) (k := 4) (ws' := [.ref 1, .int 0, .ref 2, .ref 4, .ref 10, .null, .int 0, .null, .int 0, .null, .int 0, .null, .null, .null, .null]) V4 (by rw [(F4 0 (by omega)).1]; exact z3) (by show 4 < 15; omega) rfl
  rw [e4, bnd2_s, d4, bnd_s, x4, bnd_s]
  obtain ⟨a5, e5, V5, y5, F5⟩ := newR (c := c4) (m := 8) (p := 16) (q := 445) (p' := 17) (q' := 453) W4 (8 : Int32) rfl rfl rfl (by omega) (by omega)
  obtain ⟨s5, x5, W5, z5, g5⟩ := putR (c := c4) (r := 16) (k := 5) (ws' := [.ref 1, .int 0, .ref 2, .ref 4, .ref 10, .ref 16, .int 0, .null, .int 0, .null, .int 0, .null, .null, .null, .null]) V5 (by rw [F5 0 (by omega)]; exact z4) (by show 5 < 15; omega) rfl
  rw [e5, bnd2_s, x5, bnd_s]
  refine wl2_fuel (fun i x h => x = nI i ∧ ∃ sh c, h = HH sh c (17 + 6 * i, 453 + 62 * i) ∧ Wz sh (17 + 6 * i, 453 + 62 * i) ∧ sh 16 = sC (aR 8 (fun p => if p < i then some (17 + 6 * p) else none)) ∧ (∀ b, b < 16 → sh b = s5 b ∧ c b = c4 b) ∧ ∀ p, p < i → isM sh (17 + 6 * p)) 8 (by omega) (fun t => ∃ sh c, t = some (HH sh c (99, 1217)) ∧ Wz sh (99, 1217) ∧ SC sh ((83, 0), (90, 0), (91, 0), (92, 0)) ∧ sh 16 = sC (aR 8 (pRow (fun p => p))) ∧ c 0 = (fun _ => 0) ∧ c 1 = (fun _ => 0) ∧ CM c 10 0 5 (stV sIn)) ?_ _ _ ⟨rfl, s5, c4, rfl, W5, ?_, fun _ _ => ⟨rfl, rfl⟩, fun p hp => absurd hp (by omega)⟩
  rotate_left
  · rw [g5 16 (by omega), y5]
    congr 2
  intro rec16 i x h hi hx
  obtain ⟨rfl, s, c, rfl, W, y, F, M⟩ := hx
  rcases Nat.lt_or_ge i 8 with hl | hl
  · refine Or.inl ⟨hl, ?_⟩
    have z : s 0 = sC (oB 6 [.ref 1, .int 0, .ref 2, .ref 4, .ref 10, .ref 16, .int 0, .null, .int 0, .null, .int 0, .null, .null, .null, .null]) := by rw [(F 0 (by omega)).1]; exact z5
    obtain ⟨h1, s', c', e, d, W', m, -, F'⟩ := mkX2 (c := c) (p := 17 + 6 * i) (q := 453 + 62 * i) (p' := 17 + 6 * (i + 1)) (q' := 453 + 62 * (i + 1)) W (by omega) (by omega) (by omega) (by omega)
    have y' : s' 16 = sC (aR 8 (fun p => if p < i then some (17 + 6 * p) else none)) := by rw [(F' 16 (by omega)).1]; exact y
    rw [if_neg (show ¬ (8 : Int32) ≤ nI i from nI_ge (b := 8) hl (by omega)), HRc (r := 16) W z rfl, bnd_s, e, bnd2_s, d, bnd_s, HSR W' y' (HG W' m.1) hl (by omega), bnd_s, nI_1]
    have ef : va_up (fun p => if p < i then some (17 + 6 * p) else none) i (some (17 + 6 * i)) = fun p => if p < i + 1 then some (17 + 6 * p) else none := by
      funext p
      simp only [va_up]
      by_cases g : p = i
      · rw [if_pos g, if_pos (by omega), g]
      · rw [if_neg g]
        by_cases g2 : p < i
        · rw [if_pos g2, if_pos (by omega)]
        · rw [if_neg g2, if_neg (by omega)]
    rw [ef]
    refine ⟨_, _, ⟨rfl, _, _, rfl, W'.put (by rw [y']; exact fun h => by cases h), uS_same _ _ _, fun b hb => ?_, fun p hp => ?_⟩, rfl⟩
    · rw [uS_ne _ _ (by omega), (F' b (by omega)).1, (F' b (by omega)).2]
      exact F b hb
    · by_cases g : p = i
      · rw [g]
        exact m.kept (fun b g1 g2 => uS_ne _ _ (by omega))
      · exact (M p (by omega)).kept (fun b g1 g2 => by rw [uS_ne _ _ (by omega), (F' b (by omega)).1])
  · refine Or.inr ?_
    have ei : i = 8 := by omega
    subst ei
    rw [if_pos (show (8 : Int32) ≤ nI 8 from by decide)]
    have z6 : s 0 = sC (oB 6 [.ref 1, .int 0, .ref 2, .ref 4, .ref 10, .ref 16, .int 0, .null, .int 0, .null, .int 0, .null, .null, .null, .null]) := by rw [(F 0 (by omega)).1]; exact z5
    have W6 : Wz s (65, 949) := W
    have y6 : s 16 = sC (aR 8 (pRow (fun p => p))) := y
    have F6 : ∀ b, b < 16 → s b = s5 b ∧ c b = c4 b := F
    have M6 : ∀ p, p < 8 → isM s (17 + 6 * p) := M
    clear W y F M
    generalize s = s6 at *
    generalize c = c6 at *
    show ∃ sh c, (bnd2 (nwR (HH s6 c6 (65, 949)) (2 : Int32)) fun a23 h24 => _) = _ ∧ _
    obtain ⟨a7, e7, V7, y7, F7⟩ := newR (c := c6) (m := 2) (p := 65) (q := 949) (p' := 66) (q' := 951) W6 (2 : Int32) rfl rfl rfl (by omega) (by omega)
    obtain ⟨s7, x7, W7, z7, g7⟩ := putR (c := c6) (r := 65) (k := 7) (ws' := [.ref 1, .int 0, .ref 2, .ref 4, .ref 10, .ref 16, .int 0, .ref 65, .int 0, .null, .int 0, .null, .null, .null, .null]) V7 (by rw [F7 0 (by omega)]; exact z6) (by show 7 < 15; omega) rfl
    rw [e7, bnd2_s, x7, bnd_s]
    refine wl2_fuel (fun i x h => x = nI i ∧ ∃ sh c, h = HH sh c (66 + 6 * i, 951 + 62 * i) ∧ Wz sh (66 + 6 * i, 951 + 62 * i) ∧ sh 65 = sC (aR 2 (fun p => if p < i then some (66 + 6 * p) else none)) ∧ (∀ b, b < 65 → sh b = s7 b ∧ c b = c6 b) ∧ ∀ p, p < i → isM sh (66 + 6 * p)) 2 (by omega) (fun t => ∃ sh c, t = some (HH sh c (99, 1217)) ∧ Wz sh (99, 1217) ∧ SC sh ((83, 0), (90, 0), (91, 0), (92, 0)) ∧ sh 16 = sC (aR 8 (pRow (fun p => p))) ∧ c 0 = (fun _ => 0) ∧ c 1 = (fun _ => 0) ∧ CM c 10 0 5 (stV sIn)) ?_ _ _ ⟨rfl, s7, c6, rfl, W7, ?_, fun _ _ => ⟨rfl, rfl⟩, fun p hp => absurd hp (by omega)⟩
    rotate_left
    · rw [g7 65 (by omega), y7]
      congr 2
    intro rec65 i x h hi hx
    obtain ⟨rfl, s, c, rfl, W, y, F, M⟩ := hx
    rcases Nat.lt_or_ge i 2 with hl | hl
    · refine Or.inl ⟨hl, ?_⟩
      have z : s 0 = sC (oB 6 [.ref 1, .int 0, .ref 2, .ref 4, .ref 10, .ref 16, .int 0, .ref 65, .int 0, .null, .int 0, .null, .null, .null, .null]) := by rw [(F 0 (by omega)).1]; exact z7
      obtain ⟨h1, s', c', e, d, W', m, -, F'⟩ := mkX2 (c := c) (p := 66 + 6 * i) (q := 951 + 62 * i) (p' := 66 + 6 * (i + 1)) (q' := 951 + 62 * (i + 1)) W (by omega) (by omega) (by omega) (by omega)
      have y' : s' 65 = sC (aR 2 (fun p => if p < i then some (66 + 6 * p) else none)) := by rw [(F' 65 (by omega)).1]; exact y
      rw [if_neg (show ¬ (2 : Int32) ≤ nI i from nI_ge (b := 2) hl (by omega)), HRc (r := 65) W z rfl, bnd_s, e, bnd2_s, d, bnd_s, HSR W' y' (HG W' m.1) hl (by omega), bnd_s, nI_1]
      have ef : va_up (fun p => if p < i then some (66 + 6 * p) else none) i (some (66 + 6 * i)) = fun p => if p < i + 1 then some (66 + 6 * p) else none := by
        funext p
        simp only [va_up]
        by_cases g : p = i
        · rw [if_pos g, if_pos (by omega), g]
        · rw [if_neg g]
          by_cases g2 : p < i
          · rw [if_pos g2, if_pos (by omega)]
          · rw [if_neg g2, if_neg (by omega)]
      rw [ef]
      refine ⟨_, _, ⟨rfl, _, _, rfl, W'.put (by rw [y']; exact fun h => by cases h), uS_same _ _ _, fun b hb => ?_, fun p hp => ?_⟩, rfl⟩
      · rw [uS_ne _ _ (by omega), (F' b (by omega)).1, (F' b (by omega)).2]
        exact F b hb
      · by_cases g : p = i
        · rw [g]
          exact m.kept (fun b g1 g2 => uS_ne _ _ (by omega))
        · exact (M p (by omega)).kept (fun b g1 g2 => by rw [uS_ne _ _ (by omega), (F' b (by omega)).1])
    · refine Or.inr ?_
      have ei : i = 2 := by omega
      subst ei
      rw [if_pos (show (2 : Int32) ≤ nI 2 from by decide)]
      have z8 : s 0 = sC (oB 6 [.ref 1, .int 0, .ref 2, .ref 4, .ref 10, .ref 16, .int 0, .ref 65, .int 0, .null, .int 0, .null, .null, .null, .null]) := by rw [(F 0 (by omega)).1]; exact z7
      have W8 : Wz s (78, 1075) := W
      have y8 : s 65 = sC (aR 2 (fun k => if k = 0 then some 66 else if k = 1 then some 72 else none)) := by
        rw [y]
        congr 2
        funext p
        by_cases g : p = 0
        · rw [if_pos (by omega), if_pos g, g]
        · rw [if_neg g]
          by_cases g2 : p = 1
          · rw [if_pos (by omega), if_pos g2, g2]
          · rw [if_neg (by omega), if_neg g2]
      have F8 : ∀ b, b < 65 → s b = s7 b ∧ c b = c6 b := F
      have M8 : ∀ p, p < 2 → isM s (66 + 6 * p) := M
      clear W y F M
      generalize s = s8 at *
      generalize c = c8 at *
      show ∃ sh c, (bnd2 (nwI 0 (HH s8 c8 (78, 1075)) (10 : Int32)) fun a30 h31 => _) = _ ∧ _
      obtain ⟨k9, s9, c9, e9, d9, W9, z9, r9, v9, g9, f9⟩ := mkRow (t := 0) (m := 10) (k := 9) (c := c8) (p := 78) (q := 1075) (p' := 79) (q' := 1085) (ws' := [.ref 1, .int 0, .ref 2, .ref 4, .ref 10, .ref 16, .int 0, .ref 65, .int 0, .ref 78, .int 0, .null, .null, .null, .null]) W8 (10 : Int32) rfl z8 (by show 9 < 15; omega) rfl rfl rfl (by omega) (by omega)
      rw [e9, bnd2_s, d9, bnd_s]
      obtain ⟨k10, a10, c10, e10, d10, V10, y10, y10_1, y10_2, y10_3, y10_4, F10⟩ := mkX0 (c := c9) (p := 79) (q := 1085) (p' := 84) (q' := 1105) W9 rfl rfl (by omega) (by omega)
      obtain ⟨s10, x10, W10, z10, g10⟩ := putR (c := c10) (r := 79) (k := 11) (ws' := [.ref 1, .int 0, .ref 2, .ref 4, .ref 10, .ref 16, .int 0, .ref 65, .int 0, .ref 78, .int 0, .ref 79, .null, .null, .null]) V10 (by rw [(F10 0 (by omega)).1]; exact z9) (by show 11 < 15; omega) rfl
      rw [e10, bnd2_s, d10, bnd_s, x10, bnd_s]
      obtain ⟨k11, a11, c11, e11, d11, V11, y11, y11_1, y11_2, y11_3, y11_4, y11_5, y11_6, y11_7, y11_8, F11⟩ := mkX1 (c := c10) (p := 84) (q := 1105) (p' := 93) (q' := 1168) W10 rfl rfl (by omega) (by omega)
      obtain ⟨s11, x11, W11, z11, g11⟩ := putR (c := c11) (r := 84) (k := 12) (ws' := [.ref 1, .int 0, .ref 2, .ref 4, .ref 10, .ref 16, .int 0, .ref 65, .int 0, .ref 78, .int 0, .ref 79, .ref 84, .null, .null]) V11 (by rw [(F11 0 (by omega)).1]; exact z10) (by show 12 < 15; omega) rfl
      rw [e11, bnd2_s, d11, bnd_s, x11, bnd_s]
      obtain ⟨k12, a12, c12, e12, d12, V12, y12, y12_1, y12_2, y12_3, F12⟩ := mkX3 (c := c11) (p := 93) (q := 1168) (p' := 97) (q' := 1207) W11 rfl rfl (by omega) (by omega)
      obtain ⟨s12, x12, W12, z12, g12⟩ := putR (c := c12) (r := 93) (k := 13) (ws' := [.ref 1, .int 0, .ref 2, .ref 4, .ref 10, .ref 16, .int 0, .ref 65, .int 0, .ref 78, .int 0, .ref 79, .ref 84, .ref 93, .null]) V12 (by rw [(F12 0 (by omega)).1]; exact z11) (by show 13 < 15; omega) rfl
      rw [e12, bnd2_s, d12, bnd_s, x12, bnd_s]
      obtain ⟨k13, a13, c13, e13, d13, V13, y13, y13_1, F13⟩ := mkX5 (c := c12) (p := 97) (q := 1207) (p' := 99) (q' := 1217) W12 rfl rfl (by omega) (by omega)
      obtain ⟨s13, x13, W13, z13, g13⟩ := putR (c := c13) (r := 97) (k := 14) (ws' := [.ref 1, .int 0, .ref 2, .ref 4, .ref 10, .ref 16, .int 0, .ref 65, .int 0, .ref 78, .int 0, .ref 79, .ref 84, .ref 93, .ref 97]) V13 (by rw [(F13 0 (by omega)).1]; exact z12) (by show 14 < 15; omega) rfl
      rw [e13, bnd2_s, d13, bnd_s, x13, bnd_s]
      obtain ⟨s14, c14, x14, W14, z14, v14, g14⟩ := toO (c := c13) (row := fun _ => 0) (fs := [some 1, none, some 2, some 4, some 10, some 16, none, some 65, none, some 78, none, some 79, some 84, some 93, some 97]) W13 z13
      rw [x14]
      have m4 : isM s14 4 := m3.kept (fun b g1 g2 => by rw [(g14 b (by omega)).1, g13 b (by omega), (F13 b (by omega)).1, g12 b (by omega), (F12 b (by omega)).1, g11 b (by omega), (F11 b (by omega)).1, g10 b (by omega), (F10 b (by omega)).1, g9 b (by omega) (by omega), (F8 b (by omega)).1, g7 b (by omega), F7 b (by omega), (F6 b (by omega)).1, g5 b (by omega), F5 b (by omega), g4 b (by omega), (F4 b (by omega)).1, g3 b (by omega)])
      have m10 : isM s14 10 := m4_.kept (fun b g1 g2 => by rw [(g14 b (by omega)).1, g13 b (by omega), (F13 b (by omega)).1, g12 b (by omega), (F12 b (by omega)).1, g11 b (by omega), (F11 b (by omega)).1, g10 b (by omega), (F10 b (by omega)).1, g9 b (by omega) (by omega), (F8 b (by omega)).1, g7 b (by omega), F7 b (by omega), (F6 b (by omega)).1, g5 b (by omega), F5 b (by omega), g4 b (by omega)])
      have mP : ∀ q, q < 8 → isM s14 (17 + 6 * q) := fun q hq => (M6 q hq).kept (fun b g1 g2 => by rw [(g14 b (by omega)).1, g13 b (by omega), (F13 b (by omega)).1, g12 b (by omega), (F12 b (by omega)).1, g11 b (by omega), (F11 b (by omega)).1, g10 b (by omega), (F10 b (by omega)).1, g9 b (by omega) (by omega), (F8 b (by omega)).1, g7 b (by omega), F7 b (by omega)])
      have mK : ∀ q, q < 2 → isM s14 (66 + 6 * q) := fun q hq => (M8 q hq).kept (fun b g1 g2 => by rw [(g14 b (by omega)).1, g13 b (by omega), (F13 b (by omega)).1, g12 b (by omega), (F12 b (by omega)).1, g11 b (by omega), (F11 b (by omega)).1, g10 b (by omega), (F10 b (by omega)).1, g9 b (by omega) (by omega)])
      have t10 : CM c14 10 0 5 (stV st0) := t4.kept (fun b g1 g2 => by rw [(g14 b (by omega)).2, (F13 b (by omega)).2, (F12 b (by omega)).2, (F11 b (by omega)).2, (F10 b (by omega)).2, f9 b (by omega), (F8 b (by omega)).2, (F6 b (by omega)).2])
      obtain ⟨ca, ea, ta, fa⟩ := add_eq W14 m10 t10 (show (0 : Nat) < 10 by omega) sg0
      obtain ⟨cb, eb, tb, fb⟩ := add_eq W14 m10 ta (show (1 : Nat) < 10 by omega) sg1
      obtain ⟨cd, ed, td, fd⟩ := add_eq W14 m10 tb (show (2 : Nat) < 10 by omega) sg2
      rw [HR (k := 4) W14 z14 rfl, bnd_s, show f_X2_add 10 (0 : Int32) (2 : Int32) (0 : Int32) (0 : Int32) (HH s14 c14 (99, 1217)) = _ from ea, bnd_s, HR (k := 4) W14 z14 rfl, bnd_s, show f_X2_add 10 (1 : Int32) (3 : Int32) (1 : Int32) (0 : Int32) (HH s14 ca (99, 1217)) = _ from eb, bnd_s, HR (k := 4) W14 z14 rfl, bnd_s, show f_X2_add 10 (0 : Int32) (1 : Int32) (0 : Int32) (5 : Int32) (HH s14 cb (99, 1217)) = _ from ed, bnd_s]
      refine ⟨s14, cd, rfl, W14, ⟨z14, ?_, ?_, ?_, fun a ha => ?_, ?_, ?_, ?_, ?_, ?_, ?_, ?_, ?_, ?_, ?_, ?_, ?_, ?_, ?_, ?_, ?_, ?_, ?_, ⟨?_, ?_, ?_, ?_, by decide, by decide, by decide, by decide, by decide, by decide, by decide, by decide, by decide, by decide, by decide, by decide, by decide, by decide⟩⟩, ?_, ?_, ?_, td⟩
      · rw [(g14 1 (by omega)).1, g13 1 (by omega), (F13 1 (by omega)).1, g12 1 (by omega), (F12 1 (by omega)).1, g11 1 (by omega), (F11 1 (by omega)).1, g10 1 (by omega), (F10 1 (by omega)).1, g9 1 (by omega) (by omega), (F8 1 (by omega)).1, g7 1 (by omega), F7 1 (by omega), (F6 1 (by omega)).1, g5 1 (by omega), F5 1 (by omega), g4 1 (by omega), (F4 1 (by omega)).1, g3 1 (by omega), (F3 1 (by omega)).1, g2 1 (by omega), (F2 1 (by omega)).1]
        exact r1
      · rw [(g14 2 (by omega)).1, g13 2 (by omega), (F13 2 (by omega)).1, g12 2 (by omega), (F12 2 (by omega)).1, g11 2 (by omega), (F11 2 (by omega)).1, g10 2 (by omega), (F10 2 (by omega)).1, g9 2 (by omega) (by omega), (F8 2 (by omega)).1, g7 2 (by omega), F7 2 (by omega), (F6 2 (by omega)).1, g5 2 (by omega), F5 2 (by omega), g4 2 (by omega), (F4 2 (by omega)).1, g3 2 (by omega), (F3 2 (by omega)).1, g2 2 (by omega)]
        exact y2
      · rw [(g14 3 (by omega)).1, g13 3 (by omega), (F13 3 (by omega)).1, g12 3 (by omega), (F12 3 (by omega)).1, g11 3 (by omega), (F11 3 (by omega)).1, g10 3 (by omega), (F10 3 (by omega)).1, g9 3 (by omega) (by omega), (F8 3 (by omega)).1, g7 3 (by omega), F7 3 (by omega), (F6 3 (by omega)).1, g5 3 (by omega), F5 3 (by omega), g4 3 (by omega), (F4 3 (by omega)).1, g3 3 (by omega), (F3 3 (by omega)).1, g2 3 (by omega)]
        exact y2_1
      · rcases ha with rfl | rfl | rfl | rfl | ⟨q, h1, rfl⟩
        · exact m4
        · exact m10
        · exact mK 0 (by omega)
        · exact mK 1 (by omega)
        · exact mP q h1
      · rw [(g14 65 (by omega)).1, g13 65 (by omega), (F13 65 (by omega)).1, g12 65 (by omega), (F12 65 (by omega)).1, g11 65 (by omega), (F11 65 (by omega)).1, g10 65 (by omega), (F10 65 (by omega)).1, g9 65 (by omega) (by omega)]
        exact y8
      · rw [(g14 78 (by omega)).1, g13 78 (by omega), (F13 78 (by omega)).1, g12 78 (by omega), (F12 78 (by omega)).1, g11 78 (by omega), (F11 78 (by omega)).1, g10 78 (by omega), (F10 78 (by omega)).1]
        exact r9
      · rw [(g14 79 (by omega)).1, g13 79 (by omega), (F13 79 (by omega)).1, g12 79 (by omega), (F12 79 (by omega)).1, g11 79 (by omega), (F11 79 (by omega)).1, g10 79 (by omega)]
        exact y10
      · rw [(g14 80 (by omega)).1, g13 80 (by omega), (F13 80 (by omega)).1, g12 80 (by omega), (F12 80 (by omega)).1, g11 80 (by omega), (F11 80 (by omega)).1, g10 80 (by omega)]
        exact y10_1
      · rw [(g14 81 (by omega)).1, g13 81 (by omega), (F13 81 (by omega)).1, g12 81 (by omega), (F12 81 (by omega)).1, g11 81 (by omega), (F11 81 (by omega)).1, g10 81 (by omega)]
        exact y10_2
      · rw [(g14 82 (by omega)).1, g13 82 (by omega), (F13 82 (by omega)).1, g12 82 (by omega), (F12 82 (by omega)).1, g11 82 (by omega), (F11 82 (by omega)).1, g10 82 (by omega)]
        exact y10_3
      · rw [(g14 84 (by omega)).1, g13 84 (by omega), (F13 84 (by omega)).1, g12 84 (by omega), (F12 84 (by omega)).1, g11 84 (by omega)]
        exact y11
      · rw [(g14 85 (by omega)).1, g13 85 (by omega), (F13 85 (by omega)).1, g12 85 (by omega), (F12 85 (by omega)).1, g11 85 (by omega)]
        exact y11_1
      · rw [(g14 86 (by omega)).1, g13 86 (by omega), (F13 86 (by omega)).1, g12 86 (by omega), (F12 86 (by omega)).1, g11 86 (by omega)]
        exact y11_2
      · rw [(g14 87 (by omega)).1, g13 87 (by omega), (F13 87 (by omega)).1, g12 87 (by omega), (F12 87 (by omega)).1, g11 87 (by omega)]
        exact y11_3
      · rw [(g14 88 (by omega)).1, g13 88 (by omega), (F13 88 (by omega)).1, g12 88 (by omega), (F12 88 (by omega)).1, g11 88 (by omega)]
        exact y11_4
      · rw [(g14 89 (by omega)).1, g13 89 (by omega), (F13 89 (by omega)).1, g12 89 (by omega), (F12 89 (by omega)).1, g11 89 (by omega)]
        exact y11_5
      · rw [(g14 93 (by omega)).1, g13 93 (by omega), (F13 93 (by omega)).1, g12 93 (by omega)]
        exact y12
      · rw [(g14 94 (by omega)).1, g13 94 (by omega), (F13 94 (by omega)).1, g12 94 (by omega)]
        exact y12_1
      · rw [(g14 95 (by omega)).1, g13 95 (by omega), (F13 95 (by omega)).1, g12 95 (by omega)]
        exact y12_2
      · rw [(g14 96 (by omega)).1, g13 96 (by omega), (F13 96 (by omega)).1, g12 96 (by omega)]
        exact y12_3
      · rw [(g14 97 (by omega)).1, g13 97 (by omega)]
        exact y13
      · rw [(g14 98 (by omega)).1, g13 98 (by omega)]
        exact y13_1
      · rw [(g14 83 (by omega)).1, g13 83 (by omega), (F13 83 (by omega)).1, g12 83 (by omega), (F12 83 (by omega)).1, g11 83 (by omega), (F11 83 (by omega)).1, g10 83 (by omega)]
        exact y10_4
      · rw [(g14 90 (by omega)).1, g13 90 (by omega), (F13 90 (by omega)).1, g12 90 (by omega), (F12 90 (by omega)).1, g11 90 (by omega)]
        exact y11_6
      · rw [(g14 91 (by omega)).1, g13 91 (by omega), (F13 91 (by omega)).1, g12 91 (by omega), (F12 91 (by omega)).1, g11 91 (by omega)]
        exact y11_7
      · rw [(g14 92 (by omega)).1, g13 92 (by omega), (F13 92 (by omega)).1, g12 92 (by omega), (F12 92 (by omega)).1, g11 92 (by omega)]
        exact y11_8
      · rw [(g14 16 (by omega)).1, g13 16 (by omega), (F13 16 (by omega)).1, g12 16 (by omega), (F12 16 (by omega)).1, g11 16 (by omega), (F11 16 (by omega)).1, g10 16 (by omega), (F10 16 (by omega)).1, g9 16 (by omega) (by omega), (F8 16 (by omega)).1, g7 16 (by omega), F7 16 (by omega)]
        exact y6
      · rw [fd 0 (by omega), fb 0 (by omega), fa 0 (by omega), v14]
      · rw [fd 1 (by omega), fb 1 (by omega), fa 1 (by omega), (g14 1 (by omega)).2, (F13 1 (by omega)).2, (F12 1 (by omega)).2, (F11 1 (by omega)).2, (F10 1 (by omega)).2, f9 1 (by omega), (F8 1 (by omega)).2, (F6 1 (by omega)).2, (F4 1 (by omega)).2, (F3 1 (by omega)).2, (F2 1 (by omega)).2, v1]
set_option maxHeartbeats 4000000 in
theorem startM (W : Wz sh (99, 1217)) : ∃ h3 sh' c', nwO (HH sh c (99, 1217)) 7 [.int 0, .null, .int 0, .null, .null, .null, .null, .int 0, .int 0, .int 0, .null, .null, .null, .null, .null, .int 0, .null, .null, .null, .null, .null, .null, .int 0, .int 0] = some (99, h3) ∧ f_X7_init 99 h3 = some (HH sh' c' (116, 55540)) ∧ Wz sh' (116, 55540) ∧ SMo sh' ∧ c' 100 = (fun _ => 0) ∧ c' 99 0 = 0 ∧ c' 99 7 = 0 ∧ c' 99 8 = 0 ∧ c' 99 9 = 0 ∧ c' 101 0 = nI 0 ∧ c' 101 1 = nI 5 ∧ SlM (c' 104) 0 (stV sIn) ∧ ∀ b, b < 99 → sh' b = sh b ∧ c' b = c b := by
  obtain ⟨s0, e0, W0, z0, g0⟩ := newO (c := c) (ci := 7) (m := 24) (ws := [.int 0, .null, .int 0, .null, .null, .null, .null, .int 0, .int 0, .int 0, .null, .null, .null, .null, .null, .int 0, .null, .null, .null, .null, .null, .null, .int 0, .int 0]) (p' := 100) (q' := 1241) W rfl rfl rfl (by omega) (by omega)
  obtain ⟨k1, s1, c1, e1, d1, W1, z1, r1, v1, g1, f1⟩ := mkRow (t := 1) (m := 300) (k := 1) (c := c) (p := 100) (q := 1241) (p' := 101) (q' := 1541) (ws' := [.int 0, .ref 100, .int 0, .null, .null, .null, .null, .int 0, .int 0, .int 0, .null, .null, .null, .null, .null, .int 0, .null, .null, .null, .null, .null, .null, .int 0, .int 0]) W0 (300 : Int32) rfl z0 (by show 1 < 24; omega) rfl rfl rfl (by omega) (by omega)
  obtain ⟨k2, s2, c2, e2, d2, W2, z2, r2, v2, g2, f2⟩ := mkRow (t := 0) (m := 4) (k := 3) (c := c1) (p := 101) (q := 1541) (p' := 102) (q' := 1545) (ws' := [.int 0, .ref 100, .int 0, .ref 101, .null, .null, .null, .int 0, .int 0, .int 0, .null, .null, .null, .null, .null, .int 0, .null, .null, .null, .null, .null, .null, .int 0, .int 0]) W1 (4 : Int32) rfl z1 (by show 3 < 24; omega) rfl rfl rfl (by omega) (by omega)
  obtain ⟨k3, s3, c3, e3, d3, W3, z3, r3, v3, g3, f3⟩ := mkRow (t := 0) (m := 2) (k := 4) (c := c2) (p := 102) (q := 1545) (p' := 103) (q' := 1547) (ws' := [.int 0, .ref 100, .int 0, .ref 101, .ref 102, .null, .null, .int 0, .int 0, .int 0, .null, .null, .null, .null, .null, .int 0, .null, .null, .null, .null, .null, .null, .int 0, .int 0]) W2 (2 : Int32) rfl z2 (by show 4 < 24; omega) rfl rfl rfl (by omega) (by omega)
  obtain ⟨k4, s4, c4, e4, d4, W4, z4, r4, v4, g4, f4⟩ := mkRow (t := 0) (m := 32) (k := 5) (c := c3) (p := 103) (q := 1547) (p' := 104) (q' := 1579) (ws' := [.int 0, .ref 100, .int 0, .ref 101, .ref 102, .ref 103, .null, .int 0, .int 0, .int 0, .null, .null, .null, .null, .null, .int 0, .null, .null, .null, .null, .null, .null, .int 0, .int 0]) W3 (32 : Int32) rfl z3 (by show 5 < 24; omega) rfl rfl rfl (by omega) (by omega)
  obtain ⟨k5, s5, c5, e5, d5, W5, z5, r5, v5, g5, f5⟩ := mkRow (t := 0) (m := 605) (k := 6) (c := c4) (p := 104) (q := 1579) (p' := 105) (q' := 2184) (ws' := [.int 0, .ref 100, .int 0, .ref 101, .ref 102, .ref 103, .ref 104, .int 0, .int 0, .int 0, .null, .null, .null, .null, .null, .int 0, .null, .null, .null, .null, .null, .null, .int 0, .int 0]) W4 (605 : Int32) rfl z4 (by show 6 < 24; omega) rfl rfl rfl (by omega) (by omega)
  obtain ⟨k6, s6, c6, e6, d6, W6, z6, r6, v6, g6, f6⟩ := mkRow (t := 0) (m := 10) (k := 10) (c := c5) (p := 105) (q := 2184) (p' := 106) (q' := 2194) (ws' := [.int 0, .ref 100, .int 0, .ref 101, .ref 102, .ref 103, .ref 104, .int 0, .int 0, .int 0, .ref 105, .null, .null, .null, .null, .int 0, .null, .null, .null, .null, .null, .null, .int 0, .int 0]) W5 (10 : Int32) rfl z5 (by show 10 < 24; omega) rfl rfl rfl (by omega) (by omega)
  obtain ⟨k7, s7, c7, e7, d7, W7, z7, r7, v7, g7, f7⟩ := mkRow (t := 0) (m := 36864) (k := 11) (c := c6) (p := 106) (q := 2194) (p' := 107) (q' := 39058) (ws' := [.int 0, .ref 100, .int 0, .ref 101, .ref 102, .ref 103, .ref 104, .int 0, .int 0, .int 0, .ref 105, .ref 106, .null, .null, .null, .int 0, .null, .null, .null, .null, .null, .null, .int 0, .int 0]) W6 (36864 : Int32) rfl z6 (by show 11 < 24; omega) rfl rfl rfl (by omega) (by omega)
  obtain ⟨k8, s8, c8, e8, d8, W8, z8, r8, v8, g8, f8⟩ := mkRow (t := 0) (m := 1024) (k := 12) (c := c7) (p := 107) (q := 39058) (p' := 108) (q' := 40082) (ws' := [.int 0, .ref 100, .int 0, .ref 101, .ref 102, .ref 103, .ref 104, .int 0, .int 0, .int 0, .ref 105, .ref 106, .ref 107, .null, .null, .int 0, .null, .null, .null, .null, .null, .null, .int 0, .int 0]) W7 (1024 : Int32) rfl z7 (by show 12 < 24; omega) rfl rfl rfl (by omega) (by omega)
  obtain ⟨k9, s9, c9, e9, d9, W9, z9, r9, v9, g9, f9⟩ := mkRow (t := 0) (m := 1024) (k := 13) (c := c8) (p := 108) (q := 40082) (p' := 109) (q' := 41106) (ws' := [.int 0, .ref 100, .int 0, .ref 101, .ref 102, .ref 103, .ref 104, .int 0, .int 0, .int 0, .ref 105, .ref 106, .ref 107, .ref 108, .null, .int 0, .null, .null, .null, .null, .null, .null, .int 0, .int 0]) W8 (1024 : Int32) rfl z8 (by show 13 < 24; omega) rfl rfl rfl (by omega) (by omega)
  obtain ⟨k10, s10, c10, e10, d10, W10, z10, r10, v10, g10, f10⟩ := mkRow (t := 0) (m := 10) (k := 14) (c := c9) (p := 109) (q := 41106) (p' := 110) (q' := 41116) (ws' := [.int 0, .ref 100, .int 0, .ref 101, .ref 102, .ref 103, .ref 104, .int 0, .int 0, .int 0, .ref 105, .ref 106, .ref 107, .ref 108, .ref 109, .int 0, .null, .null, .null, .null, .null, .null, .int 0, .int 0]) W9 (10 : Int32) rfl z9 (by show 14 < 24; omega) rfl rfl rfl (by omega) (by omega)
  obtain ⟨k11, s11, c11, e11, d11, W11, z11, r11, v11, g11, f11⟩ := mkRow (t := 0) (m := 5) (k := 16) (c := c10) (p := 110) (q := 41116) (p' := 111) (q' := 41121) (ws' := [.int 0, .ref 100, .int 0, .ref 101, .ref 102, .ref 103, .ref 104, .int 0, .int 0, .int 0, .ref 105, .ref 106, .ref 107, .ref 108, .ref 109, .int 0, .ref 110, .null, .null, .null, .null, .null, .int 0, .int 0]) W10 (5 : Int32) rfl z10 (by show 16 < 24; omega) rfl rfl rfl (by omega) (by omega)
  obtain ⟨k12, s12, c12, e12, d12, W12, z12, r12, v12, g12, f12⟩ := mkRow (t := 0) (m := 5) (k := 17) (c := c11) (p := 111) (q := 41121) (p' := 112) (q' := 41126) (ws' := [.int 0, .ref 100, .int 0, .ref 101, .ref 102, .ref 103, .ref 104, .int 0, .int 0, .int 0, .ref 105, .ref 106, .ref 107, .ref 108, .ref 109, .int 0, .ref 110, .ref 111, .null, .null, .null, .null, .int 0, .int 0]) W11 (5 : Int32) rfl z11 (by show 17 < 24; omega) rfl rfl rfl (by omega) (by omega)
  obtain ⟨k13, s13, c13, e13, d13, W13, z13, r13, v13, g13, f13⟩ := mkRow (t := 0) (m := 5) (k := 18) (c := c12) (p := 112) (q := 41126) (p' := 113) (q' := 41131) (ws' := [.int 0, .ref 100, .int 0, .ref 101, .ref 102, .ref 103, .ref 104, .int 0, .int 0, .int 0, .ref 105, .ref 106, .ref 107, .ref 108, .ref 109, .int 0, .ref 110, .ref 111, .ref 112, .null, .null, .null, .int 0, .int 0]) W12 (5 : Int32) rfl z12 (by show 18 < 24; omega) rfl rfl rfl (by omega) (by omega)
  obtain ⟨k14, s14, c14, e14, d14, W14, z14, r14, v14, g14, f14⟩ := mkRow (t := 0) (m := 5) (k := 19) (c := c13) (p := 113) (q := 41131) (p' := 114) (q' := 41136) (ws' := [.int 0, .ref 100, .int 0, .ref 101, .ref 102, .ref 103, .ref 104, .int 0, .int 0, .int 0, .ref 105, .ref 106, .ref 107, .ref 108, .ref 109, .int 0, .ref 110, .ref 111, .ref 112, .ref 113, .null, .null, .int 0, .int 0]) W13 (5 : Int32) rfl z13 (by show 19 < 24; omega) rfl rfl rfl (by omega) (by omega)
  obtain ⟨k15, s15, c15, e15, d15, W15, z15, r15, v15, g15, f15⟩ := mkRow (t := 0) (m := 4) (k := 20) (c := c14) (p := 114) (q := 41136) (p' := 115) (q' := 41140) (ws' := [.int 0, .ref 100, .int 0, .ref 101, .ref 102, .ref 103, .ref 104, .int 0, .int 0, .int 0, .ref 105, .ref 106, .ref 107, .ref 108, .ref 109, .int 0, .ref 110, .ref 111, .ref 112, .ref 113, .ref 114, .null, .int 0, .int 0]) W14 (4 : Int32) rfl z14 (by show 20 < 24; omega) rfl rfl rfl (by omega) (by omega)
  obtain ⟨a16, e16, V16, y16, F16⟩ := newL (c := c15) (m := 14400) (p := 115) (q := 41140) (p' := 116) (q' := 55540) W15 (14400 : Int32) rfl rfl rfl (by omega) (by omega)
  obtain ⟨s16, d16, W16, z16, g16⟩ := putR (c := c15) (r := 115) (k := 21) (ws' := [.int 0, .ref 100, .int 0, .ref 101, .ref 102, .ref 103, .ref 104, .int 0, .int 0, .int 0, .ref 105, .ref 106, .ref 107, .ref 108, .ref 109, .int 0, .ref 110, .ref 111, .ref 112, .ref 113, .ref 114, .ref 115, .int 0, .int 0]) V16 (by rw [F16 99 (by omega)]; exact z15) (by show 21 < 24; omega) rfl
  obtain ⟨s17, c17, x17, W17, z17, v17, g17⟩ := toO (c := c15) (row := fun _ => 0) (fs := [none, some 100, none, some 101, some 102, some 103, some 104, none, none, none, some 105, some 106, some 107, some 108, some 109, none, some 110, some 111, some 112, some 113, some 114, some 115, none, none]) W16 z16
  have hS : SMo s17 := ⟨z17, by rw [(g17 100 (by omega)).1, g16 100 (by omega), F16 100 (by omega), g15 100 (by omega) (by omega), g14 100 (by omega) (by omega), g13 100 (by omega) (by omega), g12 100 (by omega) (by omega), g11 100 (by omega) (by omega), g10 100 (by omega) (by omega), g9 100 (by omega) (by omega), g8 100 (by omega) (by omega), g7 100 (by omega) (by omega), g6 100 (by omega) (by omega), g5 100 (by omega) (by omega), g4 100 (by omega) (by omega), g3 100 (by omega) (by omega), g2 100 (by omega) (by omega), r1], by rw [(g17 101 (by omega)).1, g16 101 (by omega), F16 101 (by omega), g15 101 (by omega) (by omega), g14 101 (by omega) (by omega), g13 101 (by omega) (by omega), g12 101 (by omega) (by omega), g11 101 (by omega) (by omega), g10 101 (by omega) (by omega), g9 101 (by omega) (by omega), g8 101 (by omega) (by omega), g7 101 (by omega) (by omega), g6 101 (by omega) (by omega), g5 101 (by omega) (by omega), g4 101 (by omega) (by omega), g3 101 (by omega) (by omega), r2], by rw [(g17 102 (by omega)).1, g16 102 (by omega), F16 102 (by omega), g15 102 (by omega) (by omega), g14 102 (by omega) (by omega), g13 102 (by omega) (by omega), g12 102 (by omega) (by omega), g11 102 (by omega) (by omega), g10 102 (by omega) (by omega), g9 102 (by omega) (by omega), g8 102 (by omega) (by omega), g7 102 (by omega) (by omega), g6 102 (by omega) (by omega), g5 102 (by omega) (by omega), g4 102 (by omega) (by omega), r3], by rw [(g17 103 (by omega)).1, g16 103 (by omega), F16 103 (by omega), g15 103 (by omega) (by omega), g14 103 (by omega) (by omega), g13 103 (by omega) (by omega), g12 103 (by omega) (by omega), g11 103 (by omega) (by omega), g10 103 (by omega) (by omega), g9 103 (by omega) (by omega), g8 103 (by omega) (by omega), g7 103 (by omega) (by omega), g6 103 (by omega) (by omega), g5 103 (by omega) (by omega), r4], by rw [(g17 104 (by omega)).1, g16 104 (by omega), F16 104 (by omega), g15 104 (by omega) (by omega), g14 104 (by omega) (by omega), g13 104 (by omega) (by omega), g12 104 (by omega) (by omega), g11 104 (by omega) (by omega), g10 104 (by omega) (by omega), g9 104 (by omega) (by omega), g8 104 (by omega) (by omega), g7 104 (by omega) (by omega), g6 104 (by omega) (by omega), r5], by rw [(g17 105 (by omega)).1, g16 105 (by omega), F16 105 (by omega), g15 105 (by omega) (by omega), g14 105 (by omega) (by omega), g13 105 (by omega) (by omega), g12 105 (by omega) (by omega), g11 105 (by omega) (by omega), g10 105 (by omega) (by omega), g9 105 (by omega) (by omega), g8 105 (by omega) (by omega), g7 105 (by omega) (by omega), r6], by rw [(g17 106 (by omega)).1, g16 106 (by omega), F16 106 (by omega), g15 106 (by omega) (by omega), g14 106 (by omega) (by omega), g13 106 (by omega) (by omega), g12 106 (by omega) (by omega), g11 106 (by omega) (by omega), g10 106 (by omega) (by omega), g9 106 (by omega) (by omega), g8 106 (by omega) (by omega), r7], by rw [(g17 107 (by omega)).1, g16 107 (by omega), F16 107 (by omega), g15 107 (by omega) (by omega), g14 107 (by omega) (by omega), g13 107 (by omega) (by omega), g12 107 (by omega) (by omega), g11 107 (by omega) (by omega), g10 107 (by omega) (by omega), g9 107 (by omega) (by omega), r8], by rw [(g17 108 (by omega)).1, g16 108 (by omega), F16 108 (by omega), g15 108 (by omega) (by omega), g14 108 (by omega) (by omega), g13 108 (by omega) (by omega), g12 108 (by omega) (by omega), g11 108 (by omega) (by omega), g10 108 (by omega) (by omega), r9], by rw [(g17 109 (by omega)).1, g16 109 (by omega), F16 109 (by omega), g15 109 (by omega) (by omega), g14 109 (by omega) (by omega), g13 109 (by omega) (by omega), g12 109 (by omega) (by omega), g11 109 (by omega) (by omega), r10], by rw [(g17 110 (by omega)).1, g16 110 (by omega), F16 110 (by omega), g15 110 (by omega) (by omega), g14 110 (by omega) (by omega), g13 110 (by omega) (by omega), g12 110 (by omega) (by omega), r11], by rw [(g17 111 (by omega)).1, g16 111 (by omega), F16 111 (by omega), g15 111 (by omega) (by omega), g14 111 (by omega) (by omega), g13 111 (by omega) (by omega), r12], by rw [(g17 112 (by omega)).1, g16 112 (by omega), F16 112 (by omega), g15 112 (by omega) (by omega), g14 112 (by omega) (by omega), r13], by rw [(g17 113 (by omega)).1, g16 113 (by omega), F16 113 (by omega), g15 113 (by omega) (by omega), r14], by rw [(g17 114 (by omega)).1, g16 114 (by omega), F16 114 (by omega), r15], ⟨fun _ => 0, by rw [(g17 115 (by omega)).1, g16 115 (by omega), y16]⟩⟩
  obtain ⟨cb, eb, tb, fb, kb, zb⟩ := begins_eq (c := c17) W17 hS
  have st : ∀ (cc : Nat → Nat → Int32) (k : Nat) (x : Int32), k < 32 → stI 0 (HH s17 cc (116, 55540)) 103 (nI k) x = some (HH s17 (u2 cc 103 k x) (116, 55540)) := fun cc k x hk => by rw [HS W17 hS.t101 hk (by omega), nrw0]
  have st0' : stI 0 (HH s17 cb (116, 55540)) 102 (1 : Int32) (3 : Int32) = some (HH s17 (u2 cb 102 1 3) (116, 55540)) := by rw [show (1 : Int32) = nI 1 from rfl, HS W17 hS.t100 (show 1 < 2 by omega) (by omega), nrw0]
  have tM : TdM (u2 (u2 (u2 (u2 (u2 (u2 (u2 cb 102 1 3) 103 1 2) 103 4 1) 103 5 3) 103 6 1) 103 9 1) 103 11 5) sIn := by
    refine ⟨?_, ?_, ?_, fun i hi k hk => ?_⟩
    · simp [u2]; rfl
    · have := tb.2.1; simp [u2]; exact this
    · have := tb.2.2.1; simp [u2]; exact this
    · have hi : i < 3 := hi
      rcases (show i = 0 ∨ i = 1 ∨ i = 2 by omega) with rfl | rfl | rfl
      · rcases (show k = 0 ∨ k = 1 ∨ k = 2 ∨ k = 3 by omega) with rfl | rfl | rfl | rfl
        · have := zb 0 (by omega); simp [u2]; rw [this]; rfl
        · simp [u2]; rfl
        · have := zb 2 (by omega); simp [u2]; rw [this]; rfl
        · have := zb 3 (by omega); simp [u2]; rw [this]; rfl
      · rcases (show k = 0 ∨ k = 1 ∨ k = 2 ∨ k = 3 by omega) with rfl | rfl | rfl | rfl
        · simp [u2]; rfl
        · simp [u2]; rfl
        · simp [u2]; rfl
        · have := zb 7 (by omega); simp [u2]; rw [this]; rfl
      · rcases (show k = 0 ∨ k = 1 ∨ k = 2 ∨ k = 3 by omega) with rfl | rfl | rfl | rfl
        · have := zb 8 (by omega); simp [u2]; rw [this]; rfl
        · simp [u2]; rfl
        · have := zb 10 (by omega); simp [u2]; rw [this]; rfl
        · simp [u2]; rfl
  obtain ⟨cT, eT, k1, k2, k3, k4, k5, k6, k7, k8, k9⟩ := takes_eq W17 hS WFsIn tM
  refine ⟨_, s17, cT, e0, ?_, W17, hS, ?_, ?_, k5, k6, k7, k2, k3, k4, fun b hb => ⟨by rw [(g17 b (by omega)).1, g16 b (by omega), F16 b (by omega), g15 b (by omega) (by omega), g14 b (by omega) (by omega), g13 b (by omega) (by omega), g12 b (by omega) (by omega), g11 b (by omega) (by omega), g10 b (by omega) (by omega), g9 b (by omega) (by omega), g8 b (by omega) (by omega), g7 b (by omega) (by omega), g6 b (by omega) (by omega), g5 b (by omega) (by omega), g4 b (by omega) (by omega), g3 b (by omega) (by omega), g2 b (by omega) (by omega), g1 b (by omega) (by omega), g0 b (by omega)], ?_⟩⟩
  · unfold f_X7_init
    rw [HGc W0 z0, bnd_s, e1, bnd2_s, d1, bnd_s, e2, bnd2_s, d2, bnd_s, e3, bnd2_s, d3, bnd_s, e4, bnd2_s, d4, bnd_s, e5, bnd2_s, d5, bnd_s, e6, bnd2_s, d6, bnd_s, e7, bnd2_s, d7, bnd_s, e8, bnd2_s, d8, bnd_s, e9, bnd2_s, d9, bnd_s, e10, bnd2_s, d10, bnd_s, e11, bnd2_s, d11, bnd_s, e12, bnd2_s, d12, bnd_s, e13, bnd2_s, d13, bnd_s, e14, bnd2_s, d14, bnd_s, e15, bnd2_s, d15, bnd_s, e16, bnd2_s, d16, bnd_s, x17, eb, bnd_s, HR (k := 4) W17 hS.1 rfl, bnd_s, st0', bnd_s, HR (k := 5) W17 hS.1 rfl, bnd_s, show stI 0 (HH s17 (u2 cb 102 1 3) (116, 55540)) 103 (1 : Int32) (2 : Int32) = _ from st _ 1 _ (by omega), bnd_s, HR (k := 5) W17 hS.1 rfl, bnd_s, show stI 0 (HH s17 (u2 (u2 cb 102 1 3) 103 1 2) (116, 55540)) 103 (4 : Int32) (1 : Int32) = _ from st _ 4 _ (by omega), bnd_s, HR (k := 5) W17 hS.1 rfl, bnd_s, show stI 0 (HH s17 (u2 (u2 (u2 cb 102 1 3) 103 1 2) 103 4 1) (116, 55540)) 103 (5 : Int32) (3 : Int32) = _ from st _ 5 _ (by omega), bnd_s, HR (k := 5) W17 hS.1 rfl, bnd_s, show stI 0 (HH s17 (u2 (u2 (u2 (u2 cb 102 1 3) 103 1 2) 103 4 1) 103 5 3) (116, 55540)) 103 (6 : Int32) (1 : Int32) = _ from st _ 6 _ (by omega), bnd_s, HR (k := 5) W17 hS.1 rfl, bnd_s, show stI 0 (HH s17 (u2 (u2 (u2 (u2 (u2 cb 102 1 3) 103 1 2) 103 4 1) 103 5 3) 103 6 1) (116, 55540)) 103 (9 : Int32) (1 : Int32) = _ from st _ 9 _ (by omega), bnd_s, HR (k := 5) W17 hS.1 rfl, bnd_s, show stI 0 (HH s17 (u2 (u2 (u2 (u2 (u2 (u2 cb 102 1 3) 103 1 2) 103 4 1) 103 5 3) 103 6 1) 103 9 1) (116, 55540)) 103 (11 : Int32) (5 : Int32) = _ from st _ 11 _ (by omega), bnd_s, eT, bnd_s]
  · rw [k9 100 (by omega) (by omega) (by omega) (by omega), u2_other _ _ _ (by omega), u2_other _ _ _ (by omega), u2_other _ _ _ (by omega), u2_other _ _ _ (by omega), u2_other _ _ _ (by omega), u2_other _ _ _ (by omega), u2_other _ _ _ (by omega), fb 100 (by omega) (by omega) (by omega), (g17 100 (by omega)).2, f15 100 (by omega), f14 100 (by omega), f13 100 (by omega), f12 100 (by omega), f11 100 (by omega), f10 100 (by omega), f9 100 (by omega), f8 100 (by omega), f7 100 (by omega), f6 100 (by omega), f5 100 (by omega), f4 100 (by omega), f3 100 (by omega), f2 100 (by omega), v1]
  · rw [k8 0 (by omega) (by omega) (by omega), u2_other _ _ _ (by omega), u2_other _ _ _ (by omega), u2_other _ _ _ (by omega), u2_other _ _ _ (by omega), u2_other _ _ _ (by omega), u2_other _ _ _ (by omega), u2_other _ _ _ (by omega), fb 99 (by omega) (by omega) (by omega), v17]
  · rw [k9 b (by omega) (by omega) (by omega) (by omega), u2_other _ _ _ (by omega), u2_other _ _ _ (by omega), u2_other _ _ _ (by omega), u2_other _ _ _ (by omega), u2_other _ _ _ (by omega), u2_other _ _ _ (by omega), u2_other _ _ _ (by omega), fb b (by omega) (by omega) (by omega), (g17 b (by omega)).2, f15 b (by omega), f14 b (by omega), f13 b (by omega), f12 b (by omega), f11 b (by omega), f10 b (by omega), f9 b (by omega), f8 b (by omega), f7 b (by omega), f6 b (by omega), f5 b (by omega), f4 b (by omega), f3 b (by omega), f2 b (by omega), f1 b (by omega)]
theorem start_ok : ∃ h1 h2 h3 h4, nwO (fun _ => .inr (0, []), 0, 0) 6 [.null, .int 0, .null, .null, .null, .null, .int 0, .null, .int 0, .null, .int 0, .null, .null, .null, .null] = some (0, h1) ∧ f_X6_init 0 h1 = some h2 ∧ nwO h2 7 [.int 0, .null, .int 0, .null, .null, .null, .null, .int 0, .int 0, .int 0, .null, .null, .null, .null, .null, .int 0, .null, .null, .null, .null, .null, .null, .int 0, .int 0] = some (99, h3) ∧ f_X7_init 99 h3 = some h4 ∧ Inv 0 h4 := by
  obtain ⟨h1, sh, c, e1, e2, W, hs, y16, v0, v1, t⟩ := startC
  obtain ⟨h3, s', c', e3, e4, W', hS, q1, q2, q3, q4, q5, q6, q7, q8, f⟩ := startM (c := c) W
  refine ⟨h1, _, h3, _, e1, e2, e3, e4, ?_⟩
  refine ⟨((fun _ => 0), 0, 0, 5, stV sIn, (fun _ => stV st0), 0, (fun _ => stV st0), 0, (fun _ => 0), 0), s', c', _, rfl, ⟨by show 0 ≤ 300; omega, by show 0 ≤ 1; omega, by show 5 ≤ 99; omega, WFV_st WFsIn, by show 0 ≤ 8; omega, fun p hp => absurd hp (Nat.not_lt_zero p), by show 0 ≤ 2; omega, fun k hk => absurd hk (Nat.not_lt_zero k), by show 0 ≤ 10; omega, fun i hi => absurd hi (Nat.not_lt_zero i), fun i j hi => absurd hi (Nat.not_lt_zero i)⟩, ⟨((83, 0), (90, 0), (91, 0), (92, 0)), W', hs.kp (fun b hb => (f b hb).1) ?_, ⟨by decide, by decide, by decide⟩, ?_, ?_, ?_, ?_, ?_, fun i hi => absurd hi (Nat.not_lt_zero i), t.kept (fun b g1 g2 => (f b (by omega)).2), ⟨fun p => p, by rw [(f 16 (by omega)).1]; exact y16, fun p hp => hp, fun p q _ _ e => e, fun p hp => absurd hp (Nat.not_lt_zero p)⟩, fun k hk => absurd hk (Nat.not_lt_zero k)⟩, hS, q1, q2, q4, q3, q5, fun i hi => absurd hi (Nat.not_lt_zero i), q6, q7, q8, fun k hk => absurd hk (Nat.not_lt_zero k), fun p hp => absurd hp (Nat.not_lt_zero p)⟩
  · obtain ⟨d1, d2, d3, d4, d5⟩ := hs.dy
    exact ⟨by rw [(f 83 (by omega)).1]; exact d1, by rw [(f 90 (by omega)).1]; exact d2, by rw [(f 91 (by omega)).1]; exact d3, by rw [(f 92 (by omega)).1]; exact d4, d5⟩
  · rw [(f 1 (by omega)).2]; exact v1
  · rw [(f 0 (by omega)).2, v0]; rfl
  · rw [(f 0 (by omega)).2, v0]; rfl
  · rw [(f 0 (by omega)).2, v0]; rfl
  · rw [(f 0 (by omega)).2, v0]; rfl
end ST
