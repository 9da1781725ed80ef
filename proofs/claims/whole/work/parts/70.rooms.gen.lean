/-! ===== the rows of hours that grow ===== -/
abbrev s84 (p q r : Nat) : Shp := sO 1 [some 85, some 86, some 87, some 88, none, none, some 89, none, some p, some q, some r, none, none]
section GH
variable {n : Nat} {A : AS} {y : Dy} {sh : Nat → Shp} {c c' : Nat → Nat → Int32} {z : Nat × Nat}
theorem Jn.growL (hA : WFA A) (h : Jn n A y sh c z) {N : Nat} (h1 : y.2.1.2 < N) (h2 : 2 * y.2.1.2 ≤ N) (h3 : N ≤ 73728) : Jn n A (y.1, (z.1, N), y.2.2) (uS (uS sh z.1 (sA 0 N)) 84 (s84 z.1 y.2.2.1.1 y.2.2.2.1)) (uR c z.1 (fun _ => 0)) (z.1 + 1, z.2 + N) := by
  obtain ⟨W, hs, ⟨b1, b2, b3⟩, hc, hS, hR⟩ := h
  have g : ∀ b, b ≠ z.1 → b ≠ 84 → uS (uS sh z.1 (sA 0 N)) 84 (s84 z.1 y.2.2.1.1 y.2.2.2.1) b = sh b := fun b q1 q2 => by rw [uS_ne _ _ q2, uS_ne _ _ q1]
  have gz : uS (uS sh z.1 (sA 0 N)) 84 (s84 z.1 y.2.2.1.1 y.2.2.2.1) z.1 = sA 0 N := by rw [uS_ne _ _ (by omega), uS_same]
  refine ⟨(W.new (s := sA 0 N) (m := z.2 + N)).put (by rw [uS_ne _ _ (by omega), hs.a84]; exact fun q => by cases q), ?_, ?_, hc.kp hA (fun b q => uR_other _ _ (by omega)) (g 16 (by omega) (by omega)), hS.kp (fun b q1 q2 => g b (by omega) (by omega)), hR.kp (Kp.sR _ _ (Or.inr (by omega)))⟩
  · obtain ⟨s0, s1, s2, s3, s4, s65, s78, s79, s80, s81, s82, s84h, s85, s86, s87, s88, s89, s93, s94, s95, s96, s97, s98, hd⟩ := hs
    have gg : ∀ b, b < 99 → b ≠ 84 → uS (uS sh z.1 (sA 0 N)) 84 (s84 z.1 y.2.2.1.1 y.2.2.2.1) b = sh b := fun b q1 q2 => g b (by omega) q2
    refine ⟨by rw [gg 0 (by omega) (by omega)]; exact s0, by rw [gg 1 (by omega) (by omega)]; exact s1, by rw [gg 2 (by omega) (by omega)]; exact s2, by rw [gg 3 (by omega) (by omega)]; exact s3, fun a ha => (s4 a ha).kept (fun b h1 h2 => gg b (by have := ha.lt; omega) (by have := ha.lt; omega)), by rw [gg 65 (by omega) (by omega)]; exact s65, by rw [gg 78 (by omega) (by omega)]; exact s78, by rw [gg 79 (by omega) (by omega)]; exact s79, by rw [gg 80 (by omega) (by omega)]; exact s80, by rw [gg 81 (by omega) (by omega)]; exact s81, by rw [gg 82 (by omega) (by omega)]; exact s82, uS_same _ _ _, by rw [gg 85 (by omega) (by omega)]; exact s85, by rw [gg 86 (by omega) (by omega)]; exact s86, by rw [gg 87 (by omega) (by omega)]; exact s87, by rw [gg 88 (by omega) (by omega)]; exact s88, by rw [gg 89 (by omega) (by omega)]; exact s89, by rw [gg 93 (by omega) (by omega)]; exact s93, by rw [gg 94 (by omega) (by omega)]; exact s94, by rw [gg 95 (by omega) (by omega)]; exact s95, by rw [gg 96 (by omega) (by omega)]; exact s96, by rw [gg 97 (by omega) (by omega)]; exact s97, by rw [gg 98 (by omega) (by omega)]; exact s98, ?_⟩
    obtain ⟨d1, d2, d3, d4, d5, d6, d7, d8, d9, d10, d11, d12, d13, d14, d15, d16, d17, d18⟩ := hd
    have w1 := W.lt (a := y.1.1) (by rw [d1]; exact fun q => by cases q)
    have w2 := W.lt (a := y.2.1.1) (by rw [d2]; exact fun q => by cases q)
    have w3 := W.lt (a := y.2.2.1.1) (by rw [d3]; exact fun q => by cases q)
    have w4 := W.lt (a := y.2.2.2.1) (by rw [d4]; exact fun q => by cases q)
    have g1 := (g y.1.1 (by omega) (by omega)).trans d1
    have g2 := (g y.2.1.1 (by omega) (by omega)).trans d2
    have g3 := (g y.2.2.1.1 (by omega) (by omega)).trans d3
    have g4 := (g y.2.2.2.1 (by omega) (by omega)).trans d4
    have n1 : y.1.1 ≠ z.1 := by omega
    have n2 : y.2.1.1 ≠ z.1 := by omega
    have n3 : y.2.2.1.1 ≠ z.1 := by omega
    have n4 : y.2.2.2.1 ≠ z.1 := by omega
    exact ⟨g1, gz, g3, g4, d5, Or.inr b1, d7, d8, n1, d10, d11, (fun q => n3 q.symm), (fun q => n4 q.symm), d14, d15, h3, d17, d18⟩
  · unfold Bud dySum at *
    refine ⟨?_, ?_, ?_⟩
    · show 116 ≤ z.1 + 1; omega
    · show z.1 + 1 ≤ 116 + 2 * n + (y.1.2 + N + y.2.2.1.2 + y.2.2.2.2); omega
    · show z.2 + N ≤ 100000 + 10 * n + 2 * (y.1.2 + N + y.2.2.1.2 + y.2.2.2.2); omega
theorem roomL {β : Type} (K : Hp → Option β) (hA : WFA A) (hn : n ≤ 10000) (J : Jn n A y sh c z) {L : Nat} (hL : L ≤ 36864) : ∃ y' sh' c' z', (bnd2 (f_X6_roomFor y.2.1.1 (nI L) (HH sh c z)) fun a4 h5 => bnd (pF h5 84 1 8 (.ref a4)) K) = K (HH sh' c' z') ∧ Jn n A y' sh' c' z' ∧ (∀ b, b < z.1 → c' b = c b) ∧ (∀ b, b < z.1 → b ≠ 84 → sh' b = sh b) ∧ L ≤ y'.2.1.2 ∧ y'.1 = y.1 ∧ y'.2.2 = y.2.2 ∧ (y'.2.1.1 = y.2.1.1 ∨ z.1 ≤ y'.2.1.1) := by
  have W := J.1
  have hs := J.2.1
  have hd := hs.dy
  have hl : y.2.1.2 ≤ 73728 := hd.2.2.2.2.2.2.2.2.2.2.2.2.2.2.2.1
  unfold f_X6_roomFor
  rw [HN W hd.2.1 (by omega), bnd_s]
  simp only [jn2_s]
  by_cases h : y.2.1.2 < L
  · have hB := J.2.2.1
    unfold Bud dySum at hB
    have h2 := hd.2.2.2.2.2.2.2.2.2.2.2.2.2.2
    rw [if_pos (nI_lt h (by omega)), bnd_s, show (2 : Int32) = nI 2 from rfl, pk_mul, mx_n (by omega) (by omega), HnI W (by omega) (by omega), bnd2_s, bnd2_s]
    have W2 := W.new (s := sA 0 (max L (2 * y.2.1.2))) (m := z.2 + max L (2 * y.2.1.2))
    have e84 : uS sh z.1 (sA 0 (max L (2 * y.2.1.2))) 84 = s84 y.2.1.1 y.2.2.1.1 y.2.2.2.1 := by rw [uS_ne _ _ (by omega)]; exact hs.a84
    rw [HPR W2 e84 (by show 8 < 13; omega), bnd_s]
    refine ⟨(y.1, (z.1, max L (2 * y.2.1.2)), y.2.2), _, _, _, rfl, J.growL hA (by omega) (by omega) (by omega), fun b hb => uR_other _ _ (by omega), fun b hb h84 => by rw [uS_ne _ _ h84, uS_ne _ _ (by omega)], Nat.le_max_left _ _, ?_⟩
    exact ⟨rfl, rfl, Or.inr (Nat.le_refl _)⟩
  · rw [if_neg (nI_nlt (by omega) (by omega)), bnd2_s, HPR W hs.a84 (by show 8 < 13; omega), bnd_s]
    have e : uS sh 84 (sO 1 (List.set [some 85, some 86, some 87, some 88, none, none, some 89, none, some y.2.1.1, some y.2.2.1.1, some y.2.2.2.1, none, none] 8 (some y.2.1.1))) = sh := uS_self sh 84 hs.a84
    rw [e]
    exact ⟨y, sh, c, z, rfl, J, fun _ _ => rfl, fun _ _ _ => rfl, by omega, rfl, rfl, Or.inl rfl⟩
theorem Jn.growH (hA : WFA A) (h : Jn n A y sh c z) {N : Nat} (h1 : y.2.2.1.2 < N) (h2 : 2 * y.2.2.1.2 ≤ N) (h3 : N ≤ 2048) : Jn n A (y.1, y.2.1, (z.1, N), y.2.2.2) (uS (uS sh z.1 (sA 0 N)) 84 (s84 y.2.1.1 z.1 y.2.2.2.1)) (uR c z.1 (fun _ => 0)) (z.1 + 1, z.2 + N) := by
  obtain ⟨W, hs, ⟨b1, b2, b3⟩, hc, hS, hR⟩ := h
  have g : ∀ b, b ≠ z.1 → b ≠ 84 → uS (uS sh z.1 (sA 0 N)) 84 (s84 y.2.1.1 z.1 y.2.2.2.1) b = sh b := fun b q1 q2 => by rw [uS_ne _ _ q2, uS_ne _ _ q1]
  have gz : uS (uS sh z.1 (sA 0 N)) 84 (s84 y.2.1.1 z.1 y.2.2.2.1) z.1 = sA 0 N := by rw [uS_ne _ _ (by omega), uS_same]
  refine ⟨(W.new (s := sA 0 N) (m := z.2 + N)).put (by rw [uS_ne _ _ (by omega), hs.a84]; exact fun q => by cases q), ?_, ?_, hc.kp hA (fun b q => uR_other _ _ (by omega)) (g 16 (by omega) (by omega)), hS.kp (fun b q1 q2 => g b (by omega) (by omega)), hR.kp (Kp.sR _ _ (Or.inr (by omega)))⟩
  · obtain ⟨s0, s1, s2, s3, s4, s65, s78, s79, s80, s81, s82, s84h, s85, s86, s87, s88, s89, s93, s94, s95, s96, s97, s98, hd⟩ := hs
    have gg : ∀ b, b < 99 → b ≠ 84 → uS (uS sh z.1 (sA 0 N)) 84 (s84 y.2.1.1 z.1 y.2.2.2.1) b = sh b := fun b q1 q2 => g b (by omega) q2
    refine ⟨by rw [gg 0 (by omega) (by omega)]; exact s0, by rw [gg 1 (by omega) (by omega)]; exact s1, by rw [gg 2 (by omega) (by omega)]; exact s2, by rw [gg 3 (by omega) (by omega)]; exact s3, fun a ha => (s4 a ha).kept (fun b h1 h2 => gg b (by have := ha.lt; omega) (by have := ha.lt; omega)), by rw [gg 65 (by omega) (by omega)]; exact s65, by rw [gg 78 (by omega) (by omega)]; exact s78, by rw [gg 79 (by omega) (by omega)]; exact s79, by rw [gg 80 (by omega) (by omega)]; exact s80, by rw [gg 81 (by omega) (by omega)]; exact s81, by rw [gg 82 (by omega) (by omega)]; exact s82, uS_same _ _ _, by rw [gg 85 (by omega) (by omega)]; exact s85, by rw [gg 86 (by omega) (by omega)]; exact s86, by rw [gg 87 (by omega) (by omega)]; exact s87, by rw [gg 88 (by omega) (by omega)]; exact s88, by rw [gg 89 (by omega) (by omega)]; exact s89, by rw [gg 93 (by omega) (by omega)]; exact s93, by rw [gg 94 (by omega) (by omega)]; exact s94, by rw [gg 95 (by omega) (by omega)]; exact s95, by rw [gg 96 (by omega) (by omega)]; exact s96, by rw [gg 97 (by omega) (by omega)]; exact s97, by rw [gg 98 (by omega) (by omega)]; exact s98, ?_⟩
    obtain ⟨d1, d2, d3, d4, d5, d6, d7, d8, d9, d10, d11, d12, d13, d14, d15, d16, d17, d18⟩ := hd
    have w1 := W.lt (a := y.1.1) (by rw [d1]; exact fun q => by cases q)
    have w2 := W.lt (a := y.2.1.1) (by rw [d2]; exact fun q => by cases q)
    have w3 := W.lt (a := y.2.2.1.1) (by rw [d3]; exact fun q => by cases q)
    have w4 := W.lt (a := y.2.2.2.1) (by rw [d4]; exact fun q => by cases q)
    have g1 := (g y.1.1 (by omega) (by omega)).trans d1
    have g2 := (g y.2.1.1 (by omega) (by omega)).trans d2
    have g3 := (g y.2.2.1.1 (by omega) (by omega)).trans d3
    have g4 := (g y.2.2.2.1 (by omega) (by omega)).trans d4
    have n1 : y.1.1 ≠ z.1 := by omega
    have n2 : y.2.1.1 ≠ z.1 := by omega
    have n3 : y.2.2.1.1 ≠ z.1 := by omega
    have n4 : y.2.2.2.1 ≠ z.1 := by omega
    exact ⟨g1, g2, gz, g4, d5, d6, Or.inr b1, d8, d9, n1, d11, n2, d13, (fun q => n4 q.symm), d15, d16, h3, d18⟩
  · unfold Bud dySum at *
    refine ⟨?_, ?_, ?_⟩
    · show 116 ≤ z.1 + 1; omega
    · show z.1 + 1 ≤ 116 + 2 * n + (y.1.2 + y.2.1.2 + N + y.2.2.2.2); omega
    · show z.2 + N ≤ 100000 + 10 * n + 2 * (y.1.2 + y.2.1.2 + N + y.2.2.2.2); omega
theorem roomH {β : Type} (K : Hp → Option β) (hA : WFA A) (hn : n ≤ 10000) (J : Jn n A y sh c z) {L : Nat} (hL : L ≤ 1024) : ∃ y' sh' c' z', (bnd2 (f_X6_roomFor y.2.2.1.1 (nI L) (HH sh c z)) fun a4 h5 => bnd (pF h5 84 1 9 (.ref a4)) K) = K (HH sh' c' z') ∧ Jn n A y' sh' c' z' ∧ (∀ b, b < z.1 → c' b = c b) ∧ (∀ b, b < z.1 → b ≠ 84 → sh' b = sh b) ∧ L ≤ y'.2.2.1.2 ∧ y'.1 = y.1 ∧ y'.2.1 = y.2.1 ∧ y'.2.2.2 = y.2.2.2 ∧ (y'.2.2.1.1 = y.2.2.1.1 ∨ z.1 ≤ y'.2.2.1.1) := by
  have W := J.1
  have hs := J.2.1
  have hd := hs.dy
  have hl : y.2.2.1.2 ≤ 2048 := hd.2.2.2.2.2.2.2.2.2.2.2.2.2.2.2.2.1
  unfold f_X6_roomFor
  rw [HN W hd.2.2.1 (by omega), bnd_s]
  simp only [jn2_s]
  by_cases h : y.2.2.1.2 < L
  · have hB := J.2.2.1
    unfold Bud dySum at hB
    have h2 := hd.2.2.2.2.2.2.2.2.2.2.2.2.2.2
    rw [if_pos (nI_lt h (by omega)), bnd_s, show (2 : Int32) = nI 2 from rfl, pk_mul, mx_n (by omega) (by omega), HnI W (by omega) (by omega), bnd2_s, bnd2_s]
    have W2 := W.new (s := sA 0 (max L (2 * y.2.2.1.2))) (m := z.2 + max L (2 * y.2.2.1.2))
    have e84 : uS sh z.1 (sA 0 (max L (2 * y.2.2.1.2))) 84 = s84 y.2.1.1 y.2.2.1.1 y.2.2.2.1 := by rw [uS_ne _ _ (by omega)]; exact hs.a84
    rw [HPR W2 e84 (by show 9 < 13; omega), bnd_s]
    refine ⟨(y.1, y.2.1, (z.1, max L (2 * y.2.2.1.2)), y.2.2.2), _, _, _, rfl, J.growH hA (by omega) (by omega) (by omega), fun b hb => uR_other _ _ (by omega), fun b hb h84 => by rw [uS_ne _ _ h84, uS_ne _ _ (by omega)], Nat.le_max_left _ _, ?_⟩
    exact ⟨rfl, rfl, rfl, Or.inr (Nat.le_refl _)⟩
  · rw [if_neg (nI_nlt (by omega) (by omega)), bnd2_s, HPR W hs.a84 (by show 9 < 13; omega), bnd_s]
    have e : uS sh 84 (sO 1 (List.set [some 85, some 86, some 87, some 88, none, none, some 89, none, some y.2.1.1, some y.2.2.1.1, some y.2.2.2.1, none, none] 9 (some y.2.2.1.1))) = sh := uS_self sh 84 hs.a84
    rw [e]
    exact ⟨y, sh, c, z, rfl, J, fun _ _ => rfl, fun _ _ _ => rfl, by omega, rfl, rfl, rfl, Or.inl rfl⟩
theorem Jn.growT (hA : WFA A) (h : Jn n A y sh c z) {N : Nat} (h1 : y.2.2.2.2 < N) (h2 : 2 * y.2.2.2.2 ≤ N) (h3 : N ≤ 2048) : Jn n A (y.1, y.2.1, y.2.2.1, (z.1, N)) (uS (uS sh z.1 (sA 0 N)) 84 (s84 y.2.1.1 y.2.2.1.1 z.1)) (uR c z.1 (fun _ => 0)) (z.1 + 1, z.2 + N) := by
  obtain ⟨W, hs, ⟨b1, b2, b3⟩, hc, hS, hR⟩ := h
  have g : ∀ b, b ≠ z.1 → b ≠ 84 → uS (uS sh z.1 (sA 0 N)) 84 (s84 y.2.1.1 y.2.2.1.1 z.1) b = sh b := fun b q1 q2 => by rw [uS_ne _ _ q2, uS_ne _ _ q1]
  have gz : uS (uS sh z.1 (sA 0 N)) 84 (s84 y.2.1.1 y.2.2.1.1 z.1) z.1 = sA 0 N := by rw [uS_ne _ _ (by omega), uS_same]
  refine ⟨(W.new (s := sA 0 N) (m := z.2 + N)).put (by rw [uS_ne _ _ (by omega), hs.a84]; exact fun q => by cases q), ?_, ?_, hc.kp hA (fun b q => uR_other _ _ (by omega)) (g 16 (by omega) (by omega)), hS.kp (fun b q1 q2 => g b (by omega) (by omega)), hR.kp (Kp.sR _ _ (Or.inr (by omega)))⟩
  · obtain ⟨s0, s1, s2, s3, s4, s65, s78, s79, s80, s81, s82, s84h, s85, s86, s87, s88, s89, s93, s94, s95, s96, s97, s98, hd⟩ := hs
    have gg : ∀ b, b < 99 → b ≠ 84 → uS (uS sh z.1 (sA 0 N)) 84 (s84 y.2.1.1 y.2.2.1.1 z.1) b = sh b := fun b q1 q2 => g b (by omega) q2
    refine ⟨by rw [gg 0 (by omega) (by omega)]; exact s0, by rw [gg 1 (by omega) (by omega)]; exact s1, by rw [gg 2 (by omega) (by omega)]; exact s2, by rw [gg 3 (by omega) (by omega)]; exact s3, fun a ha => (s4 a ha).kept (fun b h1 h2 => gg b (by have := ha.lt; omega) (by have := ha.lt; omega)), by rw [gg 65 (by omega) (by omega)]; exact s65, by rw [gg 78 (by omega) (by omega)]; exact s78, by rw [gg 79 (by omega) (by omega)]; exact s79, by rw [gg 80 (by omega) (by omega)]; exact s80, by rw [gg 81 (by omega) (by omega)]; exact s81, by rw [gg 82 (by omega) (by omega)]; exact s82, uS_same _ _ _, by rw [gg 85 (by omega) (by omega)]; exact s85, by rw [gg 86 (by omega) (by omega)]; exact s86, by rw [gg 87 (by omega) (by omega)]; exact s87, by rw [gg 88 (by omega) (by omega)]; exact s88, by rw [gg 89 (by omega) (by omega)]; exact s89, by rw [gg 93 (by omega) (by omega)]; exact s93, by rw [gg 94 (by omega) (by omega)]; exact s94, by rw [gg 95 (by omega) (by omega)]; exact s95, by rw [gg 96 (by omega) (by omega)]; exact s96, by rw [gg 97 (by omega) (by omega)]; exact s97, by rw [gg 98 (by omega) (by omega)]; exact s98, ?_⟩
    obtain ⟨d1, d2, d3, d4, d5, d6, d7, d8, d9, d10, d11, d12, d13, d14, d15, d16, d17, d18⟩ := hd
    have w1 := W.lt (a := y.1.1) (by rw [d1]; exact fun q => by cases q)
    have w2 := W.lt (a := y.2.1.1) (by rw [d2]; exact fun q => by cases q)
    have w3 := W.lt (a := y.2.2.1.1) (by rw [d3]; exact fun q => by cases q)
    have w4 := W.lt (a := y.2.2.2.1) (by rw [d4]; exact fun q => by cases q)
    have g1 := (g y.1.1 (by omega) (by omega)).trans d1
    have g2 := (g y.2.1.1 (by omega) (by omega)).trans d2
    have g3 := (g y.2.2.1.1 (by omega) (by omega)).trans d3
    have g4 := (g y.2.2.2.1 (by omega) (by omega)).trans d4
    have n1 : y.1.1 ≠ z.1 := by omega
    have n2 : y.2.1.1 ≠ z.1 := by omega
    have n3 : y.2.2.1.1 ≠ z.1 := by omega
    have n4 : y.2.2.2.1 ≠ z.1 := by omega
    exact ⟨g1, g2, g3, gz, d5, d6, d7, Or.inr b1, d9, d10, n1, d12, n2, n3, d15, d16, d17, h3⟩
  · unfold Bud dySum at *
    refine ⟨?_, ?_, ?_⟩
    · show 116 ≤ z.1 + 1; omega
    · show z.1 + 1 ≤ 116 + 2 * n + (y.1.2 + y.2.1.2 + y.2.2.1.2 + N); omega
    · show z.2 + N ≤ 100000 + 10 * n + 2 * (y.1.2 + y.2.1.2 + y.2.2.1.2 + N); omega
theorem roomT {β : Type} (K : Hp → Option β) (hA : WFA A) (hn : n ≤ 10000) (J : Jn n A y sh c z) {L : Nat} (hL : L ≤ 1024) : ∃ y' sh' c' z', (bnd2 (f_X6_roomFor y.2.2.2.1 (nI L) (HH sh c z)) fun a4 h5 => bnd (pF h5 84 1 10 (.ref a4)) K) = K (HH sh' c' z') ∧ Jn n A y' sh' c' z' ∧ (∀ b, b < z.1 → c' b = c b) ∧ (∀ b, b < z.1 → b ≠ 84 → sh' b = sh b) ∧ L ≤ y'.2.2.2.2 ∧ y'.1 = y.1 ∧ y'.2.1 = y.2.1 ∧ y'.2.2.1 = y.2.2.1 ∧ (y'.2.2.2.1 = y.2.2.2.1 ∨ z.1 ≤ y'.2.2.2.1) := by
  have W := J.1
  have hs := J.2.1
  have hd := hs.dy
  have hl : y.2.2.2.2 ≤ 2048 := hd.2.2.2.2.2.2.2.2.2.2.2.2.2.2.2.2.2
  unfold f_X6_roomFor
  rw [HN W hd.2.2.2.1 (by omega), bnd_s]
  simp only [jn2_s]
  by_cases h : y.2.2.2.2 < L
  · have hB := J.2.2.1
    unfold Bud dySum at hB
    have h2 := hd.2.2.2.2.2.2.2.2.2.2.2.2.2.2
    rw [if_pos (nI_lt h (by omega)), bnd_s, show (2 : Int32) = nI 2 from rfl, pk_mul, mx_n (by omega) (by omega), HnI W (by omega) (by omega), bnd2_s, bnd2_s]
    have W2 := W.new (s := sA 0 (max L (2 * y.2.2.2.2))) (m := z.2 + max L (2 * y.2.2.2.2))
    have e84 : uS sh z.1 (sA 0 (max L (2 * y.2.2.2.2))) 84 = s84 y.2.1.1 y.2.2.1.1 y.2.2.2.1 := by rw [uS_ne _ _ (by omega)]; exact hs.a84
    rw [HPR W2 e84 (by show 10 < 13; omega), bnd_s]
    refine ⟨(y.1, y.2.1, y.2.2.1, (z.1, max L (2 * y.2.2.2.2))), _, _, _, rfl, J.growT hA (by omega) (by omega) (by omega), fun b hb => uR_other _ _ (by omega), fun b hb h84 => by rw [uS_ne _ _ h84, uS_ne _ _ (by omega)], Nat.le_max_left _ _, ?_⟩
    exact ⟨rfl, rfl, rfl, Or.inr (Nat.le_refl _)⟩
  · rw [if_neg (nI_nlt (by omega) (by omega)), bnd2_s, HPR W hs.a84 (by show 10 < 13; omega), bnd_s]
    have e : uS sh 84 (sO 1 (List.set [some 85, some 86, some 87, some 88, none, none, some 89, none, some y.2.1.1, some y.2.2.1.1, some y.2.2.2.1, none, none] 10 (some y.2.2.2.1))) = sh := uS_self sh 84 hs.a84
    rw [e]
    exact ⟨y, sh, c, z, rfl, J, fun _ _ => rfl, fun _ _ _ => rfl, by omega, rfl, rfl, rfl, Or.inl rfl⟩
end GH
