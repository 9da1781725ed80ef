/-! ===== the whole system, the rows that grow named; what scratch leaves as it is ===== -/
def Jn (n : Nat) (A : AS) (y : Dy) (sh : Nat → Shp) (c : Nat → Nat → Int32) (z : Nat × Nat) : Prop := Wz sh z ∧ SC sh y ∧ Bud n y z ∧ ClsR A sh c ∧ SMo sh ∧ ModR A c
def Kp (c c' : Nat → Nat → Int32) : Prop := (∀ b, b < 79 → c' b = c b) ∧ (∀ b, b = 100 ∨ b = 101 ∨ b = 104 ∨ b = 105 → c' b = c b) ∧ ∀ k, k = 0 ∨ k = 7 ∨ k = 8 ∨ k = 9 → c' 99 k = c 99 k
theorem Kp.refl (c : Nat → Nat → Int32) : Kp c c := ⟨fun _ _ => rfl, fun _ _ => rfl, fun _ _ => rfl⟩
theorem Kp.trans {c c' c'' : Nat → Nat → Int32} (h : Kp c c') (g : Kp c' c'') : Kp c c'' := ⟨fun b q => (g.1 b q).trans (h.1 b q), fun b q => (g.2.1 b q).trans (h.2.1 b q), fun k q => (g.2.2 k q).trans (h.2.2 k q)⟩
theorem Kp.of {c c' : Nat → Nat → Int32} (h : ∀ b, b < 79 ∨ (99 ≤ b ∧ b < 106) → c' b = c b) : Kp c c' := ⟨fun b q => h b (Or.inl q), fun b q => h b (Or.inr (by omega)), fun k q => by rw [h 99 (Or.inr (by omega))]⟩
theorem Kp.s2 (c : Nat → Nat → Int32) {a : Nat} (k : Nat) (x : Int32) (h : 79 ≤ a ∧ a < 99 ∨ 106 ≤ a) : Kp c (u2 c a k x) := Kp.of (fun b q => u2_other _ _ _ (by omega))
theorem Kp.sR (c : Nat → Nat → Int32) {a : Nat} (f : Nat → Int32) (h : 79 ≤ a ∧ a < 99 ∨ 106 ≤ a) : Kp c (uR c a f) := Kp.of (fun b q => uR_other _ _ (by omega))
theorem Kp.s97 (c : Nat → Nat → Int32) {k : Nat} (x : Int32) (h : k ≠ 0 ∧ k ≠ 7 ∧ k ≠ 8 ∧ k ≠ 9) : Kp c (u2 c 99 k x) := ⟨fun b q => u2_other _ _ _ (by omega), fun b q => u2_other _ _ _ (by omega), fun j q => u2_ne _ _ (Or.inr (by omega))⟩
theorem ClsR.kp {A : AS} {sh sh' : Nat → Shp} {c c' : Nat → Nat → Int32} (hA : WFA A) (h : ClsR A sh c) (f : ∀ b, b < 79 → c' b = c b) (g : sh' 16 = sh 16) : ClsR A sh' c' := by
  obtain ⟨c1, c2, c3, c4, c5, c6, c7, ⟨σ, c8, c9, c10, c11⟩, c12⟩ := h
  refine ⟨by rw [f 1 (by omega)]; exact c1, by rw [f 0 (by omega)]; exact c2, by rw [f 0 (by omega)]; exact c3, by rw [f 0 (by omega)]; exact c4, by rw [f 0 (by omega)]; exact c5, fun i hi => by rw [f 78 (by omega)]; exact c6 i hi, c7.kept (fun b h1 h2 => f b (by omega)), ⟨σ, by rw [g]; exact c8, c9, c10, fun p hp => (c11 p hp).kept (fun b h1 h2 => f b ?_)⟩, fun k hk => (c12 k hk).kept (fun b h1 h2 => f b ?_)⟩
  · have := c9 p (by have := hA.2.2.2.2.1; omega); omega
  · have := hA.2.2.2.2.2.2.1; omega
theorem ModR.kp {A : AS} {c c' : Nat → Nat → Int32} (h : ModR A c) (f : Kp c c') : ModR A c' := by
  unfold ModR at h ⊢
  rw [f.2.1 100 (by omega), f.2.1 101 (by omega), f.2.1 104 (by omega), f.2.1 105 (by omega), f.2.2 0 (by omega), f.2.2 7 (by omega), f.2.2 8 (by omega), f.2.2 9 (by omega)]
  exact h
section JS
variable {n : Nat} {A : AS} {y : Dy} {sh : Nat → Shp} {c c' : Nat → Nat → Int32} {z : Nat × Nat}
theorem Jn.cc (hA : WFA A) (h : Jn n A y sh c z) (f : Kp c c') : Jn n A y sh c' z := ⟨h.1, h.2.1, h.2.2.1, h.2.2.2.1.kp hA f.1 rfl, h.2.2.2.2.1, h.2.2.2.2.2.kp f⟩
theorem Jn.inv (hA : WFA A) (h : Jn n A y sh c z) : Inv (n + 1) (HH sh c z) := by
  obtain ⟨W, hs, ⟨b1, b2, b3⟩, hc, hS, hR⟩ := h
  exact ⟨A, sh, c, z, rfl, hA, ⟨y, W, hs, ⟨b1, by omega, by omega⟩, hc⟩, hS, hR⟩
theorem Inv.jn {n : Nat} {h : Hp} (hI : Inv n h) : ∃ A y sh c z, h = HH sh c z ∧ WFA A ∧ Jn n A y sh c z := by
  obtain ⟨A, sh, c, z, e, hA, ⟨y, W, hs, hb, hc⟩, hS, hR⟩ := hI
  exact ⟨A, y, sh, c, z, e, hA, W, hs, hb, hc, hS, hR⟩
/-- the class's shapes, when others than its own have changed -/
theorem SC.kp {sh sh' : Nat → Shp} {y : Dy} (hs : SC sh y) (g : ∀ b, b < 99 → sh' b = sh b) (hd : dyOK sh' y) : SC sh' y := by
  obtain ⟨s0, s1, s2, s3, s4, s65, s78, s79, s80, s81, s82, s84, s85, s86, s87, s88, s89, s93, s94, s95, s96, s97, s98, _⟩ := hs
  exact ⟨by rw [g 0 (by omega)]; exact s0, by rw [g 1 (by omega)]; exact s1, by rw [g 2 (by omega)]; exact s2, by rw [g 3 (by omega)]; exact s3, fun a ha => (s4 a ha).kept (fun b h1 h2 => g b (by have := ha.lt; omega)), by rw [g 65 (by omega)]; exact s65, by rw [g 78 (by omega)]; exact s78, by rw [g 79 (by omega)]; exact s79, by rw [g 80 (by omega)]; exact s80, by rw [g 81 (by omega)]; exact s81, by rw [g 82 (by omega)]; exact s82, by rw [g 84 (by omega)]; exact s84, by rw [g 85 (by omega)]; exact s85, by rw [g 86 (by omega)]; exact s86, by rw [g 87 (by omega)]; exact s87, by rw [g 88 (by omega)]; exact s88, by rw [g 89 (by omega)]; exact s89, by rw [g 93 (by omega)]; exact s93, by rw [g 94 (by omega)]; exact s94, by rw [g 95 (by omega)]; exact s95, by rw [g 96 (by omega)]; exact s96, by rw [g 97 (by omega)]; exact s97, by rw [g 98 (by omega)]; exact s98, hd⟩
theorem dyOK.kp {sh sh' : Nat → Shp} {y : Dy} (hd : dyOK sh y) (g : ∀ b, b < 99 ∨ 116 ≤ b → sh b ≠ sN → sh' b = sh b) : dyOK sh' y := by
  obtain ⟨d1, d2, d3, d4, d5, d6, d7, d8, d9⟩ := hd
  exact ⟨by rw [g _ (by omega) (by rw [d1]; exact fun h => by cases h)]; exact d1, by rw [g _ (by omega) (by rw [d2]; exact fun h => by cases h)]; exact d2, by rw [g _ (by omega) (by rw [d3]; exact fun h => by cases h)]; exact d3, by rw [g _ (by omega) (by rw [d4]; exact fun h => by cases h)]; exact d4, d5, d6, d7, d8, d9⟩
/-- the table of the reference may hold anything -/
theorem Jn.tab (h : Jn n A y sh c z) (T : Nat → Int64) : Jn n A y (uS sh 115 (sC (aL 14400 T))) c z := by
  obtain ⟨W, hs, hb, hc, hS, hR⟩ := h
  obtain ⟨h0, h1, h2, h3, h4, h5, h6, h7, h8, h9, h10, h11, h12, h13, h14, h15, Tb, h16⟩ := hS
  have g : ∀ b, b ≠ 115 → uS sh 115 (sC (aL 14400 T)) b = sh b := fun b q => uS_ne _ _ q
  refine ⟨W.put (by rw [h16]; exact fun q => by cases q), hs.kp (fun b q => g b (by omega)) (hs.2.2.2.2.2.2.2.2.2.2.2.2.2.2.2.2.2.2.2.2.2.2.2.kp (fun b q _ => g b (by omega))), hb, ?_, ?_, hR⟩
  · obtain ⟨c1, c2, c3, c4, c5, c6, c7, ⟨σ, c8, c9⟩, c12⟩ := hc
    exact ⟨c1, c2, c3, c4, c5, c6, c7, ⟨σ, by rw [g 16 (by omega)]; exact c8, c9⟩, c12⟩
  · refine ⟨?_, ?_, ?_, ?_, ?_, ?_, ?_, ?_, ?_, ?_, ?_, ?_, ?_, ?_, ?_, ?_, T, uS_same _ _ _⟩ <;> rw [g _ (by omega)] <;> assumption
theorem Jn.tb (h : Jn n A y sh c z) : ∃ T, sh = uS sh 115 (sC (aL 14400 T)) := by
  obtain ⟨T, e⟩ := h.2.2.2.2.1.2.2.2.2.2.2.2.2.2.2.2.2.2.2.2.2
  exact ⟨T, (uS_self sh 115 e).symm⟩
/-- the rows of the reference, when cells behind the others are made -/
theorem SMo.kp {sh sh' : Nat → Shp} (h : SMo sh) (g : ∀ b, 99 ≤ b → b < 116 → sh' b = sh b) : SMo sh' := by
  obtain ⟨h0, h1, h2, h3, h4, h5, h6, h7, h8, h9, h10, h11, h12, h13, h14, h15, Tb, h16⟩ := h
  refine ⟨?_, ?_, ?_, ?_, ?_, ?_, ?_, ?_, ?_, ?_, ?_, ?_, ?_, ?_, ?_, ?_, Tb, ?_⟩ <;> rw [g _ (by omega) (by omega)] <;> assumption
/-- a longer row of answers -/
theorem Jn.growA (hA : WFA A) (h : Jn n A y sh c z) {N : Nat} (h1 : y.1.2 < N) (h2 : 2 * y.1.2 ≤ N) (h3 : N ≤ 24000) : Jn n A ((z.1, N), y.2) (uS (uS sh z.1 (sA 0 N)) 79 (sO 0 [some 80, some 81, some 82, none, some z.1])) (uR c z.1 (fun _ => 0)) (z.1 + 1, z.2 + N) := by
  obtain ⟨W, hs, ⟨b1, b2, b3⟩, hc, hS, hR⟩ := h
  have g : ∀ b, b ≠ z.1 → b ≠ 79 → uS (uS sh z.1 (sA 0 N)) 79 (sO 0 [some 80, some 81, some 82, none, some z.1]) b = sh b := fun b q1 q2 => by rw [uS_ne _ _ q2, uS_ne _ _ q1]
  have gz : uS (uS sh z.1 (sA 0 N)) 79 (sO 0 [some 80, some 81, some 82, none, some z.1]) z.1 = sA 0 N := by rw [uS_ne _ _ (by omega), uS_same]
  refine ⟨(W.new (s := sA 0 N) (m := z.2 + N)).put (by rw [uS_ne _ _ (by omega), hs.2.2.2.2.2.2.2.1]; exact fun q => by cases q), ?_, ?_, hc.kp hA (fun b q => uR_other _ _ (by omega)) (g 16 (by omega) (by omega)), hS.kp (fun b q1 q2 => g b (by omega) (by omega)), hR.kp (Kp.sR _ _ (Or.inr (by omega)))⟩
  · obtain ⟨s0, s1, s2, s3, s4, s65, s78, s79, s80, s81, s82, s84, s85, s86, s87, s88, s89, s93, s94, s95, s96, s97, s98, hd⟩ := hs
    have gg : ∀ b, b < 99 → b ≠ 79 → uS (uS sh z.1 (sA 0 N)) 79 (sO 0 [some 80, some 81, some 82, none, some z.1]) b = sh b := fun b q1 q2 => g b (by omega) q2
    refine ⟨by rw [gg 0 (by omega) (by omega)]; exact s0, by rw [gg 1 (by omega) (by omega)]; exact s1, by rw [gg 2 (by omega) (by omega)]; exact s2, by rw [gg 3 (by omega) (by omega)]; exact s3, fun a ha => (s4 a ha).kept (fun b h1 h2 => gg b (by have := ha.lt; omega) (by have := ha.lt; omega)), by rw [gg 65 (by omega) (by omega)]; exact s65, by rw [gg 78 (by omega) (by omega)]; exact s78, uS_same _ _ _, by rw [gg 80 (by omega) (by omega)]; exact s80, by rw [gg 81 (by omega) (by omega)]; exact s81, by rw [gg 82 (by omega) (by omega)]; exact s82, by rw [gg 84 (by omega) (by omega)]; exact s84, by rw [gg 85 (by omega) (by omega)]; exact s85, by rw [gg 86 (by omega) (by omega)]; exact s86, by rw [gg 87 (by omega) (by omega)]; exact s87, by rw [gg 88 (by omega) (by omega)]; exact s88, by rw [gg 89 (by omega) (by omega)]; exact s89, by rw [gg 93 (by omega) (by omega)]; exact s93, by rw [gg 94 (by omega) (by omega)]; exact s94, by rw [gg 95 (by omega) (by omega)]; exact s95, by rw [gg 96 (by omega) (by omega)]; exact s96, by rw [gg 97 (by omega) (by omega)]; exact s97, by rw [gg 98 (by omega) (by omega)]; exact s98, ?_⟩
    obtain ⟨d1, d2, d3, d4, d5, d6, d7, d8, d9, d10, d11, d12, d13, d14, d15, d16, d17, d18⟩ := hd
    have w2 := W.lt (a := y.2.1.1) (by rw [d2]; exact fun q => by cases q)
    have w3 := W.lt (a := y.2.2.1.1) (by rw [d3]; exact fun q => by cases q)
    have w4 := W.lt (a := y.2.2.2.1) (by rw [d4]; exact fun q => by cases q)
    exact ⟨gz, (g y.2.1.1 (by omega) (by omega)).trans d2, (g y.2.2.1.1 (by omega) (by omega)).trans d3, (g y.2.2.2.1 (by omega) (by omega)).trans d4, Or.inr b1, d6, d7, d8, (show z.1 ≠ y.2.1.1 by omega), (show z.1 ≠ y.2.2.1.1 by omega), (show z.1 ≠ y.2.2.2.1 by omega), d12, d13, d14, h3, d16, d17, d18⟩
  · unfold Bud dySum at *
    refine ⟨?_, ?_, ?_⟩
    · show 116 ≤ z.1 + 1; omega
    · show z.1 + 1 ≤ 116 + 2 * n + (N + y.2.1.2 + y.2.2.1.2 + y.2.2.2.2); omega
    · show z.2 + N ≤ 100000 + 10 * n + 2 * (N + y.2.1.2 + y.2.2.1.2 + y.2.2.2.2); omega
end JS
