/-! ===== the class's table, filled ===== -/
section FI
variable {n : Nat} {A : AS} {y : Dy} {sh : Nat → Shp} {c c' : Nat → Nat → Int32} {z : Nat × Nat} {b : Nat → Nat}
theorem six_ge {i : Nat} (h : i < 6) : ¬ (6 : Int32) ≤ nI i := nI_ge (b := 6) h (by omega)
theorem six_le {i : Nat} (h : 6 ≤ i) (h2 : i < 1000) : (6 : Int32) ≤ nI i := nI_le (a := 6) h (by omega)
theorem roomA {β : Type} (K : Hp → Option β) (hA : WFA A) (hn : n ≤ 10000) (J : Jn n A y sh c z) {L : Nat} (hL : L ≤ 11664) : ∃ y' sh' c' z', (bnd2 (f_X6_roomFor y.1.1 (nI L) (HH sh c z)) fun a4 h5 => bnd (pF h5 79 0 4 (.ref a4)) K) = K (HH sh' c' z') ∧ Jn n A y' sh' c' z' ∧ (∀ b, b < 116 → c' b = c b) ∧ L ≤ y'.1.2 := by
  have W := J.1
  have hs := J.2.1
  have hd := hs.dy
  have hl : y.1.2 ≤ 24000 := hd.2.2.2.2.2.2.2.2.2.2.2.2.2.2.1
  unfold f_X6_roomFor
  rw [HN W hd.1 (by omega), bnd_s]
  simp only [jn2_s]
  by_cases h : y.1.2 < L
  · have hB := J.2.2.1
    unfold Bud dySum at hB
    have h2 := hd.2.2.2.2.2.2.2.2.2.2.2.2.2.2.2
    rw [if_pos (nI_lt h (by omega)), bnd_s, show (2 : Int32) = nI 2 from rfl, pk_mul, mx_n (by omega) (by omega), HnI W (by omega) (by omega), bnd2_s, bnd2_s]
    have W2 := W.new (s := sA 0 (max L (2 * y.1.2))) (m := z.2 + max L (2 * y.1.2))
    have e79 : uS sh z.1 (sA 0 (max L (2 * y.1.2))) 79 = sO 0 [some 80, some 81, some 82, none, some y.1.1] := by rw [uS_ne _ _ (by omega)]; exact hs.a79
    rw [HPR W2 e79 (by show 4 < 5; omega), bnd_s]
    exact ⟨_, _, _, _, rfl, J.growA hA (by omega) (by omega) (by omega), fun b hb => uR_other _ _ (by omega), Nat.le_max_left _ _⟩
  · rw [if_neg (nI_nlt (by omega) (by omega)), bnd2_s, HPR W hs.a79 (by show 4 < 5; omega), bnd_s]
    have e : uS sh 79 (sO 0 (List.set [some 80, some 81, some 82, none, some y.1.1] 4 (some y.1.1))) = sh := uS_self sh 79 hs.a79
    rw [e]
    exact ⟨y, sh, c, z, rfl, J, fun _ _ => rfl, by omega⟩
theorem memNow_eq (W : Wz sh z) {a law price : Nat} {V : MV} (hM : isM sh a) (hc : CM c a law price V) : f_X2_memoryNow a (HH sh c z) = some (nI (6 * mvL V + (if law = 1 then mvA V else 5))) := by
  unfold f_X2_memoryNow
  rw [HG W hM.1, bnd_s, HI (k := 9) W hM.1 rfl, bnd_s, HI (k := 10) W hM.1 rfl, bnd_s, hc.2.2.2.2.2.1, hc.2.2.2.2.2.2.1, mem_eq, bnd_s]
theorem fill_eqF (hA : WFA A) (hn : n ≤ 10000) (J : Jn n A y sh c z) (m : Bool) (hz : sum5 b 5 < 12) (hb : ∀ k, k < 5 → c 80 k = nI (b k)) : ∃ y' sh' c' z', f_X0_fillAnswers 79 10 (if m = true then 1 else 0) (HH sh c z) = some (nI (DV m (asL A) b (stp b 5 - 1) (mvL (asV A)) (mvA (asV A))), HH sh' c' z') ∧ Jn n A y' sh' c' z' ∧ Kp c c' ∧ c' 80 = c 80 ∧ (∀ k, k < 5 → c' 81 k = nI (stp b k)) ∧ c' 79 3 = nI (stp b 5) ∧ Tb m (asL A) b (c' y'.1.1) (stp b 5) ∧ 36 * stp b 5 ≤ y'.1.2 ∧ ∀ a, 84 ≤ a → a < 99 → c' a = c a := by
  have hsz := size_le hz
  have hsp := stp_pos b 5
  obtain ⟨c1, e1, f1, i1, w1⟩ := weigh_eq J.1 J.2.1 hb
  have J1 : Jn n A y sh c1 z := J.cc hA (Kp.of (fun b q => f1 b (by omega) (by omega)))
  have Kall : ∀ K : Hp → Option (Int32 × Hp), ∃ y' sh' c' z', (bnd2 (f_X6_roomFor y.1.1 (nI (36 * stp b 5)) (HH sh c1 z)) fun a4 h5 => bnd (pF h5 79 0 4 (.ref a4)) K) = K (HH sh' c' z') ∧ Jn n A y' sh' c' z' ∧ (∀ b, b < 116 → c' b = c1 b) ∧ 36 * stp b 5 ≤ y'.1.2 := fun K => roomA K hA hn J1 (by omega)
  unfold f_X0_fillAnswers
  rw [HG J.1 J.2.1.a79, bnd_s, e1, bnd_s, HR (k := 4) J.1 J.2.1.a79 rfl, bnd_s, HI (k := 3) J.1 J.2.1.a79 rfl, bnd_s, i1, show (36 : Int32) = nI 36 from rfl, pk_mul, Nat.mul_comm (stp b 5) 36]
  obtain ⟨y2, sh2, c2, z2, e2, J2, f2, hlen⟩ := Kall _
  rw [e2]
  clear e2 Kall
  have W := J2.1
  have hs := J2.2.1
  have hM := hs.m10
  have hcm := J2.2.2.2.1.2.2.2.2.2.2.1
  have hL := hA.2.1
  have hV := hA.2.2.2.1
  have hd := hs.dy
  have hl24 : y2.1.2 ≤ 24000 := hd.2.2.2.2.2.2.2.2.2.2.2.2.2.2.1
  have hya := hd.2.2.2.2.1
  have w2 : ∀ k, k < 5 → c2 81 k = nI (stp b k) := fun k hk => by rw [f2 81 (by omega)]; exact w1 k hk
  have i2 : c2 79 3 = nI (stp b 5) := by rw [f2 79 (by omega)]; exact i1
  have h0 : (if asL A = 1 then (0 : Nat) else 5) ≤ 5 := by split <;> omega
  have hh : (if asL A = 1 then mvA (asV A) else 5) ≤ 5 := by have := hV.2.2.2.1; split <;> omega
  have hlow : c2 10 0 = nI (asL A) := hcm.1
  refine wl2_fuel (fun i x h => x = nI i ∧ ∃ c', h = HH sh2 c' z2 ∧ (∀ a, a ≠ 82 → a ≠ y2.1.1 → c' a = c2 a) ∧ Tb m (asL A) b (c' y2.1.1) i) (stp b 5) (by omega) (fun t => ∃ y' sh' c' z', t = some (nI (DV m (asL A) b (stp b 5 - 1) (mvL (asV A)) (mvA (asV A))), HH sh' c' z') ∧ Jn n A y' sh' c' z' ∧ Kp c c' ∧ c' 80 = c 80 ∧ (∀ k, k < 5 → c' 81 k = nI (stp b k)) ∧ c' 79 3 = nI (stp b 5) ∧ Tb m (asL A) b (c' y'.1.1) (stp b 5) ∧ 36 * stp b 5 ≤ y'.1.2 ∧ ∀ a, 84 ≤ a → a < 99 → c' a = c a) ?_ _ _ ⟨rfl, c2, rfl, fun _ _ _ => rfl, fun q hq => absurd hq (by omega)⟩
  intro rec i x h hi hx
  obtain ⟨rfl, c3, rfl, f3, t3⟩ := hx
  rw [HI (k := 3) W hs.a79 rfl, bnd_s, f3 79 (by omega) (by omega), i2]
  rcases Nat.lt_or_ge i (stp b 5) with hlt | hlt
  · refine Or.inl ⟨hlt, ?_⟩
    rw [if_neg (nI_ge hlt (by omega))]
    obtain ⟨c4, e4, f4, d4⟩ := unfold_eq (c := c3) W hs hz (fun k hk => by rw [f3 81 (by omega) (by omega)]; exact w2 k hk) hlt
    rw [e4, bnd_s]
    refine wl2_fuel (fun j x h => x = nI j ∧ ∃ c', h = HH sh2 c' z2 ∧ (∀ a, a ≠ y2.1.1 → c' a = c4 a) ∧ Tb m (asL A) b (c' y2.1.1) i ∧ ∀ l a, l < j → a ≤ 5 → (asL A = 1 ∨ a = 5) → c' y2.1.1 (36 * i + (6 * l + a)) = nI (DV m (asL A) b i l a)) 6 (by omega) (fun t => ∃ y1 y3, (y1 = nI (i + 1) ∧ ∃ c', y3 = HH sh2 c' z2 ∧ (∀ a, a ≠ 82 → a ≠ y2.1.1 → c' a = c2 a) ∧ Tb m (asL A) b (c' y2.1.1) (i + 1)) ∧ t = rec y1 y3) ?_ _ _ ⟨rfl, c4, rfl, fun _ _ => rfl, by rw [f4 _ (by omega)]; exact t3, fun l a hl => absurd hl (by omega)⟩
    intro rec2 j x h hj hx
    obtain ⟨rfl, c5, rfl, f5, t5, u5⟩ := hx
    rcases Nat.lt_or_ge j 6 with hj6 | hj6
    · refine Or.inl ⟨hj6, ?_⟩
      have hlaw : ∀ c6 : Nat → Nat → Int32, (∀ a, a ≠ y2.1.1 → c6 a = c4 a) → c6 10 0 = nI (asL A) := fun c6 q => by rw [q 10 (by omega), f4 10 (by omega), f3 10 (by omega) (by omega)]; exact hlow
      rw [if_neg (six_ge hj6), HI (k := 0) W hM.1 rfl, bnd_s, hlaw c5 f5, first_eq _ hL, bnd_s]
      refine wl2_fuel (fun p x h => x = nI ((if asL A = 1 then 0 else 5) + p) ∧ ∃ c', h = HH sh2 c' z2 ∧ (∀ a, a ≠ y2.1.1 → c' a = c4 a) ∧ Tb m (asL A) b (c' y2.1.1) i ∧ (∀ l a, l < j → a ≤ 5 → (asL A = 1 ∨ a = 5) → c' y2.1.1 (36 * i + (6 * l + a)) = nI (DV m (asL A) b i l a)) ∧ ∀ a, a < (if asL A = 1 then 0 else 5) + p → (asL A = 1 ∨ a = 5) → c' y2.1.1 (36 * i + (6 * j + a)) = nI (DV m (asL A) b i j a)) (6 - (if asL A = 1 then 0 else 5)) (by omega) (fun t => ∃ y1 y3, (y1 = nI (j + 1) ∧ ∃ c', y3 = HH sh2 c' z2 ∧ (∀ a, a ≠ y2.1.1 → c' a = c4 a) ∧ Tb m (asL A) b (c' y2.1.1) i ∧ ∀ l a, l < j + 1 → a ≤ 5 → (asL A = 1 ∨ a = 5) → c' y2.1.1 (36 * i + (6 * l + a)) = nI (DV m (asL A) b i l a)) ∧ t = rec2 y1 y3) ?_ _ _ ⟨rfl, c5, rfl, f5, t5, u5, fun a ha hla => absurd hla (by split at ha <;> omega)⟩
      intro rec3 p x h hp hx
      obtain ⟨rfl, c6, rfl, f6, t6, u6, v6⟩ := hx
      generalize hf : (if asL A = 1 then (0 : Nat) else 5) = f0 at *
      have hfl : asL A = 1 ∨ f0 = 5 := by split at hf <;> omega
      rcases Nat.lt_or_ge (f0 + p) 6 with hp6 | hp6
      · refine Or.inl ⟨by omega, ?_⟩
        rw [if_neg (six_ge hp6), mem_eq, bnd_s, nm_s, HR (k := 4) W hs.a79 rfl, bnd_s, HI (k := 0) W hM.1 rfl, bnd_s, hlaw c6 f6]
        rw [answer_eq (b := b) W hs m hL hz hlen hlt (by omega) (by omega) (by omega) (fun k hk => by rw [f6 82 (by omega)]; exact d4 k hk) (fun k hk => by rw [f6 81 (by omega), f4 81 (by omega), f3 81 (by omega) (by omega)]; exact w2 k hk) t6, bnd_s, pk_mul, nI_add, show i * 36 + (6 * j + (f0 + p)) = 36 * i + (6 * j + (f0 + p)) by omega, HS W hd.1 (by omega) (by omega), bnd_s, nI_1]
        refine ⟨_, _, ⟨by rw [Nat.add_assoc], _, rfl, ?_, ?_, ?_, ?_⟩, rfl⟩
        · intro a ha
          rw [u2_other _ _ _ ha]
          exact f6 a ha
        · intro q hq l a hl ha hla
          rw [u2_ne _ _ (Or.inr (by omega))]
          exact t6 q hq l a hl ha hla
        · intro l a hl ha hla
          rw [u2_ne _ _ (Or.inr (by omega))]
          exact u6 l a hl ha hla
        · intro a ha hla
          rcases Nat.lt_or_ge a (f0 + p) with g | g
          · rw [u2_ne _ _ (Or.inr (by omega))]
            exact v6 a g hla
          · rw [show a = f0 + p by omega, u2_same, nrw0]
      · refine Or.inr ?_
        rw [if_pos (six_le hp6 (by omega)), nI_1]
        refine ⟨_, _, ⟨rfl, c6, rfl, f6, t6, ?_⟩, rfl⟩
        intro l a hl ha hla
        rcases Nat.lt_or_ge l j with g | g
        · exact u6 l a g ha hla
        · rw [show l = j by omega]
          exact v6 a (by omega) hla
    · refine Or.inr ?_
      rw [if_pos (six_le hj6 (by omega)), nI_1]
      refine ⟨_, _, ⟨rfl, c5, rfl, ?_, ?_⟩, rfl⟩
      · intro a h1 h2
        rw [f5 a h2, f4 a h1, f3 a h1 h2]
      · intro q hq l a hl ha hla
        rcases Nat.lt_or_ge q i with g | g
        · exact t5 q g l a hl ha hla
        · rw [show q = i by omega]
          exact u5 l a (by omega) ha hla
  · refine Or.inr ?_
    have ei : i = stp b 5 := by omega
    subst ei
    have hcm3 : CM c3 10 (asL A) (asP A) (asV A) := hcm.kept (fun a g1 g2 => f3 a (by omega) (by omega))
    have hl5 := hV.2.2.1
    rw [if_pos (nI_le (Nat.le_refl _) (by omega)), bnd_s, memNow_eq W hM hcm3, bnd_s, show (1 : Int32) = nI 1 from rfl, pk_sub hsp, answerAt_eq W hs (by omega), bnd_s, t3 _ (by omega) _ _ hl5 hh (by split <;> omega)]
    have hdv : DV m (asL A) b (stp b 5 - 1) (mvL (asV A)) (if asL A = 1 then mvA (asV A) else 5) = DV m (asL A) b (stp b 5 - 1) (mvL (asV A)) (mvA (asV A)) := held_dv m hL _ _ _
    rw [hdv]
    refine ⟨y2, sh2, c3, z2, rfl, J2.cc hA (Kp.of (fun a q => f3 a (by omega) (by omega))), Kp.of (fun a q => by rw [f3 a (by omega) (by omega), f2 a (by omega), f1 a (by omega) (by omega)]), ?_, ?_, ?_, t3, hlen, fun a g1 g2 => by rw [f3 a (by omega) (by omega), f2 a (by omega), f1 a (by omega) (by omega)]⟩
    · rw [f3 80 (by omega) (by omega), f2 80 (by omega), f1 80 (by omega) (by omega)]
    · intro k hk
      rw [f3 81 (by omega) (by omega)]
      exact w2 k hk
    · rw [f3 79 (by omega) (by omega)]
      exact i2
theorem fill_eq (hA : WFA A) (hn : n ≤ 10000) (J : Jn n A y sh c z) (m : Bool) (hz : sum5 b 5 < 12) (hb : ∀ k, k < 5 → c 80 k = nI (b k)) : ∃ y' sh' c' z', f_X0_fillAnswers 79 10 (if m = true then 1 else 0) (HH sh c z) = some (nI (DV m (asL A) b (stp b 5 - 1) (mvL (asV A)) (mvA (asV A))), HH sh' c' z') ∧ Jn n A y' sh' c' z' ∧ Kp c c' ∧ c' 80 = c 80 ∧ (∀ k, k < 5 → c' 81 k = nI (stp b k)) ∧ c' 79 3 = nI (stp b 5) ∧ Tb m (asL A) b (c' y'.1.1) (stp b 5) ∧ 36 * stp b 5 ≤ y'.1.2 := by
  obtain ⟨y', sh', c', z', e, J', kp, h80, h81, h79, hT, hlen, -⟩ := fill_eqF (b := b) hA hn J m hz hb
  exact ⟨y', sh', c', z', e, J', kp, h80, h81, h79, hT, hlen⟩
end FI
