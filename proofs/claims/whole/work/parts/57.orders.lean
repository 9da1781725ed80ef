/-! ===== the orders ===== -/
theorem jn1_if {ρ A1 : Type} {P : Prop} [Decidable P] (K : A1 → Option ρ) (x y : A1) : (jn1 K fun k => if P then k x else k y) = K (if P then x else y) := by
  rw [jn1_s]
  split <;> rfl
section OR
variable {n : Nat} {A : AS} {y : Dy} {sh : Nat → Shp} {c c' : Nat → Nat → Int32} {z : Nat × Nat} {b : Nat → Nat}
theorem ordersM_eq (hA : WFA A) (J : Jn n A y sh c z) {c0 : Nat → Nat → Int32} (hcn : f_X7_counts 99 (HH sh c0 z) = some (HH sh c z)) (hg : gO (HH sh c0 z) 99 7 = gO (HH sh c z) 99 7) (hz : sum5 b 5 < 12) (hb : ∀ k, k < 5 → c 111 k = nI (b k)) : ∃ T c', f_X7_orders 99 (HH sh c0 z) = some (lN (DV true (asL A) b (stp b 5 - 1) (mvL (asV A)) (mvA (asV A))), HH (shT sh T) c' z) ∧ (∀ a, a ≠ 110 → c' a = c a) ∧ TL true (asL A) b T (stp b 5) := by
  have hsz := size_le hz
  have hsp := stp_pos b 5
  have hV := hA.2.2.2.1
  unfold f_X7_orders
  rw [hg, HG J.1 J.2.2.2.2.1.1, bnd_s, hcn, bnd_s, sizeM_eq J.1 J.2.2.2.2.1 hb, bnd_s]
  obtain ⟨T0, e0⟩ := J.tb
  refine wl2_fuel (fun i x h => x = nI i ∧ ∃ T c', h = HH (shT sh T) c' z ∧ (∀ a, a ≠ 110 → c' a = c a) ∧ TL true (asL A) b T i) (stp b 5) (by omega) (fun t => ∃ T c', t = some (lN (DV true (asL A) b (stp b 5 - 1) (mvL (asV A)) (mvA (asV A))), HH (shT sh T) c' z) ∧ (∀ a, a ≠ 110 → c' a = c a) ∧ TL true (asL A) b T (stp b 5)) ?_ _ _ ⟨rfl, T0, c, congrArg (fun s => HH s c z) e0, fun _ _ => rfl, fun q hq => absurd hq (by omega)⟩
  intro rec i x h hi hx
  obtain ⟨rfl, T1, c1, rfl, f1, t1⟩ := hx
  have J1 : Jn n A y (shT sh T1) c1 z := (J.tab T1).cc hA (Kp.of (fun a q => f1 a (by omega)))
  have hb1 : ∀ k, k < 5 → c1 111 k = nI (b k) := fun k hk => by rw [f1 111 (by omega)]; exact hb k hk
  rcases Nat.lt_or_ge i (stp b 5) with hlt | hlt
  · refine Or.inl ⟨hlt, ?_⟩
    rw [if_neg (nI_ge hlt (by omega))]
    obtain ⟨c2, e2, f2, d2⟩ := counted_eq J1.1 J1.2.2.2.2.1 hz hb1 hlt
    rw [e2, bnd_s]
    have f2' : ∀ a, a ≠ 110 → c2 a = c a := fun a ha => by rw [f2 a ha, f1 a ha]
    have hb2 : ∀ k, k < 5 → c2 111 k = nI (b k) := fun k hk => by rw [f2' 111 (by omega)]; exact hb k hk
    have Jc : Jn n A y sh c2 z := J.cc hA (Kp.of (fun a q => f2' a (by omega)))
    refine wl2_fuel (fun q x h => x = nI q ∧ ∃ T, h = HH (shT sh T) c2 z ∧ TL true (asL A) b T i ∧ ∀ p, p < q → T (36 * i + p) = lN (DV true (asL A) b i (p / 6) (p % 6))) 36 (by omega) (fun t => ∃ y1 y3, (y1 = nI (i + 1) ∧ ∃ T c', y3 = HH (shT sh T) c' z ∧ (∀ a, a ≠ 110 → c' a = c a) ∧ TL true (asL A) b T (i + 1)) ∧ t = rec y1 y3) ?_ _ _ ⟨rfl, T1, rfl, t1, fun p hp => absurd hp (by omega)⟩
    intro rec2 q x h hq hx
    obtain ⟨rfl, T3, rfl, t3, u3⟩ := hx
    rcases Nat.lt_or_ge q 36 with hq6 | hq6
    · refine Or.inl ⟨hq6, ?_⟩
      have JT := Jc.tab T3
      have W := JT.1
      have hS := JT.2.2.2.2.1
      rw [if_neg (t36_ge hq6)]
      have h00 : (if nI i = 0 then (1 : Int64) else 0) = lN (dpF true (asL A) b (DV true (asL A) b) i (q / 6) (q % 6) 0) := by
        simp only [dpF, true_and]
        by_cases e : i = 0
        · rw [if_pos e, if_pos (by rw [e]; rfl)]; rfl
        · rw [if_neg e, if_neg (nI_ne0 (by omega) (by omega))]; rfl
      rw [jn1_if]
      refine wl2_fuel (fun k v x => v = lN (dpF true (asL A) b (DV true (asL A) b) i (q / 6) (q % 6) k) ∧ x = nI k) 5 (by omega) (fun t => ∃ y1 y3, (y1 = nI (q + 1) ∧ ∃ T, y3 = HH (shT sh T) c2 z ∧ TL true (asL A) b T i ∧ ∀ p, p < q + 1 → T (36 * i + p) = lN (DV true (asL A) b i (p / 6) (p % 6))) ∧ t = rec2 y1 y3) ?_ _ _ ⟨h00, rfl⟩
      intro rec3 k v x hk hx
      obtain ⟨rfl, rfl⟩ := hx
      rcases Nat.lt_or_ge k 5 with hk5 | hk5
      · refine Or.inl ⟨hk5, ?_⟩
        have hd := dig_lt b k i
        have hbk : b k ≤ 324 := by
          have h1 := stp5_le (b := b) (k := k + 1) (by omega) hz
          simp only [stp] at h1
          have h2 := Nat.le_mul_of_pos_left (b k + 1) (stp_pos b k)
          omega
        rw [if_neg (five_ge hk5), HR (k := 16) W hS.1 rfl, bnd_s, HL W hS.rb.1 hk5 (by omega), bnd_s, d2 k hk5]
        simp only [jn1_s]
        by_cases g1 : 0 < dig b k i
        · rw [if_neg (nI_nle g1 (by omega)), cell_eq true hA Jc hz hb2 hlt hq6 hk5 t3]
          by_cases g2 : k ≠ q / 6 ∧ (asL A = 0 ∨ k ≠ q % 6)
          · rw [if_pos g2, if_pos (dig_le g1), nm_s, lN_add, nI_1]
            refine ⟨_, _, ⟨rfl, rfl⟩, ?_⟩
            simp only [dpF]
            rw [if_pos ⟨g1, g2⟩]
            simp only [if_true]
          · rw [if_neg g2, nI_1]
            refine ⟨_, _, ⟨rfl, rfl⟩, ?_⟩
            simp only [dpF]
            rw [if_neg (fun r => g2 r.2)]
        · rw [show dig b k i = 0 by omega, if_pos (by decide), nI_1]
          refine ⟨_, _, ⟨rfl, rfl⟩, ?_⟩
          simp only [dpF]
          rw [if_neg (fun r => g1 r.1)]
      · refine Or.inr ?_
        have h113 : shT sh T3 115 = sC (aL 14400 T3) := uS_same _ _ _
        have hx : 36 * i + q < 14400 := by omega
        rw [if_pos (five_le hk5 (by omega)), HR (k := 21) W hS.1 rfl, bnd_s, show (36 : Int32) = nI 36 from rfl, pk_mul, nI_add, HSL W h113 hx (by omega), bnd_s, uS_uS, nI_1, show k = 5 by omega, ← DV_eq]
        refine ⟨_, _, ⟨rfl, _, rfl, TL_put t3 hq6, ?_⟩, rfl⟩
        intro p hp
        rcases Nat.lt_or_ge p q with g | g
        · rw [pk_uLn (by omega)]; exact u3 p g
        · rw [show p = q by omega, pk_uLs]
    · refine Or.inr ?_
      rw [if_pos (t36_le hq6 (by omega)), nI_1]
      refine ⟨_, _, ⟨rfl, T3, c2, rfl, f2', ?_⟩, rfl⟩
      intro q' hq' l a hl ha
      rcases Nat.lt_or_ge q' i with g | g
      · exact t3 q' g l a hl ha
      · rw [show q' = i by omega, u3 (6 * l + a) (by omega), show (6 * l + a) / 6 = l by omega, show (6 * l + a) % 6 = a by omega]
  · refine Or.inr ?_
    have ei : i = stp b 5 := by omega
    subst ei
    have W := J1.1
    have hS := J1.2.2.2.2.1
    have hsl := J1.2.2.2.2.2.2.2.2.2.2.2.2.2.1
    have h52 : c1 104 52 = nI (mvL (asV A)) := hsl.2.2.2.1
    have h53 : c1 104 53 = nI (mvA (asV A)) := hsl.2.2.2.2.1
    have l5 := hV.2.2.1
    have a5 := hV.2.2.2.1
    have h113 : shT sh T1 115 = sC (aL 14400 T1) := uS_same _ _ _
    have hx : 36 * (stp b 5 - 1) + 6 * mvL (asV A) + mvA (asV A) < 14400 := by omega
    rw [if_pos (nI_le (Nat.le_refl _) (by omega)), HR (k := 21) W hS.1 rfl, bnd_s, HR (k := 6) W hS.1 rfl, bnd_s, show (52 : Int32) = nI 52 from rfl, slotR W hS (by omega), bnd_s, h52, bnd_s, show (53 : Int32) = nI 53 from rfl, slotR W hS (by omega), bnd_s, h53, show (1 : Int32) = nI 1 from rfl, pk_sub hsp, show (36 : Int32) = nI 36 from rfl, show (6 : Int32) = nI 6 from rfl, pk_mul, pk_mul, nI_add, nI_add, HLL W h113 hx (by omega), bnd_s, show 36 * (stp b 5 - 1) + 6 * mvL (asV A) + mvA (asV A) = 36 * (stp b 5 - 1) + (6 * mvL (asV A) + mvA (asV A)) by omega, t1 _ (by omega) _ _ l5 a5]
    exact ⟨T1, c1, rfl, f1, t1⟩

/-- the numbers of kinds that wait -/
def bW (V : MV) : Nat → Nat := kc (gK (mvD V)) (wW (mvD V)) (mvN V)
theorem bW_sum {V : MV} (hV : WFV V) : sum5 (bW V) 5 < 12 := by
  have h1 := sum5_kc (g := gK (mvD V)) (w := wW (mvD V)) (mvN V) (fun i hi => (hV.2.1 i hi).1)
  have h2 := wSum_le (w := wW (mvD V)) (wW_le _) (mvN V)
  have h3 := hV.1
  unfold bW
  omega
/-- the class takes all that wait and fills its table -/
theorem clsAll (hA : WFA A) (hn : n ≤ 10000) (J : Jn n A y sh c z) (m : Bool) : ∃ c2 y' sh' c' z', f_X0_takeAll 79 10 (HH sh c z) = some (HH sh c2 z) ∧ Jn n A y sh c2 z ∧ f_X0_fillAnswers 79 10 (if m = true then 1 else 0) (HH sh c2 z) = some (nI (DV m (asL A) (bW (asV A)) (stp (bW (asV A)) 5 - 1) (mvL (asV A)) (mvA (asV A))), HH sh' c' z') ∧ Jn n A y' sh' c' z' ∧ (∀ k, k < 5 → c' 80 k = nI (bW (asV A) k)) ∧ (∀ k, k < 5 → c' 81 k = nI (stp (bW (asV A)) k)) ∧ c' 79 3 = nI (stp (bW (asV A)) 5) ∧ Tb m (asL A) (bW (asV A)) (c' y'.1.1) (stp (bW (asV A)) 5) ∧ 36 * stp (bW (asV A)) 5 ≤ y'.1.2 := by
  have hV := hA.2.2.2.1
  obtain ⟨c2, e2, f2, b2⟩ := takeAll_eq J.1 J.2.1 J.2.2.2.1.2.2.2.2.2.2.1 hV
  have J2 : Jn n A y sh c2 z := J.cc hA (Kp.of (fun a q => f2 a (by omega)))
  obtain ⟨y', sh', c', z', e, J', kp, h80, h81, h79, hT, hlen⟩ := fill_eq (b := bW (asV A)) hA hn J2 m (bW_sum hV) b2
  exact ⟨c2, y', sh', c', z', e2, J2, e, J', fun k hk => by rw [h80]; exact b2 k hk, h81, h79, hT, hlen⟩
theorem op_orders {n : Nat} {h : Hp} (hn : n ≤ 10000) (hI : Inv n h) : ∃ r h1 h2, f_X6_orders 0 h = some (r, h1) ∧ f_X7_orders 99 h1 = some (r, h2) ∧ Inv (n + 1) h2 := by
  obtain ⟨A, y, sh, c, z, rfl, hA, J⟩ := hI.jn
  have hV := hA.2.2.2.1
  obtain ⟨c2, y', sh', c', z', e2, J2, e, J', -⟩ := clsAll hA hn J true
  obtain ⟨c3, e3, f3, b3⟩ := counts_eq J'.1 J'.2.2.2.2.1 J'.2.2.2.2.2 hV
  have J3 : Jn n A y' sh' c3 z' := J'.cc hA (Kp.of (fun a q => f3 a (by omega)))
  obtain ⟨T, c4, e4, f4, -⟩ := ordersM_eq (b := bW (asV A)) hA J3 e3 (by rw [HG J'.1 J'.2.2.2.2.1.1, HG J'.1 J'.2.2.2.2.1.1, f3 99 (by omega)]) (bW_sum hV) b3
  refine ⟨_, _, _, ?_, e4, ((J3.tab T).cc hA (Kp.of (fun a q => f4 a (by omega)))).inv hA⟩
  unfold f_X6_orders f_X0_countWays
  have e' : f_X0_fillAnswers 79 10 1 (HH sh c2 z) = _ := e
  rw [HG J.1 J.2.1.1, bnd_s, HR (k := 11) J.1 J.2.1.1 rfl, bnd_s, HR (k := 4) J.1 J.2.1.1 rfl, bnd_s, e2, bnd_s, HR (k := 11) J.1 J.2.1.1 rfl, bnd_s, HR (k := 4) J.1 J.2.1.1 rfl, bnd_s, HG J.1 J.2.1.a79, bnd_s, e', bnd2_s, bnd2_s, nI_l (DV_cnt_lt (bW_sum hV) _ _ _)]
end OR
