/-! ===== the first row of most sacks, by both ===== -/
theorem dpF_dig {law : Nat} {b : Nat → Nat} {R : Nat → Nat → Nat → Nat} {code l a : Nat} (h : ∀ q, q < code → ∀ x y, R q x y ≤ digS b q 5) : ∀ k, k ≤ 5 → dpF false law b R code l a k ≤ digS b code 5 := by
  intro k
  induction k with
  | zero => intro _; simp [dpF]
  | succ k ih =>
    intro hk
    have ih := ih (by omega)
    simp only [dpF]
    by_cases g : 0 < dig b k code ∧ k ≠ l ∧ (law = 0 ∨ k ≠ a)
    · have h1 := dig_le g.1
      have h2 := stp_pos b k
      have h3 := h (code - stp b k) (by omega) k l
      have h4 := digS_sub g.1 5
      rw [if_pos (show k < 5 by omega)] at h4
      rw [if_pos g]
      simp only [Bool.false_eq_true, if_false]
      omega
    · rw [if_neg g]; exact ih
theorem DV_dig (law : Nat) (b : Nat → Nat) : ∀ code l a, DV false law b code l a ≤ digS b code 5 := by
  intro code
  induction code using Nat.strongRecOn with
  | _ code ih =>
    intro l a
    rw [DV_eq]
    exact dpF_dig (fun q hq x y => ih q hq x y) 5 (Nat.le_refl 5)
theorem lgN_le10 {A : AS} (hV : WFV (asV A)) : lgN A (bW (asV A)) ≤ 10 := by
  have h1 := DV_dig (asL A) (bW (asV A)) (stp (bW (asV A)) 5 - 1) (mvL (asV A)) (mvA (asV A))
  have h2 := digS_le (bW (asV A)) (stp (bW (asV A)) 5 - 1) 5
  have h3 : sum5 (bW (asV A)) 5 ≤ 10 := by
    have h1 := sum5_kc (g := gK (mvD (asV A))) (w := wW (mvD (asV A))) (mvN (asV A)) (fun i hi => (hV.2.1 i hi).1)
    have h2 := wSum_le (w := wW (mvD (asV A))) (wW_le _) (mvN (asV A))
    have h3 := hV.1
    unfold bW
    omega
  unfold lgN
  omega
theorem lg_eq0 (x y : Int64) : (lg_cmp x y = 0) = (x = y) := by
  have h1 := lg_gt x y
  have h2 := lg_lt x y
  simp only [eq_iff_iff] at *
  rw [i_lt, l_lt] at h1 h2
  rw [i_eq, l_eq]
  rw [show (0 : Int32).toInt = 0 from rfl] at h1 h2 ⊢
  omega
section RW2
variable {n : Nat} {A : AS} {y : Dy} {sh : Nat → Shp} {c c' : Nat → Nat → Int32} {z : Nat × Nat} {b : Nat → Nat}
theorem qB_iff {law : Nat} {V : MV} {s : RS} {i : Nat} : qB law V s i = true ↔ (mvD V i 4 = 0 ∧ s.1.testBit i = false ∧ (mvD V i 0 ≠ s.2.2.1 ∧ (law = 0 ∨ mvD V i 0 ≠ s.2.2.2)) ∧ 1 + DV false law (bW V) (s.2.1 - stp (bW V) (mvD V i 0)) (mvD V i 0) s.2.2.1 = DV false law (bW V) s.2.1 s.2.2.1 s.2.2.2) := by
  unfold qB
  rw [decide_eq_true_iff]
theorem rs_dig {law : Nat} {V : MV} {s : RS} {m i : Nat} (hV : WFV V) (h : rsG law V s m) (hi : i < mvN V) (h4 : mvD V i 4 = 0) (hb : s.1.testBit i = false) : stp (bW V) (mvD V i 0) ≤ s.2.1 := by
  apply dig_le
  rw [h.2.2.2.2.2 _ (hV.2.1 i hi).1]
  exact kc_ge (g := gK (mvD V)) (w := wU V s.1) (i := i) (mvN V) hi (by unfold wU; rw [if_pos ⟨h4, hb⟩]; omega)
theorem nextInRow_eq {law price : Nat} {V : MV} (hl : law ≤ 1) (W : Wz sh z) (hs : SC sh y) (hcm : CM c 10 law price V) (hV : WFV V) (hw : ∀ k, k < 5 → c 81 k = nI (stp (bW V) k)) (hT : Tb false law (bW V) (c y.1.1) (stp (bW V) 5)) (hlen : 36 * stp (bW V) 5 ≤ y.1.2) {s : RS} {m : Nat} (hG : rsG law V s (m + 1)) : f_X0_nextInRow 79 10 (nI s.1) (nI s.2.1) (nI s.2.2.1) (nI (if law = 1 then s.2.2.2 else 5)) (HH sh c z) = some (nI (rsF law V s)) := by
  obtain ⟨f1, f2, f3, f4⟩ := rs_go hV hG
  obtain ⟨g1, g2, g3, g4, g5, g6⟩ := id hG
  have hsz := size_le (bW_sum hV)
  have hh : (if law = 1 then s.2.2.2 else 5) ≤ 5 := by split <;> omega
  have hh2 : (if law = 1 then s.2.2.1 else 5) ≤ 5 := by split <;> omega
  have hn := hV.1
  obtain ⟨l1, l2, l3⟩ := lf_spec (qB law V s) (mvN V)
  unfold f_X0_nextInRow
  rw [HG W hs.a79, bnd_s, mem_eq, bnd_s, answerAt_eq W hs (by omega), bnd_s, HI (k := 0) W hs.m10.1 rfl, bnd_s, hcm.1, held_n hl, bnd_s, hT _ g2 _ _ g3 hh (by split <;> omega), held_dv false hl, g5]
  refine wl1_fuel (fun i x => x = nI i ∧ i ≤ rsF law V s) 10 (by omega) (fun t => t = some (nI (rsF law V s))) ?_ _ ⟨rfl, Nat.zero_le _⟩
  intro rec i x hi hx
  obtain ⟨rfl, hle⟩ := hx
  have hin : i < mvN V := by omega
  have hd := hV.2.1 i hin
  rw [if_neg (ten_ge (by omega)), kind_of_in W hs.m10 hcm hn hin, bnd_s, waits_in W hs.m10 hcm hV hin, bnd_s]
  simp only [jn0_s]
  have stepOn : qB law V s i = false → i + 1 ≤ rsF law V s := by
    intro q
    rcases Nat.lt_or_ge i (rsF law V s) with r | r
    · exact r
    · rw [show i = rsF law V s by omega, f2] at q
      exact absurd q (by decide)
  have cont : ∀ t : Option Int32, qB law V s i = false → t = rec (nI i + 1) → ((i < 10 ∧ ∃ y1, (y1 = nI (i + 1) ∧ i + 1 ≤ rsF law V s) ∧ t = rec y1) ∨ t = some (nI (rsF law V s))) := by
    intro t q e
    exact Or.inl ⟨by omega, _, ⟨nI_1 i, stepOn q⟩, e⟩
  have nq : ¬ (mvD V i 4 = 0 ∧ s.1.testBit i = false ∧ (mvD V i 0 ≠ s.2.2.1 ∧ (law = 0 ∨ mvD V i 0 ≠ s.2.2.2)) ∧ 1 + DV false law (bW V) (s.2.1 - stp (bW V) (mvD V i 0)) (mvD V i 0) s.2.2.1 = DV false law (bW V) s.2.1 s.2.2.1 s.2.2.2) → qB law V s i = false := by
    intro q
    cases e : qB law V s i
    · rfl
    · exact absurd (qB_iff.mp e) q
  by_cases e1 : mvD V i 4 = 0
  · rw [if_pos e1, if_neg i10]
    simp only [sh_bit0 (show s.1 < 2147483648 by omega) (show i < 31 by omega)]
    by_cases e2 : s.1.testBit i = false
    · rw [if_pos e2, kind_in hd.1, bnd_s, if_neg i10, fits_eq, bnd_s]
      by_cases e3 : mvD V i 0 ≠ s.2.2.1 ∧ (law = 0 ∨ mvD V i 0 ≠ s.2.2.2)
      · have e3' : ¬ (nI (mvD V i 0) = nI s.2.2.1 ∨ nI (mvD V i 0) = nI (if law = 1 then s.2.2.2 else 5)) := by
          rw [nI_eq (by omega) (by omega), nI_eq (by omega) (by omega)]
          split <;> omega
        have hst := rs_dig hV hG hin e1 e2
        have hp := stp_pos (bW V) (mvD V i 0)
        rw [if_neg e3', if_neg i10, HR (k := 1) W hs.a79 rfl, bnd_s, HL W hs.a81 hd.1 (by omega), bnd_s, hw _ hd.1, mem_eq, bnd_s, pk_sub hst, answerAt_eq W hs (by omega), bnd_s, hT _ (by omega) _ _ (by omega) hh2 (by split <;> omega), held_dv false hl, show (1 : Int32) = nI 1 from rfl, nI_add]
        have hbd := DV_le law (bW V) (s.2.1 - stp (bW V) (mvD V i 0)) (mvD V i 0) s.2.2.1
        have hbd2 := DV_le law (bW V) s.2.1 s.2.2.1 s.2.2.2
        by_cases e4 : 1 + DV false law (bW V) (s.2.1 - stp (bW V) (mvD V i 0)) (mvD V i 0) s.2.2.1 = m + 1
        · rw [if_pos (by rw [e4])]
          refine Or.inr ?_
          have hq : qB law V s i = true := qB_iff.mpr ⟨e1, e2, e3, by rw [e4, g5]⟩
          rw [show rsF law V s = i from lf_at hin hq (fun j hj => l2 j (Nat.lt_of_lt_of_le hj hle))]
        · rw [if_neg (by rw [nI_eq (by omega) (by omega)]; exact e4)]
          exact cont _ (nq (fun q => e4 (by rw [q.2.2.2, g5]))) rfl
      · have e3' : nI (mvD V i 0) = nI s.2.2.1 ∨ nI (mvD V i 0) = nI (if law = 1 then s.2.2.2 else 5) := by
          rw [nI_eq (by omega) (by omega), nI_eq (by omega) (by omega)]
          split <;> omega
        rw [if_pos e3', if_pos rfl]
        exact cont _ (nq (fun q => e3 q.2.2.1)) rfl
    · rw [if_neg e2]
      exact cont _ (nq (fun q => e2 q.2.1)) rfl
  · rw [if_neg e1, if_pos rfl]
    exact cont _ (nq (fun q => e1 q.1)) rfl
theorem rowSack_eq (hA : WFA A) (J : Jn n A y sh c z) (hw : ∀ k, k < 5 → c 81 k = nI (stp (bW (asV A)) k)) (h79 : c 79 3 = nI (stp (bW (asV A)) 5)) (hT : Tb false (asL A) (bW (asV A)) (c y.1.1) (stp (bW (asV A)) 5)) (hlen : 36 * stp (bW (asV A)) 5 ≤ y.1.2) {p : Nat} (hp : p < lgN A (bW (asV A))) : f_X0_rowSack 79 10 (nI p) (HH sh c z) = some (nI (rsF (asL A) (asV A) (rs (asL A) (asV A) p))) := by
  have W := J.1
  have hs := J.2.1
  have hcm := J.2.2.2.1.2.2.2.2.2.2.1
  have hV := hA.2.2.2.1
  have hl := hA.2.1
  have h10 := lgN_le10 hV
  have hsp := stp_pos (bW (asV A)) 5
  have hsz := size_le (bW_sum hV)
  have hn := hV.1
  unfold f_X0_rowSack
  rw [HG W hs.a79, bnd_s, HI (k := 9) W hs.m10.1 rfl, bnd_s, HI (k := 10) W hs.m10.1 rfl, bnd_s, HI (k := 3) W hs.a79 rfl, bnd_s, nm_s, h79, hcm.2.2.2.2.2.1, hcm.2.2.2.2.2.2.1, show nI (stp (bW (asV A)) 5) - 1 = nI (stp (bW (asV A)) 5 - 1) from pk_sub hsp]
  refine wl6_fuel (fun t x1 x2 x3 x4 x5 x6 => x1 = nI (rs (asL A) (asV A) t).2.2.1 ∧ x2 = nI (if asL A = 1 then (rs (asL A) (asV A) t).2.2.2 else 5) ∧ x3 = nI (rs (asL A) (asV A) t).2.1 ∧ x4 = nI (rs (asL A) (asV A) t).1 ∧ (0 < t → x5 = nI (rsF (asL A) (asV A) (rs (asL A) (asV A) (t - 1)))) ∧ x6 = nI t) (p + 1) (by omega) (fun t => t = some (nI (rsF (asL A) (asV A) (rs (asL A) (asV A) p)))) ?_ _ _ _ _ _ _ ⟨rfl, rfl, rfl, rfl, fun h => absurd h (by omega), rfl⟩
  intro rec t x1 x2 x3 x4 x5 x6 ht hx
  obtain ⟨rfl, rfl, rfl, rfl, h5, rfl⟩ := hx
  simp only [jn0_s]
  rcases Nat.lt_or_ge p t with hpt | hpt
  · refine Or.inr ?_
    rw [if_pos (nI_lt hpt (by omega)), h5 (by omega), show t - 1 = p by omega]
  · refine Or.inl ⟨by omega, ?_⟩
    have hp' : p < DV false (asL A) (bW (asV A)) (stp (bW (asV A)) 5 - 1) (mvL (asV A)) (mvA (asV A)) := hp
    have hG := rs_at (law := asL A) hV t (DV false (asL A) (bW (asV A)) (stp (bW (asV A)) 5 - 1) (mvL (asV A)) (mvA (asV A)) - t) (by omega)
    rw [show DV false (asL A) (bW (asV A)) (stp (bW (asV A)) 5 - 1) (mvL (asV A)) (mvA (asV A)) - t = (DV false (asL A) (bW (asV A)) (stp (bW (asV A)) 5 - 1) (mvL (asV A)) (mvA (asV A)) - t - 1) + 1 by omega] at hG
    obtain ⟨f1, f2, f3, f4⟩ := rs_go hV hG
    have hd := hV.2.1 _ f1
    have hst := dig_le f3
    rw [if_neg (nI_nlt (by omega) (by omega)), if_neg (ten_ge (by omega)), nextInRow_eq hl W hs hcm hV hw hT hlen hG, bnd_s, kind_of_in W hs.m10 hcm hn f1, bnd_s, kind_in hd.1, bnd_s, if_neg i10, nm_s, sh_one (by omega), or_n, HR (k := 1) W hs.a79 rfl, bnd_s, HL W hs.a81 hd.1 (by omega), bnd_s, hw _ hd.1, nm_s, pk_sub hst, HI (k := 0) W hs.m10.1 rfl, bnd_s, hcm.1, held_n hl, bnd_s, nI_1]
    exact ⟨_, _, _, _, _, _, ⟨rfl, rfl, rfl, rfl, fun _ => rfl, rfl⟩, rfl⟩
/-- the reference's row -/
theorem firstMost_eq (hA : WFA A) (J : Jn n A y sh c z) : ∃ T c', f_X7_firstMost 99 (HH sh c z) = some (HH (shT sh T) c' z) ∧ Jn n A y (shT sh T) c' z ∧ c' 99 15 = nI (lgN A (bW (asV A))) ∧ ∀ k, k < lgN A (bW (asV A)) → c' 109 k = nI (rsF (asL A) (asV A) (rs (asL A) (asV A) k)) := by
  have hV := hA.2.2.2.1
  have hl := hA.2.1
  have h10 := lgN_le10 hV
  have hsp := stp_pos (bW (asV A)) 5
  have hsz := size_le (bW_sum hV)
  have hn := hV.1
  obtain ⟨c1, e1, f1, b1⟩ := counts_eq J.1 J.2.2.2.2.1 J.2.2.2.2.2 hV
  have J1 : Jn n A y sh c1 z := J.cc hA (Kp.of (fun a q => f1 a (by omega)))
  obtain ⟨T, c2, e2, f2, t2⟩ := mostOf_eq (b := bW (asV A)) hA J1 (bW_sum hV) b1
  have e2' : f_X7_mostOf 99 (HH sh c1 z) = some (nI (lgN A (bW (asV A))), HH (shT sh T) c2 z) := e2
  have J2 : Jn n A y (shT sh T) c2 z := (J1.tab T).cc hA (Kp.of (fun a q => f2 a (by omega)))
  have W := J2.1
  have hS := J2.2.2.2.2.1
  have h113 : shT sh T 115 = sC (aL 14400 T) := uS_same _ _ _
  generalize hM : lgN A (bW (asV A)) = M at *
  have hM' : DV false (asL A) (bW (asV A)) (stp (bW (asV A)) 5 - 1) (mvL (asV A)) (mvA (asV A)) = M := hM
  have J3 : Jn n A y (shT sh T) (u2 c2 99 15 (nI M)) z := J2.cc hA (Kp.s97 _ _ (by omega))
  have hsl := J3.2.2.2.2.2.2.2.2.2.2.2.2.2.1
  have h52 : (u2 c2 99 15 (nI M)) 104 52 = nI (mvL (asV A)) := hsl.2.2.2.1
  have h53 : (u2 c2 99 15 (nI M)) 104 53 = nI (mvA (asV A)) := hsl.2.2.2.2.1
  have b3 : ∀ k, k < 5 → (u2 c2 99 15 (nI M)) 111 k = nI (bW (asV A) k) := fun k hk => by rw [u2_other _ _ _ (by omega), f2 111 (by omega)]; exact b1 k hk
  unfold f_X7_firstMost
  rw [HG J.1 J.2.2.2.2.1.1, bnd_s, e1, bnd_s, e2', bnd2_s, HP (k := 15) W hS.1 rfl, bnd_s, HR (k := 6) W hS.1 rfl, bnd_s, show (52 : Int32) = nI 52 from rfl, slotR W hS (by omega), bnd_s, h52, bnd_s, show (53 : Int32) = nI 53 from rfl, slotR W hS (by omega), bnd_s, h53, sizeM_eq W hS b3, bnd_s, nm_s, show nI (stp (bW (asV A)) 5) - 1 = nI (stp (bW (asV A)) 5 - 1) from pk_sub hsp]
  refine wl6_fuel (fun k x1 x2 x3 x4 x5 h => x1 = nI (rs (asL A) (asV A) k).2.2.1 ∧ x2 = nI (rs (asL A) (asV A) k).2.2.2 ∧ x3 = nI (rs (asL A) (asV A) k).2.1 ∧ x4 = nI (rs (asL A) (asV A) k).1 ∧ x5 = nI k ∧ ∃ c', h = HH (shT sh T) c' z ∧ (∀ a, a ≠ 109 → c' a = u2 c2 99 15 (nI M) a) ∧ ∀ j, j < k → c' 109 j = nI (rsF (asL A) (asV A) (rs (asL A) (asV A) j))) M (by omega) (fun t => ∃ T c', t = some (HH (shT sh T) c' z) ∧ Jn n A y (shT sh T) c' z ∧ c' 99 15 = nI M ∧ ∀ k, k < M → c' 109 k = nI (rsF (asL A) (asV A) (rs (asL A) (asV A) k))) ?_ _ _ _ _ _ _ ⟨rfl, rfl, rfl, rfl, rfl, _, rfl, fun _ _ => rfl, fun j hj => absurd hj (by omega)⟩
  intro rec k x1 x2 x3 x4 x5 h hk hx
  obtain ⟨rfl, rfl, rfl, rfl, rfl, c4, rfl, f4, r4⟩ := hx
  have h15 : c4 99 15 = nI M := by rw [f4 99 (by omega), u2_same]
  have J4 : Jn n A y (shT sh T) c4 z := J3.cc hA (Kp.of (fun a q => f4 a (by omega)))
  have hR4 := J4.2.2.2.2.2
  have h50 : c4 104 50 = nI (mvN (asV A)) := hR4.2.2.2.2.2.2.2.2.1.2.1
  have b4 : ∀ k, k < 5 → c4 111 k = nI (bW (asV A) k) := fun k hk => by rw [f4 111 (by omega)]; exact b3 k hk
  have s107 : shT sh T 109 = sA 0 10 := hS.2.2.2.2.2.2.2.2.2.2.1
  rw [HI (k := 15) W hS.1 rfl, bnd_s, h15]
  rcases Nat.lt_or_ge k M with hkM | hkM
  · refine Or.inl ⟨hkM, ?_⟩
    have hG := rs_at (law := asL A) hV k (M - k - 1 + 1) (by omega)
    obtain ⟨g1, g2, g3, g4⟩ := rs_go hV hG
    have hnext : rs (asL A) (asV A) (k + 1) = rsN (asL A) (asV A) (rs (asL A) (asV A) k) := rfl
    rw [hnext]
    generalize hs0 : rs (asL A) (asV A) k = s at *
    obtain ⟨q1, q2, q3, q4, q5, q6⟩ := id hG
    obtain ⟨l1, l2, l3⟩ := lf_spec (qB (asL A) (asV A) s) (mvN (asV A))
    have hd := hV.2.1 _ g1
    have hstF := dig_le g3
    have hn1 : 1 ≤ mvN (asV A) := by omega
    have hMk31 : M - k - 1 < 2 ^ 31 := by omega
    have hkM' : k ≤ M := by omega
    have h1Mk : 1 ≤ M - k := by omega
    have hs31 : s.2.1 < 2 ^ 31 := by omega
    rw [if_neg (nI_ge hkM (by omega)), HR (k := 6) W hS.1 rfl, bnd_s, show (50 : Int32) = nI 50 from rfl, slotR W hS (by omega), bnd_s, h50, nm_s, show nI (mvN (asV A)) - 1 = nI (mvN (asV A) - 1) from pk_sub hn1]
    refine wl2_fuel (fun t f j => j = (if t < mvN (asV A) then nI (mvN (asV A) - 1 - t) else -1) ∧ ((∃ i, mvN (asV A) - t ≤ i ∧ i < mvN (asV A) ∧ qB (asL A) (asV A) s i = true ∧ (∀ j, mvN (asV A) - t ≤ j → j < i → qB (asL A) (asV A) s j = false) ∧ f = nI i) ∨ ∀ j, mvN (asV A) - t ≤ j → j < mvN (asV A) → qB (asL A) (asV A) s j = false)) (mvN (asV A)) (by omega) (fun t => ∃ y1 y2 y3 y4 y5 y6, (y1 = nI (rsN (asL A) (asV A) s).2.2.1 ∧ y2 = nI (rsN (asL A) (asV A) s).2.2.2 ∧ y3 = nI (rsN (asL A) (asV A) s).2.1 ∧ y4 = nI (rsN (asL A) (asV A) s).1 ∧ y5 = nI (k + 1) ∧ ∃ c', y6 = HH (shT sh T) c' z ∧ (∀ a, a ≠ 109 → c' a = u2 c2 99 15 (nI M) a) ∧ ∀ j, j < k + 1 → c' 109 j = nI (rsF (asL A) (asV A) (rs (asL A) (asV A) j))) ∧ t = rec y1 y2 y3 y4 y5 y6) ?_ _ _ ⟨?_, ?_⟩
    · intro rec2 t f j ht hx
      obtain ⟨rfl, hf⟩ := hx
      rcases Nat.lt_or_ge t (mvN (asV A)) with htn | htn
      · refine Or.inl ⟨htn, ?_⟩
        rw [if_pos htn]
        have hp : mvN (asV A) - 1 - t < mvN (asV A) := by omega
        have ep : mvN (asV A) - t = mvN (asV A) - 1 - t + 1 := by omega
        have ep2 : mvN (asV A) - (t + 1) = mvN (asV A) - 1 - t := by omega
        have enext : (if t + 1 < mvN (asV A) then nI (mvN (asV A) - 1 - (t + 1)) else -1) = nI (mvN (asV A) - 1 - t) + -1 := by
          by_cases q : t + 1 < mvN (asV A)
          · rw [if_pos q, show mvN (asV A) - 1 - t = mvN (asV A) - 1 - (t + 1) + 1 by omega, pk_m1]
          · rw [if_neg q, show mvN (asV A) - 1 - t = 0 by omega]; rfl
        rw [ep] at hf
        rw [ep2, enext]
        generalize mvN (asV A) - 1 - t = p at *
        have hdp := hV.2.1 p hp
        rw [if_neg (nI_pos (by omega)), show f_X7_of 99 (nI p) 0 (HH (shT sh T) c4 z) = some (nI (mvD (asV A) p 0)) from of_in (w := 0) W hS hR4 hV hp (by omega), bnd_s, isWaiting_in W hS hR4 hV hp, bnd_s]
        simp only [jn1_s, jn0_s]
        have keepF : qB (asL A) (asV A) s p = false → ((∃ i, p ≤ i ∧ i < mvN (asV A) ∧ qB (asL A) (asV A) s i = true ∧ (∀ j, p ≤ j → j < i → qB (asL A) (asV A) s j = false) ∧ f = nI i) ∨ ∀ j, p ≤ j → j < mvN (asV A) → qB (asL A) (asV A) s j = false) := by
          intro q
          rcases hf with ⟨i, r1, r2, r3, r4, r5⟩ | r
          · refine Or.inl ⟨i, by omega, r2, r3, fun j h1 h2 => ?_, r5⟩
            rcases Nat.lt_or_ge p j with w | w
            · exact r4 j (by omega) h2
            · rw [show j = p by omega]; exact q
          · refine Or.inr (fun j h1 h2 => ?_)
            rcases Nat.lt_or_ge p j with w | w
            · exact r j (by omega) h2
            · rw [show j = p by omega]; exact q
        have nq : ¬ (mvD (asV A) p 4 = 0 ∧ s.1.testBit p = false ∧ (mvD (asV A) p 0 ≠ s.2.2.1 ∧ (asL A = 0 ∨ mvD (asV A) p 0 ≠ s.2.2.2)) ∧ 1 + DV false (asL A) (bW (asV A)) (s.2.1 - stp (bW (asV A)) (mvD (asV A) p 0)) (mvD (asV A) p 0) s.2.2.1 = DV false (asL A) (bW (asV A)) s.2.1 s.2.2.1 s.2.2.2) → qB (asL A) (asV A) s p = false := by
          intro q
          cases e : qB (asL A) (asV A) s p
          · rfl
          · exact absurd (qB_iff.mp e) q
        have z00 : (0 : Int32) = 0 := rfl
        rw [if_pos trivial, if_neg i10]
        by_cases w1 : mvD (asV A) p 4 = 0
        · rw [if_pos w1, if_neg i10]
          simp only [sh_bit0 (show s.1 < 2147483648 by omega) (show p < 31 by omega)]
          by_cases w2 : s.1.testBit p = false
          · rw [if_pos w2, isMixed_eq W hS hR4 hl (by omega) (by omega) (by omega), bnd_s]
            by_cases w3 : mvD (asV A) p 0 ≠ s.2.2.1 ∧ (asL A = 0 ∨ mvD (asV A) p 0 ≠ s.2.2.2)
            · have hst := rs_dig hV hG hp w1 w2
              have hps := stp_pos (bW (asV A)) (mvD (asV A) p 0)
              have hx : 36 * (s.2.1 - stp (bW (asV A)) (mvD (asV A) p 0)) + 6 * mvD (asV A) p 0 + s.2.2.1 < 14400 := by omega
              rw [if_pos w3, if_neg i10, HR (k := 21) W hS.1 rfl, bnd_s, stepM_eq W hS b4 (by omega), bnd_s, pk_sub hst, show (36 : Int32) = nI 36 from rfl, show (6 : Int32) = nI 6 from rfl, pk_mul, pk_mul, nI_add, nI_add, HLL W h113 hx (by omega), bnd_s, bnd_s, show 36 * (s.2.1 - stp (bW (asV A)) (mvD (asV A) p 0)) + 6 * mvD (asV A) p 0 + s.2.2.1 = 36 * (s.2.1 - stp (bW (asV A)) (mvD (asV A) p 0)) + (6 * mvD (asV A) p 0 + s.2.2.1) by omega, t2 _ (by omega) _ _ (by omega) q3, pk_sub hkM', show nI (M - k) - 1 = nI (M - k - 1) from pk_sub h1Mk, nI_l hMk31]
              have hbd := DV_le (asL A) (bW (asV A)) (s.2.1 - stp (bW (asV A)) (mvD (asV A) p 0)) (mvD (asV A) p 0) s.2.2.1
              simp only [lg_eq0]
              by_cases w4 : DV false (asL A) (bW (asV A)) (s.2.1 - stp (bW (asV A)) (mvD (asV A) p 0)) (mvD (asV A) p 0) s.2.2.1 = M - k - 1
              · rw [if_pos (by rw [w4])]
                refine ⟨_, _, ⟨rfl, Or.inl ⟨p, Nat.le_refl _, hp, qB_iff.mpr ⟨w1, w2, w3, by rw [q5, w4]; omega⟩, fun j h1 h2 => absurd h2 (by omega), rfl⟩⟩, rfl⟩
              · rw [if_neg (by rw [lN_eq (Nat.lt_of_le_of_lt hbd (Nat.lt_of_le_of_lt (Nat.sub_le _ _) hs31)) hMk31]; exact w4)]
                exact ⟨_, _, ⟨rfl, keepF (nq (fun r => w4 (by have := r.2.2.2; omega)))⟩, rfl⟩
            · rw [if_neg w3, if_pos z00]
              exact ⟨_, _, ⟨rfl, keepF (nq (fun r => w3 r.2.2.1))⟩, rfl⟩
          · rw [if_neg w2]
            exact ⟨_, _, ⟨rfl, keepF (nq (fun r => w2 r.2.1))⟩, rfl⟩
        · rw [if_neg w1, if_pos z00]
          exact ⟨_, _, ⟨rfl, keepF (nq (fun r => w1 r.1))⟩, rfl⟩
      · refine Or.inr ?_
        rw [if_neg (show ¬ t < mvN (asV A) by omega), if_pos (by decide)]
        rw [show mvN (asV A) - t = 0 by omega] at hf
        have ef : f = nI (rsF (asL A) (asV A) s) := by
          rcases hf with ⟨i, r1, r2, r3, r4, r5⟩ | r
          · rw [r5, show rsF (asL A) (asV A) s = i from lf_at r2 r3 (fun j hj => r4 j (Nat.zero_le _) hj)]
          · have := r _ (Nat.zero_le _) g1
            rw [g2] at this
            exact absurd this (by decide)
        subst ef
        have hR5 : ModR A (u2 c4 109 k (nrw 0 (nI (rsF (asL A) (asV A) s)))) := hR4.kp (Kp.s2 _ _ _ (by omega))
        have b5 : ∀ j, j < 5 → (u2 c4 109 k (nrw 0 (nI (rsF (asL A) (asV A) s)))) 111 j = nI (bW (asV A) j) := fun j hj => by rw [u2_other _ _ _ (by omega)]; exact b4 j hj
        rw [HR (k := 14) W hS.1 rfl, bnd_s, HS W s107 (show k < 10 by omega) (by omega), bnd_s, nm_s, sh_one (by omega), or_n, show f_X7_of 99 (nI (rsF (asL A) (asV A) s)) 0 (HH (shT sh T) (u2 c4 109 k (nrw 0 (nI (rsF (asL A) (asV A) s)))) z) = some (nI (mvD (asV A) (rsF (asL A) (asV A) s) 0)) from of_in (w := 0) W hS hR5 hV g1 (by omega), bnd_s, stepM_eq W hS b5 (by omega), bnd_s, nm_s, pk_sub hstF, nI_1]
        refine ⟨_, _, _, _, _, _, ⟨rfl, rfl, rfl, rfl, rfl, _, rfl, fun a ha => by rw [u2_other _ _ _ ha]; exact f4 a ha, ?_⟩, rfl⟩
        intro j hj
        rcases Nat.lt_or_ge j k with w | w
        · rw [u2_ne _ _ (Or.inr (by omega))]; exact r4 j w
        · rw [show j = k by omega, u2_same, nrw0, hs0]
    · rw [if_pos (by omega), Nat.sub_zero]
    · refine Or.inr (fun j h1 h2 => absurd h1 (by omega))
  · refine Or.inr ?_
    rw [if_pos (nI_le hkM (by omega))]
    exact ⟨T, c4, rfl, J4, h15, fun j hj => r4 j (by omega)⟩
end RW2
