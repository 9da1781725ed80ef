/-! ===== the fewest halvings ===== -/
def fMo (D : Nat → Nat → Nat) (i : Nat) : Nat := if D i 4 = 0 then D i 1 - 1 else 0
def fSp (D : Nat → Nat → Nat) (k i : Nat) : Nat := if D i 4 = 0 ∧ D i 0 = k then D i 1 - 1 else 0
def fBe (D : Nat → Nat → Nat) (k i : Nat) : Nat := if D i 4 = 0 ∧ D i 0 ≠ k then D i 1 else 0
theorem beside (D : Nat → Nat → Nat) (k : Nat) : ∀ n, (∀ i, i < n → 1 ≤ D i 1) → wSum (fBe D k) n + wSum (fSp D k) n + kc (gK D) (wW D) n k = wSum (fMo D) n + wSum (wW D) n := by
  intro n
  induction n with
  | zero => intro _; rfl
  | succ n ih =>
    intro h
    have h1 := ih (fun i hi => h i (by omega))
    have h2 := h n (by omega)
    have a1 : fBe D k n = if D n 4 = 0 ∧ D n 0 ≠ k then D n 1 else 0 := rfl
    have a2 : fSp D k n = if D n 4 = 0 ∧ D n 0 = k then D n 1 - 1 else 0 := rfl
    have a3 : fMo D n = if D n 4 = 0 then D n 1 - 1 else 0 := rfl
    have a4 : wW D n = if D n 4 = 0 then 1 else 0 := rfl
    have a5 : (if gK D n = k then wW D n else 0) = if D n 0 = k then wW D n else 0 := rfl
    simp only [wSum, kc]
    rw [a5]
    by_cases e : D n 4 = 0
    · rw [if_pos e] at a3 a4
      by_cases e2 : D n 0 = k
      · rw [if_neg (fun r => r.2 e2)] at a1
        rw [if_pos ⟨e, e2⟩] at a2
        rw [if_pos e2]
        omega
      · rw [if_pos ⟨e, e2⟩] at a1
        rw [if_neg (fun r => e2 r.2)] at a2
        rw [if_neg e2]
        omega
    · rw [if_neg e] at a3 a4
      rw [if_neg (fun r => e r.1)] at a1 a2
      split <;> omega
theorem wSum_b {w : Nat → Nat} {m : Nat} : ∀ n, (∀ i, i < n → w i ≤ m) → wSum w n ≤ n * m := by
  intro n
  induction n with
  | zero => intro _; simp [wSum]
  | succ n ih =>
    intro h
    have h1 := ih (fun i hi => h i (by omega))
    have h2 := h n (by omega)
    simp only [wSum]
    rw [Nat.succ_mul]
    omega
section HV
variable {n : Nat} {A : AS} {y : Dy} {sh : Nat → Shp} {c c' : Nat → Nat → Int32} {z : Nat × Nat} {b : Nat → Nat}
theorem sizesBeside_eq (W : Wz sh z) {a law price : Nat} {V : MV} (hM : isM sh a) (hc : CM c a law price V) (hV : WFV V) {k : Nat} (hk : k < 5) : f_X0_sizesBeside a (nI k) (HH sh c z) = some (nI (wSum (fBe (mvD V) k) (mvN V))) := by
  unfold f_X0_sizesBeside
  have hn := hV.1
  refine wl2_fuel (fun i x j => x = nI (wSum (fBe (mvD V) k) (min i (mvN V))) ∧ j = nI i) 10 (by omega) (fun t => t = some (nI (wSum (fBe (mvD V) k) (mvN V)))) ?_ _ _ ⟨by rw [Nat.zero_min]; rfl, rfl⟩
  intro rec i x j hi hx
  obtain ⟨rfl, rfl⟩ := hx
  rcases Nat.lt_or_ge i 10 with h5 | h5
  · refine Or.inl ⟨h5, ?_⟩
    rw [if_neg (ten_ge h5)]
    simp only [jn1_s, nm_s]
    rcases Nat.lt_or_ge i (mvN V) with q | q
    · have hd := hV.2.1 i q
      rw [show min i (mvN V) = i by omega, show min (i + 1) (mvN V) = i + 1 by omega, waits_in W hM hc hV q, bnd_s, HR (k := 3) W hM.1 rfl, bnd_s, HL W hM.row.1 h5 (by omega), bnd_s, (hc.at q).1, HR (k := 4) W hM.1 rfl, bnd_s, HL W hM.row.2.1 h5 (by omega), bnd_s, (hc.at q).2.1, nI_add, nI_1]
      by_cases e : mvD V i 4 = 0
      · rw [if_pos e, if_neg i10]
        by_cases e2 : mvD V i 0 = k
        · rw [if_pos (by rw [e2])]
          refine ⟨_, _, ⟨rfl, rfl⟩, ?_⟩
          simp only [wSum, fBe]
          rw [if_neg (fun r => r.2 e2)]
          rfl
        · rw [if_neg (by rw [nI_eq (by omega) (by omega)]; exact e2)]
          refine ⟨_, _, ⟨rfl, rfl⟩, ?_⟩
          simp only [wSum, fBe]
          rw [if_pos ⟨e, e2⟩]
      · rw [if_neg e, if_pos rfl]
        refine ⟨_, _, ⟨rfl, rfl⟩, ?_⟩
        simp only [wSum, fBe]
        rw [if_neg (fun r => e r.1)]
        rfl
    · rw [waits_out W hM hc (Or.inr (nI_le q (by omega))), bnd_s, if_pos rfl, nI_1]
      refine ⟨_, _, ⟨by rw [show min (i + 1) (mvN V) = min i (mvN V) by omega], rfl⟩, rfl⟩
  · refine Or.inr ?_
    rw [if_pos (ten_le h5 (by omega)), show min i (mvN V) = mvN V by omega]
theorem splits_eq (W : Wz sh z) (hS : SMo sh) (hR : ModR A c) (hV : WFV (asV A)) {k : Nat} (hk : k < 5) : f_X7_splits 99 (nI k) (HH sh c z) = some (nI (wSum (fSp (mvD (asV A)) k) (mvN (asV A)))) := by
  unfold f_X7_splits
  have hn := hV.1
  have h50 : c 104 50 = nI (mvN (asV A)) := hR.2.2.2.2.2.2.2.2.1.2.1
  rw [HG W hS.1, bnd_s]
  refine wl2_fuel (fun i x j => x = nI (wSum (fSp (mvD (asV A)) k) i) ∧ j = nI i) (mvN (asV A)) (by omega) (fun t => t = some (nI (wSum (fSp (mvD (asV A)) k) (mvN (asV A))))) ?_ _ _ ⟨rfl, rfl⟩
  intro rec i x j hi hx
  obtain ⟨rfl, rfl⟩ := hx
  rw [HR (k := 6) W hS.1 rfl, bnd_s, show (50 : Int32) = nI 50 from rfl, slotR W hS (by omega), bnd_s, h50]
  rcases Nat.lt_or_ge i (mvN (asV A)) with hl | hl
  · refine Or.inl ⟨hl, ?_⟩
    have hd := hV.2.1 i hl
    rw [if_neg (nI_ge hl (by omega)), isWaiting_in W hS hR hV hl, bnd_s]
    simp only [jn1_s, jn0_s, nm_s]
    rw [show f_X7_of 99 (nI i) 0 (HH sh c z) = some (nI (mvD (asV A) i 0)) from of_in (w := 0) W hS hR hV hl (by omega), bnd_s, show f_X7_of 99 (nI i) 1 (HH sh c z) = some (nI (mvD (asV A) i 1)) from of_in (w := 1) W hS hR hV hl (by omega), bnd_s, nI_1, show nI (mvD (asV A) i 1) - 1 = nI (mvD (asV A) i 1 - 1) from pk_sub hd.2.1, nI_add]
    by_cases e : mvD (asV A) i 4 = 0
    · rw [if_pos e, if_neg i10]
      by_cases e2 : mvD (asV A) i 0 = k
      · rw [if_pos (by rw [e2])]
        refine ⟨_, _, ⟨rfl, rfl⟩, ?_⟩
        simp only [wSum, fSp]
        rw [if_pos ⟨e, e2⟩]
      · rw [if_neg (by rw [nI_eq (by omega) (by omega)]; exact e2)]
        refine ⟨_, _, ⟨rfl, rfl⟩, ?_⟩
        simp only [wSum, fSp]
        rw [if_neg (fun r => e2 r.2), show (0 : Int32) = nI 0 from rfl, nI_add]
    · rw [if_neg e, if_pos rfl]
      refine ⟨_, _, ⟨rfl, rfl⟩, ?_⟩
      simp only [wSum, fSp]
      rw [if_neg (fun r => e r.1), show (0 : Int32) = nI 0 from rfl, nI_add]
  · refine Or.inr ?_
    rw [if_pos (nI_le hl (by omega)), show i = mvN (asV A) by omega]
/-- 1, if the kind wasn't the last -/
def eL (V : MV) (k : Nat) : Nat := if k = mvL V then 0 else 1
/-- too many of a kind -/
def exc (V : MV) (k : Nat) : Prop := sum5 (bW V) 5 + eL V k < 2 * bW V k
def hvV (V : MV) (k : Nat) : Int32 := if 2 * bW V k - (sum5 (bW V) 5 + eL V k) + wSum (fSp (mvD V) k) (mvN V) ≤ wSum (fMo (mvD V)) (mvN V) then nI (2 * bW V k - (sum5 (bW V) 5 + eL V k)) else -4
def hvR (V : MV) (r : Int32) : Prop := (∀ k, k < 5 → ¬ exc V k) ∧ r = 0 ∨ ∃ k, k < 5 ∧ exc V k ∧ r = hvV V k
theorem b_two {b : Nat → Nat} {k j : Nat} (hk : k < 5) (hj : j < 5) (hne : k ≠ j) : b k + b j ≤ sum5 b 5 := by
  simp only [sum5]
  rcases (show k = 0 ∨ k = 1 ∨ k = 2 ∨ k = 3 ∨ k = 4 by omega) with e | e | e | e | e <;> rcases (show j = 0 ∨ j = 1 ∨ j = 2 ∨ j = 3 ∨ j = 4 by omega) with e' | e' | e' | e' | e' <;> subst e <;> subst e' <;> omega
theorem b_one {b : Nat → Nat} {k : Nat} (hk : k < 5) : b k ≤ sum5 b 5 := by
  simp only [sum5]
  rcases (show k = 0 ∨ k = 1 ∨ k = 2 ∨ k = 3 ∨ k = 4 by omega) with e | e | e | e | e <;> subst e <;> omega
theorem exc_one {V : MV} {k j : Nat} (hk : k < 5) (hj : j < 5) (h1 : exc V k) (h2 : exc V j) : k = j := by
  rcases Nat.lt_trichotomy k j with g | g | g
  · have := b_two (b := bW V) hk hj (by omega)
    unfold exc at h1 h2
    omega
  · exact g
  · have := b_two (b := bW V) hk hj (by omega)
    unfold exc at h1 h2
    omega
theorem hvR_one {V : MV} {r r' : Int32} (h : hvR V r) (h' : hvR V r') : r = r' := by
  rcases h with ⟨h1, rfl⟩ | ⟨k, hk, h1, rfl⟩ <;> rcases h' with ⟨h2, rfl⟩ | ⟨j, hj, h2, rfl⟩
  · rfl
  · exact absurd h2 (h1 j hj)
  · exact absurd h1 (h2 k hk)
  · rw [exc_one hk hj h1 h2]
theorem halvC (W : Wz sh z) (hs : SC sh y) {law price : Nat} {V : MV} (hcm : CM c 10 law price V) (hV : WFV V) : ∃ r c', f_X0_fewestHalvings 79 10 (HH sh c z) = some (r, HH sh c' z) ∧ (∀ a, a ≠ 80 → c' a = c a) ∧ hvR V r := by
  obtain ⟨c2, e2, f2, b2⟩ := takeAll_eq W hs hcm hV
  have b2' : ∀ k, k < 5 → c2 80 k = nI (bW V k) := b2
  have hcm2 : CM c2 10 law price V := hcm.kept (fun a q1 q2 => f2 a (by omega))
  have hsum := bW_sum hV
  have hbe := beside (mvD V)
  have hall : sum5 (bW V) 5 = wSum (wW (mvD V)) (mvN V) := sum5_kc _ (fun i hi => (hV.2.1 i hi).1)
  have hl5 := hV.2.2.1
  have hn := hV.1
  unfold f_X0_fewestHalvings
  rw [HG W hs.a79, bnd_s, e2, bnd_s, total_eq W hs b2', bnd_s]
  refine wl1_fuel (fun i x => x = nI i ∧ ∀ k, k < i → ¬ exc V k) 5 (by omega) (fun t => ∃ r c', t = some (r, HH sh c' z) ∧ (∀ a, a ≠ 80 → c' a = c a) ∧ hvR V r) ?_ _ ⟨rfl, fun k hk => absurd hk (by omega)⟩
  intro rec i x hi hx
  obtain ⟨rfl, hno⟩ := hx
  rcases Nat.lt_or_ge i 5 with h5 | h5
  · have hb1 := b_one (b := bW V) h5
    have hfb := wSum_b (w := fBe (mvD V) i) (m := 9) (mvN V) (fun j hj => by have := (hV.2.1 j hj).2.2.1; unfold fBe; split <;> omega)
    have hbi : wSum (fBe (mvD V) i) (mvN V) + wSum (fSp (mvD V) i) (mvN V) + bW V i = wSum (fMo (mvD V)) (mvN V) + wSum (wW (mvD V)) (mvN V) := hbe i (mvN V) (fun j hj => (hV.2.1 j hj).2.1)
    have he : eL V i ≤ 1 := by unfold eL; split <;> omega
    rw [if_neg (five_ge h5), HR (k := 0) W hs.a79 rfl, bnd_s, HL W hs.a80 h5 (by omega), bnd_s, b2' i h5, nm_s, HI (k := 9) W hs.m10.1 rfl, bnd_s, hcm2.2.2.2.2.2.1, pk_sub hb1]
    simp only [jn1_s]
    have tail : ∀ w : Int32, w.toInt = (bW V i : Int) - eL V i → ((i < 5 ∧ ∃ y1, (y1 = nI (i + 1) ∧ ∀ k, k < i + 1 → ¬ exc V k) ∧ (if w ≤ nI (sum5 (bW V) 5 - bW V i) then rec (nI i + 1) else (bnd (f_X0_sizesBeside 10 (nI i) (HH sh c2 z)) fun x13 => if x13 < w then some (-4, HH sh c2 z) else some (w - nI (sum5 (bW V) 5 - bW V i), HH sh c2 z))) = rec y1) ∨ ∃ r c', (if w ≤ nI (sum5 (bW V) 5 - bW V i) then rec (nI i + 1) else (bnd (f_X0_sizesBeside 10 (nI i) (HH sh c2 z)) fun x13 => if x13 < w then some (-4, HH sh c2 z) else some (w - nI (sum5 (bW V) 5 - bW V i), HH sh c2 z))) = some (r, HH sh c' z) ∧ (∀ a, a ≠ 80 → c' a = c a) ∧ hvR V r) := by
      intro w hw
      by_cases g : exc V i
      · refine Or.inr ?_
        have g' := g
        unfold exc at g'
        have ew : w = nI (bW V i - eL V i) := by
          rw [i_eq, hw, nI_T _ (by omega)]
          omega
        rw [ew, if_neg (nI_ge (by omega) (by omega)), sizesBeside_eq W hs.m10 hcm2 hV h5, bnd_s, pk_sub (by omega)]
        refine ⟨hvV V i, c2, ?_, f2, Or.inr ⟨i, h5, g, rfl⟩⟩
        unfold hvV
        by_cases g2 : 2 * bW V i - (sum5 (bW V) 5 + eL V i) + wSum (fSp (mvD V) i) (mvN V) ≤ wSum (fMo (mvD V)) (mvN V)
        · rw [if_neg (nI_nlt (by omega) (by omega)), if_pos g2, show bW V i - eL V i - (sum5 (bW V) 5 - bW V i) = 2 * bW V i - (sum5 (bW V) 5 + eL V i) by omega]
        · rw [if_pos (nI_lt (by omega) (by omega)), if_neg g2]
      · refine Or.inl ⟨h5, ?_⟩
        have g' := g
        unfold exc at g'
        rw [if_pos (by rw [i_le, hw, nI_T _ (by omega)]; omega), nI_1]
        refine ⟨_, ⟨rfl, fun k hk => ?_⟩, rfl⟩
        rcases Nat.lt_or_ge k i with q | q
        · exact hno k q
        · rw [show k = i by omega]; exact g
    by_cases e : i = mvL V
    · rw [if_pos (by rw [e]), bnd_s, HL W hs.a80 h5 (by omega), bnd_s, b2' i h5]
      exact tail _ (by rw [nI_T _ (by omega)]; unfold eL; rw [if_pos e]; omega)
    · rw [if_neg (by rw [nI_eq (by omega) (by omega)]; exact e), bnd_s, HL W hs.a80 h5 (by omega), bnd_s, b2' i h5]
      exact tail _ (by rw [show (1 : Int32) = nI 1 from rfl, pk_sub_toInt (by omega) (by omega)]; unfold eL; rw [if_neg e])
  · refine Or.inr ?_
    rw [if_pos (five_le h5 (by omega))]
    exact ⟨0, c2, rfl, f2, Or.inl ⟨fun k hk => hno k (by omega), rfl⟩⟩
theorem halvM {n : Nat} (hA : WFA A) (J : Jn n A y sh c z) (h0 : asL A = 0) : ∃ r c', f_X7_halvings 99 (HH sh c z) = some (r, HH sh c' z) ∧ (∀ a, a ≠ 111 → c' a = c a) ∧ hvR (asV A) r := by
  have hV := hA.2.2.2.1
  have W := J.1
  have hS := J.2.2.2.2.1
  have hR := J.2.2.2.2.2
  obtain ⟨c1, e1, f1, b1⟩ := counts_eq W hS hR hV
  have b1' : ∀ k, k < 5 → c1 111 k = nI (bW (asV A) k) := b1
  have hR1 : ModR A c1 := hR.kp (Kp.of (fun a q => f1 a (by omega)))
  have h99 : c 101 0 = nI (asL A) := hR.2.2.2.2.2.2.1
  have h50 : c1 104 50 = nI (mvN (asV A)) := hR1.2.2.2.2.2.2.2.2.1.2.1
  have h52 : c1 104 52 = nI (mvL (asV A)) := hR1.2.2.2.2.2.2.2.2.1.2.2.2.1
  have hn := hV.1
  have hl5 := hV.2.2.1
  have hsum := bW_sum hV
  have hall : sum5 (bW (asV A)) 5 = wSum (wW (mvD (asV A))) (mvN (asV A)) := sum5_kc _ (fun i hi => (hV.2.1 i hi).1)
  have hfm := wSum_b (w := fMo (mvD (asV A))) (m := 9) (mvN (asV A)) (fun j hj => by have := (hV.2.1 j hj).2.2.1; unfold fMo; split <;> omega)
  unfold f_X7_halvings
  rw [HG W hS.1, bnd_s, HR (k := 3) W hS.1 rfl, bnd_s, show ldI 0 (HH sh c z) 101 0 = some (c 101 0) from HL (i := 0) W hS.2.2.1 (by omega) (by omega), bnd_s, h99, h0, if_neg (by decide), e1, bnd_s]
  refine wl3_fuel (fun i x w j => x = nI (wSum (wW (mvD (asV A))) i) ∧ w = nI (wSum (fMo (mvD (asV A))) i) ∧ j = nI i) (mvN (asV A)) (by omega) (fun t => ∃ r c', t = some (r, HH sh c' z) ∧ (∀ a, a ≠ 111 → c' a = c a) ∧ hvR (asV A) r) ?_ _ _ _ ⟨rfl, rfl, rfl⟩
  intro rec i x w j hi hx
  obtain ⟨rfl, rfl, rfl⟩ := hx
  rw [HR (k := 6) W hS.1 rfl, bnd_s, show (50 : Int32) = nI 50 from rfl, slotR W hS (by omega), bnd_s, h50]
  rcases Nat.lt_or_ge i (mvN (asV A)) with hl | hl
  · refine Or.inl ⟨hl, ?_⟩
    have hd := hV.2.1 i hl
    have of1 : f_X7_of 99 (nI i) 1 (HH sh c1 z) = some (nI (mvD (asV A) i 1)) := of_in (w := 1) W hS hR1 hV hl (by omega)
    have sb1 : nI (mvD (asV A) i 1) - 1 = nI (mvD (asV A) i 1 - 1) := pk_sub hd.2.1
    rw [if_neg (nI_ge hl (by omega))]
    simp only [jn1_s, nm_s, isWaiting_in W hS hR1 hV hl, bnd_s, of1, sb1, nI_1]
    by_cases e : mvD (asV A) i 4 = 0
    · rw [if_pos e, if_neg i10, if_neg i10, nI_add]
      refine ⟨_, _, _, ⟨rfl, rfl, rfl⟩, ?_⟩
      simp only [wSum, wW, fMo]
      rw [if_pos e, if_pos e]
    · rw [if_neg e, if_pos rfl, if_pos rfl, show (0 : Int32) = nI 0 from rfl, nI_add, nI_add]
      refine ⟨_, _, _, ⟨rfl, rfl, rfl⟩, ?_⟩
      simp only [wSum, wW, fMo]
      rw [if_neg e, if_neg e]
  · refine Or.inr ?_
    rw [if_pos (nI_le hl (by omega)), show i = mvN (asV A) by omega, ← hall]
    refine wl3_fuel (fun k x w j => j = nI k ∧ ((∀ j, j < k → ¬ exc (asV A) j) ∧ x = 0 ∧ w = 0 ∨ ∃ j, j < k ∧ exc (asV A) j ∧ x = nI (2 * bW (asV A) j - (sum5 (bW (asV A)) 5 + eL (asV A) j)) ∧ w = nI (wSum (fMo (mvD (asV A))) (mvN (asV A)) - wSum (fSp (mvD (asV A)) j) (mvN (asV A))))) 5 (by omega) (fun t => ∃ r c', t = some (r, HH sh c' z) ∧ (∀ a, a ≠ 111 → c' a = c a) ∧ hvR (asV A) r) ?_ _ _ _ ⟨rfl, Or.inl ⟨fun j hj => absurd hj (by omega), rfl, rfl⟩⟩
    intro rec2 k x w j hk hx
    obtain ⟨rfl, hx⟩ := hx
    have hspm : ∀ j, wSum (fSp (mvD (asV A)) j) (mvN (asV A)) ≤ wSum (fMo (mvD (asV A))) (mvN (asV A)) := by
      intro j
      generalize mvN (asV A) = m
      induction m with
      | zero => exact Nat.le_refl _
      | succ m ih =>
        simp only [wSum]
        have : fSp (mvD (asV A)) j m ≤ fMo (mvD (asV A)) m := by
          unfold fSp fMo
          split
          · rename_i q; rw [if_pos q.1]; exact Nat.le_refl _
          · exact Nat.zero_le _
        omega
    rcases Nat.lt_or_ge k 5 with h5 | h5
    · refine Or.inl ⟨h5, ?_⟩
      have hb1 := b_one (b := bW (asV A)) h5
      have he : eL (asV A) k ≤ 1 := by unfold eL; split <;> omega
      rw [if_neg (five_ge h5), HR (k := 17) W hS.1 rfl, bnd_s, HL W hS.rb.2.1 h5 (by omega), bnd_s, b1' k h5, bnd_s, show (52 : Int32) = nI 52 from rfl, slotR W hS (by omega), bnd_s, h52, jn1_if, nm_s]
      simp only [jn2_s]
      have ee : (if nI k = nI (mvL (asV A)) then (0 : Int32) else 1) = nI (eL (asV A) k) := by
        unfold eL
        by_cases e : k = mvL (asV A)
        · rw [if_pos (by rw [e]), if_pos e]; rfl
        · rw [if_neg (by rw [nI_eq (by omega) (by omega)]; exact e), if_neg e]; rfl
      rw [ee, show (2 : Int32) = nI 2 from rfl, pk_mul, splits_eq W hS hR1 hV h5, bnd_s, nm_s, pk_sub (hspm k), nI_1]
      have hv : (nI (2 * bW (asV A) k) - nI (sum5 (bW (asV A)) 5) - nI (eL (asV A) k)).toInt = (2 * bW (asV A) k : Int) - sum5 (bW (asV A)) 5 - eL (asV A) k := by
        rw [Int32.toInt_sub, pk_sub_toInt (by omega) (by omega), nI_T _ (by omega)]
        rw [Int.bmod_eq_of_le (by omega) (by omega)]
        omega
      by_cases g : exc (asV A) k
      · have g' := g
        unfold exc at g'
        have hnone : (∀ j, j < k → ¬ exc (asV A) j) ∧ x = 0 ∧ w = 0 := by
          rcases hx with hx | ⟨j, hj, hj2, -⟩
          · exact hx
          · exact absurd (exc_one (by omega) h5 hj2 g) (by omega)
        obtain ⟨-, rfl, rfl⟩ := hnone
        rw [if_neg (by rw [i_le, hv, show (0 : Int32).toInt = 0 from rfl]; omega)]
        refine ⟨_, _, _, ⟨rfl, Or.inr ⟨k, by omega, g, ?_, rfl⟩⟩, rfl⟩
        rw [i_eq, hv, nI_T _ (by omega)]
        omega
      · have g' := g
        unfold exc at g'
        have hpos : 0 ≤ x.toInt := by
          rcases hx with ⟨-, rfl, -⟩ | ⟨j, hj, hj2, rfl, -⟩
          · decide
          · have := b_one (b := bW (asV A)) (show j < 5 by omega)
            rw [nI_T _ (by omega)]
            omega
        rw [if_pos (by rw [i_le, hv]; omega)]
        refine ⟨_, _, _, ⟨rfl, ?_⟩, rfl⟩
        rcases hx with ⟨h1, h2⟩ | ⟨j, hj, hj2, h3⟩
        · refine Or.inl ⟨fun j hj => ?_, h2⟩
          rcases Nat.lt_or_ge j k with q | q
          · exact h1 j q
          · rw [show j = k by omega]; exact g
        · exact Or.inr ⟨j, by omega, hj2, h3⟩
    · refine Or.inr ?_
      rw [if_pos (five_le h5 (by omega))]
      simp only [jn1_s]
      rcases hx with ⟨h1, rfl, rfl⟩ | ⟨j, hj, hj2, rfl, rfl⟩
      · rw [if_neg (by decide)]
        exact ⟨0, c1, rfl, f1, Or.inl ⟨fun k hk => h1 k (by omega), rfl⟩⟩
      · have hb1 := b_one (b := bW (asV A)) (show j < 5 by omega)
        have hsj := hspm j
        have g' := hj2
        unfold exc at g'
        refine ⟨hvV (asV A) j, c1, ?_, f1, Or.inr ⟨j, by omega, hj2, rfl⟩⟩
        unfold hvV
        by_cases g2 : 2 * bW (asV A) j - (sum5 (bW (asV A)) 5 + eL (asV A) j) + wSum (fSp (mvD (asV A)) j) (mvN (asV A)) ≤ wSum (fMo (mvD (asV A))) (mvN (asV A))
        · rw [if_neg (nI_nlt (by omega) (by omega)), if_pos g2]
        · rw [if_pos (nI_lt (by omega) (by omega)), if_neg g2]
theorem op_halvings {n : Nat} {h : Hp} (hI : Inv n h) : ∃ r h1 h2, f_X6_halvings 0 h = some (r, h1) ∧ f_X7_halvings 99 h1 = some (r, h2) ∧ Inv (n + 1) h2 := by
  obtain ⟨A, y, sh, c, z, rfl, hA, J⟩ := hI.jn
  have hV := hA.2.2.2.1
  have hL := hA.2.1
  have hcm := J.2.2.2.1.2.2.2.2.2.2.1
  rcases (show asL A = 1 ∨ asL A = 0 by omega) with h1 | h0
  · refine ⟨-2, HH sh c z, _, ?_, ?_, J.inv hA⟩
    · unfold f_X6_halvings
      rw [HG J.1 J.2.1.1, bnd_s, HR (k := 4) J.1 J.2.1.1 rfl, bnd_s, HI (k := 0) J.1 J.2.1.m10.1 rfl, bnd_s, hcm.1, h1, if_pos (show nI 1 = 1 from rfl)]
    · unfold f_X7_halvings
      have h99 : c 101 0 = nI (asL A) := J.2.2.2.2.2.2.2.2.2.2.2.1
      rw [HG J.1 J.2.2.2.2.1.1, bnd_s, HR (k := 3) J.1 J.2.2.2.2.1.1 rfl, bnd_s, show ldI 0 (HH sh c z) 101 0 = some (c 101 0) from HL (i := 0) J.1 J.2.2.2.2.1.2.2.1 (by omega) (by omega), bnd_s, h99, h1, if_pos (show nI 1 = 1 from rfl)]
  · obtain ⟨r, c1, e1, f1, r1⟩ := halvC J.1 J.2.1 hcm hV
    have J1 : Jn n A y sh c1 z := J.cc hA (Kp.of (fun a q => f1 a (by omega)))
    obtain ⟨r', c2, e2, f2, r2⟩ := halvM hA J1 h0
    have J2 : Jn n A y sh c2 z := J1.cc hA (Kp.of (fun a q => f2 a (by omega)))
    rw [← hvR_one r1 r2] at e2
    refine ⟨r, HH sh c1 z, _, ?_, e2, J2.inv hA⟩
    unfold f_X6_halvings
    rw [HG J.1 J.2.1.1, bnd_s, HR (k := 4) J.1 J.2.1.1 rfl, bnd_s, HI (k := 0) J.1 J.2.1.m10.1 rfl, bnd_s, hcm.1, h0, if_neg (by decide), HR (k := 11) J.1 J.2.1.1 rfl, bnd_s, bnd_s, e1, bnd2_s]
end HV
