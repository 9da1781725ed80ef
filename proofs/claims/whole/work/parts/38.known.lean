/-! ===== what is remembered, in the reference ===== -/
section KN
variable {n : Nat} {h : Hp} {A : AS} {sh sh' : Nat → Shp} {c c' : Nat → Nat → Int32} {z : Nat × Nat}
/-- slots 4 and on, moved down by one, j of them -/
def shfK (s : Nat → Int32) (j : Nat) : Nat → Int32 := fun k => if 165 ≤ k ∧ k < 165 + 55 * j then s (k + 55) else s k
theorem shfK_step (s : Nat → Int32) (j : Nat) : slCopy (shfK s j) (4 + j) (3 + j) 55 = shfK s (j + 1) := by
  funext k
  simp only [slCopy, shfK]
  by_cases h1 : 55 * (3 + j) ≤ k ∧ k < 55 * (3 + j) + 55
  · rw [if_pos h1, if_neg (by omega), if_pos (by omega)]
    congr 1
    omega
  · rw [if_neg h1]
    by_cases h2 : 165 ≤ k ∧ k < 165 + 55 * j
    · rw [if_pos h2, if_pos (by omega)]
    · rw [if_neg h2, if_neg (by omega)]
theorem SlM.shfM {s : Nat → Int32} {p : Nat} {V : MV} (hn : mvN V ≤ 10) (hp : p < 7) (h : SlM s (4 + p) V) : SlM (shfK s 7) (3 + p) V := by
  obtain ⟨h1, h2, h3, h4, h5, h6⟩ := h
  have e : ∀ k, 55 * (3 + p) ≤ k → k < 55 * (3 + p) + 55 → shfK s 7 k = s (k + 55) := fun k g1 g2 => by
    simp only [shfK]
    rw [if_pos (by omega)]
  refine ⟨fun i hi w hw => ?_, ?_, ?_, ?_, ?_, ?_⟩
  · rw [e _ (by omega) (by omega), ← h1 i hi w hw]; congr 1; omega
  · rw [e _ (by omega) (by omega), ← h2]; congr 1; omega
  · rw [e _ (by omega) (by omega), ← h3]; congr 1; omega
  · rw [e _ (by omega) (by omega), ← h4]; congr 1; omega
  · rw [e _ (by omega) (by omega), ← h5]; congr 1; omega
  · rw [e _ (by omega) (by omega), ← h6]; congr 1; omega
theorem known_eq (W : Wz sh z) (hS : SMo sh) (hR : ModR A c) (hA : WFA A) : ∃ c', f_X7_known 99 (HH sh c z) = some (HH sh c' z) ∧ ModR (asRem A) c' ∧ ∀ b, b ≠ 99 → b ≠ 104 → c' b = c b := by
  obtain ⟨r1, r2, r3, r4, r5, r6, r7, r8, r9, r10, r11⟩ := hR
  obtain ⟨w1, w2, w3, w4, w5, w6, w7, w8, w9, w10, w11⟩ := hA
  have fin : ∀ d : Nat → Nat → Int32, (∀ b, b ≠ 99 → b ≠ 104 → d b = c b) → (∀ j, j ≠ 8 → d 99 j = c 99 j) → d 99 8 = nI (remM A) → SlM (d 104) 0 (asV A) → (∀ k, k < asE A → SlM (d 104) (1 + k) (asK A k)) → (∀ p, p < remM A → SlM (d 104) (3 + p) (asU A (p + (asD A - remM A)))) →
      ∃ c', (bnd (gI (HH sh d z) 99 7 8) fun x4 => bnd (f_X7_copies 99 (0 : Int32) ((3 : Int32) + x4) (HH sh d z)) fun h5 => bnd (gI h5 99 7 8) fun x6 => bnd (pF h5 99 7 8 (.int (x6 + (1 : Int32)))) fun h7 => some h7) = some (HH sh c' z) ∧ ModR (asRem A) c' ∧ ∀ b, b ≠ 99 → b ≠ 104 → c' b = c b := by
    intro d g1 g2 g3 g4 g5 g6
    have hm : remM A < 8 := by unfold remM; omega
    refine ⟨u2 (uR d 104 (slCopy (d 104) 0 (3 + remM A) 55)) 99 8 (nI (remM A + 1)), ?_, ⟨?_, ?_, ?_, ?_, ?_, ?_, ?_, ?_, ?_, ?_, ?_⟩, ?_⟩
    · rw [HI (k := 8) W hS.1 rfl, bnd_s, g3, show (3 : Int32) = nI 3 from rfl, nI_add, show f_X7_copies 99 0 (nI (3 + remM A)) (HH sh d z) = _ from copies_eq (a := 0) (b := 3 + remM A) W hS (by omega) (by omega) (by omega), bnd_s]
      simp only [HI (k := 8) W hS.1 rfl, HP (k := 8) W hS.1 rfl, bnd_s]
      rw [uR_other _ _ (show (99 : Nat) ≠ 104 by decide), g3, nI_1]
    · rw [u2_other _ _ _ (by decide), uR_other _ _ (by decide), g1 100 (by omega) (by omega)]; exact r1
    · rw [u2_ne _ _ (Or.inr (by decide)), uR_other _ _ (by decide), g2 0 (by omega)]; exact r2
    · rw [u2_same]; rfl
    · rw [u2_ne _ _ (Or.inr (by decide)), uR_other _ _ (by decide), g2 7 (by omega)]; exact r4
    · rw [u2_ne _ _ (Or.inr (by decide)), uR_other _ _ (by decide), g2 9 (by omega)]; exact r5
    · intro i hi
      rw [u2_other _ _ _ (by decide), uR_other _ _ (by decide), g1 105 (by omega) (by omega)]; exact r6 i hi
    · rw [u2_other _ _ _ (by decide), uR_other _ _ (by decide), g1 101 (by omega) (by omega)]; exact r7
    · rw [u2_other _ _ _ (by decide), uR_other _ _ (by decide), g1 101 (by omega) (by omega)]; exact r8
    · rw [u2_other _ _ _ (by decide), uR_same]
      exact slFr w4.1 g4 0 (3 + remM A) (by omega) rfl
    · intro k hk
      have hk : k < asE A := hk
      rw [u2_other _ _ _ (by decide), uR_same]
      exact slFr (w8 k hk).1 (g5 k hk) 0 (3 + remM A) (by omega) rfl
    · intro p hp
      have hp : p < remM A + 1 := hp
      rw [u2_other _ _ _ (by decide), uR_same]
      show SlM _ (3 + p) (if p = remM A then asV A else asU A (p + (asD A - remM A)))
      by_cases g : p = remM A
      · rw [if_pos g, g]; exact g4.copied w4.1
      · rw [if_neg g]
        have hlt : p + (asD A - remM A) < asD A := by unfold remM at hp g ⊢; omega
        exact slFr (w6 _ hlt).1 (g6 p (by omega)) 0 (3 + remM A) (by omega) rfl
    · intro b e1 e2
      rw [u2_other _ _ _ e1, uR_other _ _ e2, g1 b e1 e2]
  by_cases h8 : asD A = 8
  · have hm : remM A = 7 := by unfold remM; omega
    have e102 : u2 (uR c 104 (shfK (c 104) 7)) 99 8 (nI 7) 104 = shfK (c 104) 7 := by rw [u2_other _ _ _ (by decide), uR_same]
    obtain ⟨c', q1, q2⟩ := fin (u2 (uR c 104 (shfK (c 104) 7)) 99 8 (nI 7)) (fun b e1 e2 => by rw [u2_other _ _ _ e1, uR_other _ _ e2]) (fun j hj => by rw [u2_ne _ _ (Or.inr hj), uR_other _ _ (by decide)]) (by rw [u2_same, hm]) (by
        rw [e102]
        exact r9.keep w4.1 (fun k g1 g2 => by simp only [shfK]; rw [if_neg (by omega)])) (fun k hk => by
        rw [e102]
        exact (r10 k hk).keep (w8 k hk).1 (fun k g1 g2 => by simp only [shfK]; rw [if_neg (by omega)])) (fun p hp => by
        rw [e102, hm, h8]
        rw [hm] at hp
        have := r11 (p + 1) (by omega)
        rw [show 3 + (p + 1) = 4 + p by omega] at this
        exact this.shfM (w6 _ (by omega)).1 hp)
    refine ⟨c', ?_, q2⟩
    unfold f_X7_known
    rw [HG W hS.1, bnd_s, HI (k := 8) W hS.1 rfl, bnd_s, jn1_s, r3, if_pos (show nI (asD A) = 8 by rw [h8]; rfl)]
    refine wl2_fuel (fun i x h => x = nI (3 + i) ∧ h = HH sh (uR c 104 (shfK (c 104) i)) z) 7 (by omega) (fun t => t = some (HH sh c' z)) ?_ _ _ ⟨rfl, ?_⟩
    · intro rec i x h hi hx
      obtain ⟨rfl, rfl⟩ := hx
      rcases Nat.lt_or_ge i 7 with hl | hl
      · refine Or.inl ⟨hl, _, _, ⟨rfl, rfl⟩, ?_⟩
        rw [if_neg (show ¬ (10 : Int32) ≤ nI (3 + i) from nI_ge (b := 10) (by omega) (by omega)), nI_1, show 3 + i + 1 = 4 + i by omega, copies_eq (a := 4 + i) (b := 3 + i) W hS (by omega) (by omega) (by omega), bnd_s, show 3 + (i + 1) = 4 + i by omega]
        congr 2
        funext q
        by_cases hq : q = 104
        · rw [hq, uR_same, uR_same, uR_same]
          exact shfK_step _ i
        · rw [uR_other _ _ hq, uR_other _ _ hq, uR_other _ _ hq]
      · refine Or.inr ?_
        have e7 : i = 7 := by omega
        subst e7
        rw [if_pos (show (10 : Int32) ≤ nI (3 + 7) by decide), HI (k := 8) W hS.1 rfl, bnd_s, HP (k := 8) W hS.1 rfl, bnd_s, uR_other _ _ (show (99 : Nat) ≠ 104 by decide), r3, h8, nI_pred]
        exact q1
    · congr 1
      funext q
      by_cases hq : q = 104
      · rw [hq, uR_same]
        funext k
        simp only [shfK]
        rw [if_neg (by omega)]
      · rw [uR_other _ _ hq]
  · have hm : remM A = asD A := by unfold remM; omega
    obtain ⟨c', q1, q2⟩ := fin c (fun b _ _ => rfl) (fun j _ => rfl) (by rw [hm]; exact r3) r9 r10 (fun p hp => by
      rw [hm, Nat.sub_self, Nat.add_zero]
      exact r11 p (by omega))
    refine ⟨c', ?_, q2⟩
    unfold f_X7_known
    rw [HG W hS.1, bnd_s, HI (k := 8) W hS.1 rfl, bnd_s, jn1_s, r3, if_neg (show ¬ nI (asD A) = 8 by rw [show (8 : Int32) = nI 8 from rfl, neq (by omega) (by omega)]; exact h8)]
    exact q1
end KN
