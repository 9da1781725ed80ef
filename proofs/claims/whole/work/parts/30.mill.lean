/-! ===== the class's mills, read ===== -/
theorem rZp_0 : rZp 0 = some 0 := by decide
theorem rZp_1 : rZp 1 = some 1 := by decide
theorem rZ_0 (h : Hp) : rZ 0 h = some (0, h) := by simp [rZ]
theorem rZ_1 (h : Hp) : rZ 1 h = some (1, h) := by simp [rZ]
theorem fits_eq (x l b : Int32) : f_X6_fits x l b = some (if x = l ∨ x = b then 0 else 1) := by
  unfold f_X6_fits
  simp only [jn1_s, jn0_s, rZp_0, rZp_1]
  by_cases h1 : x = l
  · simp [h1]
  · by_cases h2 : x = b
    · simp [h2]
    · simp [h1, h2]
theorem held_eq (law : Nat) (hl : law ≤ 1) (x : Int32) : f_X6_heldBefore (nI law) x = some (if law = 1 then x else 5) := by
  unfold f_X6_heldBefore
  simp only [jn1_s]
  rcases (show law = 0 ∨ law = 1 by omega) with rfl | rfl
  · rw [if_neg (by decide), if_neg (by decide)]
  · rw [if_pos (by decide), if_pos rfl]
theorem first_eq (law : Nat) (hl : law ≤ 1) : f_X6_firstBefore (nI law) = some (nI (if law = 1 then 0 else 5)) := by
  unfold f_X6_firstBefore
  simp only [jn1_s]
  rcases (show law = 0 ∨ law = 1 by omega) with rfl | rfl
  · rw [if_neg (by decide), if_neg (by decide)]; rfl
  · rw [if_pos (by decide), if_pos rfl]; rfl
theorem mem_eq (l b : Nat) : f_X6_memoryOf (nI l) (nI b) = some (nI (6 * l + b)) := by
  unfold f_X6_memoryOf
  rw [show (6 : Int32) = nI 6 from rfl, pk_mul, nI_add, Nat.mul_comm]
theorem kind_in {k : Nat} (h : k < 5) : f_X6_isKind (nI k) = some 1 := by
  unfold f_X6_isKind
  simp only [jn1_s, jn0_s, rZp_0, rZp_1]
  rw [if_neg (nI_pos (by omega)), if_neg (by rw [show (5 : Int32) = nI 5 from rfl, nle (by omega) (by omega)]; omega)]
theorem kind_out {x : Int32} (h : x < 0 ∨ 5 ≤ x) : f_X6_isKind x = some 0 := by
  unfold f_X6_isKind
  simp only [jn1_s, jn0_s, rZp_0, rZp_1]
  by_cases h1 : x < 0
  · rw [if_pos h1]
  · rw [if_neg h1, if_pos (h.resolve_left h1)]
theorem owner_in {k : Nat} (h : k < 5) : f_X6_isOwner (nI k) = some 1 := kind_in h
theorem owner_out {x : Int32} (h : x < 0 ∨ 5 ≤ x) : f_X6_isOwner x = some 0 := kind_out h
section MR
variable {sh : Nat → Shp} {c : Nat → Nat → Int32} {z : Nat × Nat} {a law price : Nat} {V : MV}
theorem isM.row {sh : Nat → Shp} {a : Nat} (h : isM sh a) : sh (a + 1) = sA 0 10 ∧ sh (a + 2) = sA 0 10 ∧ sh (a + 3) = sA 0 10 ∧ sh (a + 4) = sA 0 10 ∧ sh (a + 5) = sA 0 10 := ⟨h.2 0 (by omega), h.2 1 (by omega), h.2 2 (by omega), h.2 3 (by omega), h.2 4 (by omega)⟩
theorem CM.at (hc : CM c a law price V) {i : Nat} (hi : i < mvN V) : c (a + 1) i = nI (mvD V i 0) ∧ c (a + 2) i = nI (mvD V i 1) ∧ c (a + 3) i = nI (mvD V i 2) ∧ c (a + 4) i = nI (mvD V i 3) ∧ c (a + 5) i = nI (mvD V i 4) :=
  ⟨hc.2.2.2.1 i hi 0 (by omega), hc.2.2.2.1 i hi 1 (by omega), hc.2.2.2.1 i hi 2 (by omega), hc.2.2.2.1 i hi 3 (by omega), hc.2.2.2.1 i hi 4 (by omega)⟩
theorem has_in (W : Wz sh z) (hM : isM sh a) (hc : CM c a law price V) (hn : mvN V ≤ 10) {j : Nat} (hj : j < mvN V) : f_X2_has a (nI j) (HH sh c z) = some 1 := by
  unfold f_X2_has
  simp only [HG W hM.1, bnd_s, jn1_s, jn0_s, HI (k := 2) W hM.1 rfl, rZp_0, rZp_1]
  rw [if_neg (nI_pos (by omega)), hc.2.2.1, if_neg (by rw [nle (by omega) (by omega)]; omega), if_neg (by rw [show (10 : Int32) = nI 10 from rfl, nle (by omega) (by omega)]; omega)]
theorem has_out (W : Wz sh z) (hM : isM sh a) (hc : CM c a law price V) {x : Int32} (hx : x < 0 ∨ nI (mvN V) ≤ x) : f_X2_has a x (HH sh c z) = some 0 := by
  unfold f_X2_has
  simp only [HG W hM.1, bnd_s, jn1_s, jn0_s, HI (k := 2) W hM.1 rfl, rZp_0, rZp_1]
  by_cases h1 : x < 0
  · rw [if_pos h1]
  · rw [if_neg h1, hc.2.2.1, if_pos (hx.resolve_left h1)]
theorem waits_in (W : Wz sh z) (hM : isM sh a) (hc : CM c a law price V) (hV : WFV V) {j : Nat} (hj : j < mvN V) : f_X2_waits a (nI j) (HH sh c z) = some (if mvD V j 4 = 0 then 1 else 0) := by
  unfold f_X2_waits
  have hd := (hV.2.1 j hj).2.2.2.2.2
  simp only [HG W hM.1, bnd_s, jn1_s, jn0_s, has_in W hM hc hV.1 hj, HR (k := 7) W hM.1 rfl, HL W hM.row.2.2.2.2 (show j < 10 by have := hV.1; omega) (by omega), rZp_0, rZp_1, (hc.at hj).2.2.2.2]
  rw [if_neg (by decide)]
  by_cases h0 : mvD V j 4 = 0
  · rw [h0, if_pos (by rfl), if_pos rfl]
  · rw [if_neg (by rw [show (0 : Int32) = nI 0 from rfl, neq (by omega) (by omega)]; exact h0), if_neg h0]
theorem waits_out (W : Wz sh z) (hM : isM sh a) (hc : CM c a law price V) {x : Int32} (hx : x < 0 ∨ nI (mvN V) ≤ x) : f_X2_waits a x (HH sh c z) = some 0 := by
  unfold f_X2_waits
  simp only [HG W hM.1, bnd_s, jn1_s, jn0_s, has_out W hM hc hx, rZp_0, rZp_1, if_true]
theorem kind_of_in (W : Wz sh z) (hM : isM sh a) (hc : CM c a law price V) (hn : mvN V ≤ 10) {j : Nat} (hj : j < mvN V) : f_X2_kindOf a (nI j) (HH sh c z) = some (nI (mvD V j 0)) := by
  unfold f_X2_kindOf
  simp only [HG W hM.1, bnd_s, jn1_s, has_in W hM hc hn hj, HR (k := 3) W hM.1 rfl, HL W hM.row.1 (show j < 10 by omega) (by omega), (hc.at hj).1]
  rw [if_neg (by decide)]
theorem kind_of_out (W : Wz sh z) (hM : isM sh a) (hc : CM c a law price V) {x : Int32} (hx : x < 0 ∨ nI (mvN V) ≤ x) : f_X2_kindOf a x (HH sh c z) = some 5 := by
  unfold f_X2_kindOf
  simp only [HG W hM.1, bnd_s, jn1_s, has_out W hM hc hx, if_true]
theorem fitsNow_in (W : Wz sh z) (hM : isM sh a) (hc : CM c a law price V) (hn : mvN V ≤ 10) {j : Nat} (hj : j < mvN V) : f_X2_fitsNow a (nI j) (HH sh c z) = some (if nI (mvD V j 0) = nI (mvL V) ∨ nI (mvD V j 0) = nI (if law = 1 then mvA V else 5) then 0 else 1) := by
  unfold f_X2_fitsNow
  simp only [HG W hM.1, bnd_s, kind_of_in W hM hc hn hj, HI (k := 9) W hM.1 rfl, HI (k := 10) W hM.1 rfl, fits_eq, hc.2.2.2.2.2.1, hc.2.2.2.2.2.2.1]
  by_cases h : nI (mvD V j 0) = nI (mvL V) ∨ nI (mvD V j 0) = nI (if law = 1 then mvA V else 5)
  · rw [if_pos h]; exact rZp_0
  · rw [if_neg h]; exact rZp_1
theorem hourAfter_in (W : Wz sh z) (hM : isM sh a) (hc : CM c a law price V) (hV : WFV V) {j x : Nat} (hj : j < mvN V) (hx : x < 1000000) : f_X2_hourAfter a (nI x) (nI j) (HH sh c z) = some (nI (max x (mvD V j 3) + mvD V j 1)) := by
  unfold f_X2_hourAfter
  have hd := hV.2.1 j hj
  have h10 : j < 10 := by have := hV.1; omega
  simp only [HG W hM.1, bnd_s, jn1_s, has_in W hM hc hV.1 hj, HR (k := 6) W hM.1 rfl, HR (k := 4) W hM.1 rfl, HL W hM.row.2.2.2.1 h10 (by omega), HL W hM.row.2.1 h10 (by omega), (hc.at hj).2.2.2.1, (hc.at hj).2.1]
  rw [if_neg (by decide)]
  unfold mx
  by_cases hlt : x < mvD V j 3
  · rw [if_pos (by rw [nlt (by omega) (by omega)]; exact hlt), nI_add, Nat.max_eq_right (by omega)]
  · rw [if_neg (by rw [nlt (by omega) (by omega)]; exact hlt), nI_add, Nat.max_eq_left (by omega)]
/-- how many sacks are so -/
def cntS (D : Nat → Nat → Nat) (how : Nat) : Nat → Nat
  | 0 => 0
  | n + 1 => cntS D how n + if D n 4 = how then 1 else 0
theorem cntS_le (D : Nat → Nat → Nat) (how : Nat) : ∀ n, cntS D how n ≤ n := by
  intro n
  induction n with
  | zero => exact Nat.le_refl 0
  | succ n ih => simp only [cntS]; split <;> omega
theorem howMany_eq (W : Wz sh z) (hM : isM sh a) (hc : CM c a law price V) (hV : WFV V) (how : Nat) (hh : how < 100) : f_X2_howMany a (nI how) (HH sh c z) = some (nI (cntS (mvD V) how (mvN V))) := by
  unfold f_X2_howMany
  simp only [HG W hM.1, bnd_s]
  refine wl2_fuel (fun i x j => x = nI (cntS (mvD V) how (min i (mvN V))) ∧ j = nI i) 10 (by omega) (fun t => t = some (nI (cntS (mvD V) how (mvN V)))) ?_ _ _ ⟨by simp [cntS]; rfl, rfl⟩
  intro rec i x j hi hx
  obtain ⟨rfl, rfl⟩ := hx
  have hn := hV.1
  rcases Nat.lt_or_ge i 10 with h10 | h10
  · refine Or.inl ⟨h10, ?_⟩
    rw [if_neg (by rw [show (10 : Int32) = nI 10 from rfl, nle (by omega) (by omega)]; omega)]
    rcases Nat.lt_or_ge i (mvN V) with hl | hl
    · have hd := (hV.2.1 i hl).2.2.2.2.2
      have hcs := cntS_le (mvD V) how i
      simp only [has_in W hM hc hn hl, bnd_s, jn1_s, HR (k := 7) W hM.1 rfl, HL W hM.row.2.2.2.2 h10 (by omega), (hc.at hl).2.2.2.2]
      rw [if_neg (by decide), show min i (mvN V) = i by omega, show min (i + 1) (mvN V) = i + 1 by omega]
      by_cases he : mvD V i 4 = how
      · rw [if_pos (by rw [he])]
        exact ⟨_, _, ⟨rfl, rfl⟩, by simp only [cntS, if_pos he]; rw [nI_1, nI_1]⟩
      · rw [if_neg (by rw [neq (by omega) (by omega)]; exact he)]
        exact ⟨_, _, ⟨rfl, rfl⟩, by simp only [cntS, if_neg he]; rw [nI_1]; rfl⟩
    · simp only [has_out W hM hc (x := nI i) (Or.inr (by rw [nle (by omega) (by omega)]; exact hl)), bnd_s, jn1_s, if_true]
      rw [show min i (mvN V) = mvN V by omega]
      exact ⟨_, _, ⟨by rw [show min (i + 1) (mvN V) = mvN V by omega], rfl⟩, by rw [nI_1]⟩
  · refine Or.inr ?_
    rw [if_pos (by rw [show (10 : Int32) = nI 10 from rfl, nle (by omega) (by omega)]; omega), show min i (mvN V) = mvN V by omega]
end MR
