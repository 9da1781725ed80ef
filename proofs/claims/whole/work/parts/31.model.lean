/-! ===== the reference, read ===== -/
theorem in_eq (x lo hi : Int64) : f_X7_in x lo hi = some (if lo.toInt ≤ x.toInt ∧ x.toInt ≤ hi.toInt then 1 else 0) := by
  unfold f_X7_in
  simp only [jn1_s, jn0_s, lg_lt, lg_gt, rZp_0, rZp_1, l_lt]
  by_cases h1 : x.toInt < lo.toInt
  · rw [if_pos h1, if_neg (by omega)]
  · rw [if_neg h1]
    by_cases h2 : hi.toInt < x.toInt
    · rw [if_pos h2, if_neg (by omega)]
    · rw [if_neg h2, if_pos (by omega)]
theorem in_int (x : Int32) (lo hi : Int64) : f_X7_in x.toInt64 lo hi = some (if lo.toInt ≤ x.toInt ∧ x.toInt ≤ hi.toInt then 1 else 0) := by
  rw [in_eq, wide]
theorem nI_T (n : Nat) (h : n < 2147483648) : (nI n).toInt = (n : Int) := nI_toInt h
section RD
variable {sh : Nat → Shp} {c : Nat → Nat → Int32} {z : Nat × Nat} {A : AS}
theorem SlM.at {s : Nat → Int32} {V : MV} (h : SlM s 0 V) {i w : Nat} (hi : i < mvN V) (hw : w < 5) : s (5 * i + w) = nI (mvD V i w) := by
  have := h.1 i hi w hw
  rw [show 55 * 0 + 5 * i + w = 5 * i + w by omega] at this
  exact this
theorem of_raw (W : Wz sh z) (hS : SMo sh) {i w : Nat} (h : 5 * i + w < 605) : f_X7_of 99 (nI i) (nI w) (HH sh c z) = some (c 104 (5 * i + w)) := by
  unfold f_X7_of
  simp only [HG W hS.1, bnd_s, HR (k := 6) W hS.1 rfl]
  rw [show (5 : Int32) = nI 5 from rfl, pk_mul, nI_add, HL W hS.2.2.2.2.2.1 h (by omega), bnd_s]
theorem of_in (W : Wz sh z) (hS : SMo sh) (hR : ModR A c) (hV : WFV (asV A)) {i w : Nat} (hi : i < mvN (asV A)) (hw : w < 5) : f_X7_of 99 (nI i) (nI w) (HH sh c z) = some (nI (mvD (asV A) i w)) := by
  rw [of_raw W hS (by have := hV.1; omega), hR.2.2.2.2.2.2.2.2.1.at hi hw]
theorem slotR (W : Wz sh z) (hS : SMo sh) {k : Nat} (h : k < 605) : ldI 0 (HH sh c z) 104 (nI k) = some (c 104 k) := HL W hS.2.2.2.2.2.1 h (by omega)
theorem isSack_in (W : Wz sh z) (hS : SMo sh) (hR : ModR A c) (hV : WFV (asV A)) {j : Nat} (hj : j < mvN (asV A)) : f_X7_isSack 99 (nI j) (HH sh c z) = some 1 := by
  unfold f_X7_isSack
  have hn := hV.1
  have h50 : c 104 50 = nI (mvN (asV A)) := hR.2.2.2.2.2.2.2.2.1.2.1
  simp only [HG W hS.1, bnd_s, HR (k := 6) W hS.1 rfl]
  rw [show (50 : Int32) = nI 50 from rfl, slotR W hS (by omega), bnd_s, h50, in_int, wide, nI_T _ (by omega), show (1 : Int32) = nI 1 from rfl, pk_sub_toInt (by omega) (by omega), if_pos (by refine ⟨?_, by omega⟩; show (0 : Int64).toInt ≤ _; rw [show (0 : Int64).toInt = 0 from rfl]; omega), bnd_s]
  exact rZp_1
theorem isSack_out (W : Wz sh z) (hS : SMo sh) (hR : ModR A c) (hV : WFV (asV A)) {x : Int32} (hx : x < 0 ∨ nI (mvN (asV A)) ≤ x) : f_X7_isSack 99 x (HH sh c z) = some 0 := by
  unfold f_X7_isSack
  have hn := hV.1
  have h50 : c 104 50 = nI (mvN (asV A)) := hR.2.2.2.2.2.2.2.2.1.2.1
  simp only [HG W hS.1, bnd_s, HR (k := 6) W hS.1 rfl]
  rw [show (50 : Int32) = nI 50 from rfl, slotR W hS (by omega), bnd_s, h50, in_int, wide, show (1 : Int32) = nI 1 from rfl, pk_sub_toInt (by omega) (by omega)]
  rw [i_lt, i_le, nI_T _ (by omega), show (0 : Int32).toInt = 0 from rfl] at hx
  rw [if_neg (by rw [show (0 : Int64).toInt = 0 from rfl]; omega), bnd_s]
  exact rZp_0
theorem isWaiting_in (W : Wz sh z) (hS : SMo sh) (hR : ModR A c) (hV : WFV (asV A)) {j : Nat} (hj : j < mvN (asV A)) : f_X7_isWaiting 99 (nI j) (HH sh c z) = some (if mvD (asV A) j 4 = 0 then 1 else 0) := by
  unfold f_X7_isWaiting
  have hd := (hV.2.1 j hj).2.2.2.2.2
  simp only [HG W hS.1, bnd_s, jn1_s]
  rw [show (4 : Int32) = nI 4 from rfl, of_in W hS hR hV hj (by omega), bnd_s, rZp_0, rZp_1]
  by_cases h0 : mvD (asV A) j 4 = 0
  · rw [h0, if_pos (by rfl), if_pos rfl]
  · rw [if_neg (by rw [show (0 : Int32) = nI 0 from rfl, neq (by omega) (by omega)]; exact h0), if_neg h0]
/-- a kind may come behind a last one and the one ahead of that -/
def mixB (law k l a : Nat) : Prop := k ≠ l ∧ (law = 0 ∨ k ≠ a)
theorem isMixed_eq (W : Wz sh z) (hS : SMo sh) (hR : ModR A c) (hL : asL A ≤ 1) {k l a : Nat} (hk : k ≤ 100) (hl : l ≤ 100) (ha : a ≤ 100) : f_X7_isMixed 99 (nI k) (nI l) (nI a) (HH sh c z) = some (if k ≠ l ∧ (asL A = 0 ∨ k ≠ a) then 1 else 0) := by
  unfold f_X7_isMixed
  have h99 : c 101 0 = nI (asL A) := hR.2.2.2.2.2.2.1
  simp only [HG W hS.1, bnd_s, jn1_s, jn0_s, HR (k := 3) W hS.1 rfl, rZp_0, rZp_1]
  rw [show (0 : Int32) = nI 0 from rfl, HL W hS.2.2.1 (show 0 < 4 by omega) (by omega), bnd_s, h99]
  simp only [neq (show k < 2147483648 by omega) (show l < 2147483648 by omega), neq (show k < 2147483648 by omega) (show a < 2147483648 by omega), neq (show asL A < 2147483648 by omega) (show 0 < 2147483648 by omega)]
  by_cases h1 : k = l
  · rw [if_pos h1, if_neg (by omega)]
  · rw [if_neg h1]
    by_cases h2 : asL A = 0
    · rw [if_pos h2, if_pos ⟨h1, Or.inl h2⟩]
    · rw [if_neg h2]
      by_cases h3 : k = a
      · rw [if_pos h3, if_neg (by omega)]
      · rw [if_neg h3, if_pos ⟨h1, Or.inr h3⟩]
theorem mayNow_in (W : Wz sh z) (hS : SMo sh) (hR : ModR A c) (hA : WFA A) {j : Nat} (hj : j < mvN (asV A)) : f_X7_mayNow 99 (nI j) (HH sh c z) = some (if mvD (asV A) j 0 ≠ mvL (asV A) ∧ (asL A = 0 ∨ mvD (asV A) j 0 ≠ mvA (asV A)) then 1 else 0) := by
  unfold f_X7_mayNow
  have hV := hA.2.2.2.1
  have hd := (hV.2.1 j hj).1
  have hs := hR.2.2.2.2.2.2.2.2.1
  have h52 : c 104 52 = nI (mvL (asV A)) := hs.2.2.2.1
  have h53 : c 104 53 = nI (mvA (asV A)) := hs.2.2.2.2.1
  have l1 := hV.2.2.1
  have l2 := hV.2.2.2.1
  simp only [HG W hS.1, bnd_s, HR (k := 6) W hS.1 rfl]
  rw [show (0 : Int32) = nI 0 from rfl, of_in W hS hR hV hj (by omega), bnd_s, show (52 : Int32) = nI 52 from rfl, slotR W hS (by omega), bnd_s, h52, show (53 : Int32) = nI 53 from rfl, slotR W hS (by omega), bnd_s, h53, isMixed_eq W hS hR hA.2.1 (by omega) (by omega) (by omega), bnd_s]
  split
  · exact rZp_1
  · exact rZp_0
theorem such_eq (W : Wz sh z) (hS : SMo sh) (hR : ModR A c) (hV : WFV (asV A)) (how : Nat) (hh : how < 100) : f_X7_such 99 (nI how) (HH sh c z) = some (nI (cntS (mvD (asV A)) how (mvN (asV A)))) := by
  unfold f_X7_such
  have hn := hV.1
  have h50 : c 104 50 = nI (mvN (asV A)) := hR.2.2.2.2.2.2.2.2.1.2.1
  simp only [HG W hS.1, bnd_s]
  refine wl2_fuel (fun i x j => x = nI (cntS (mvD (asV A)) how i) ∧ j = nI i) (mvN (asV A)) (by omega) (fun t => t = some (nI (cntS (mvD (asV A)) how (mvN (asV A))))) ?_ _ _ ⟨rfl, rfl⟩
  intro rec i x j hi hx
  obtain ⟨rfl, rfl⟩ := hx
  simp only [HR (k := 6) W hS.1 rfl, bnd_s]
  rw [show (50 : Int32) = nI 50 from rfl, slotR W hS (by omega), bnd_s, h50]
  rcases Nat.lt_or_ge i (mvN (asV A)) with hl | hl
  · refine Or.inl ⟨hl, ?_⟩
    have hd := (hV.2.1 i hl).2.2.2.2.2
    rw [if_neg (by rw [nle (by omega) (by omega)]; omega), show (4 : Int32) = nI 4 from rfl, of_in W hS hR hV hl (by omega), bnd_s]
    simp only [jn1_s, nm_s]
    by_cases he : mvD (asV A) i 4 = how
    · rw [if_pos (by rw [he])]
      exact ⟨_, _, ⟨rfl, rfl⟩, by simp only [cntS, if_pos he]; rw [nI_1, nI_1]⟩
    · rw [if_neg (by rw [neq (by omega) (by omega)]; exact he)]
      exact ⟨_, _, ⟨rfl, rfl⟩, by simp only [cntS, if_neg he]; rw [nI_1, show (0 : Int32) = nI 0 from rfl, nI_add]⟩
  · refine Or.inr ?_
    rw [if_pos (by rw [nle (by omega) (by omega)]; omega), show i = mvN (asV A) by omega]
theorem ends_in (W : Wz sh z) (hS : SMo sh) (hR : ModR A c) (hV : WFV (asV A)) {j x : Nat} (hj : j < mvN (asV A)) (hx : x < 1000000) : f_X7_ends 99 (nI x) (nI j) (HH sh c z) = some (nI (max x (mvD (asV A) j 3) + mvD (asV A) j 1)) := by
  unfold f_X7_ends
  have hd := hV.2.1 j hj
  simp only [HG W hS.1, bnd_s, jn1_s]
  rw [show (3 : Int32) = nI 3 from rfl, of_in W hS hR hV hj (by omega), bnd_s, show (1 : Int32) = nI 1 from rfl, of_in W hS hR hV hj (by omega), bnd_s]
  simp only [bnd_s]
  by_cases hlt : x ≤ mvD (asV A) j 3
  · rw [if_pos (by rw [nle (by omega) (by omega)]; exact hlt), nI_add, Nat.max_eq_right (by omega)]
  · rw [if_neg (by rw [nle (by omega) (by omega)]; exact hlt), nI_add, Nat.max_eq_left (by omega)]
end RD
