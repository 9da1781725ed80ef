/-! ===== where the queue stops, when it ends, what bread ===== -/
def sqL (V : MV) (Q : Nat → Nat) : Nat → Nat
  | 0 => mvL V
  | k + 1 => mvD V (Q k) 0
def sqA (V : MV) (Q : Nat → Nat) : Nat → Nat
  | 0 => mvA V
  | k + 1 => sqL V Q k
def sqH (V : MV) (Q : Nat → Nat) : Nat → Nat
  | 0 => mvH V
  | k + 1 => max (sqH V Q k) (mvD V (Q k) 3) + mvD V (Q k) 1
def sqOK (law : Nat) (V : MV) (Q : Nat → Nat) (k : Nat) : Prop := mvD V (Q k) 0 ≠ sqL V Q k ∧ (law = 0 ∨ mvD V (Q k) 0 ≠ sqA V Q k)
def sqStop (law : Nat) (V : MV) (Q : Nat → Nat) (q s : Nat) : Prop := s ≤ q ∧ (∀ k, k < s → sqOK law V Q k) ∧ (s = q ∨ ¬ sqOK law V Q s)
theorem sqStop_ex (law : Nat) (V : MV) (Q : Nat → Nat) (q : Nat) : ∃ s, sqStop law V Q q s := by
  obtain ⟨s, h1, h2⟩ := pk_least (fun k => k = q ∨ ¬ sqOK law V Q k) ⟨q, Or.inl rfl⟩
  refine ⟨s, ?_, fun k hk => Classical.byContradiction fun g => h2 k hk (Or.inr g), h1⟩
  rcases Nat.lt_or_ge q s with g | g
  · exact absurd (Or.inl rfl) (h2 q g)
  · exact g
theorem pSum_le (D : Nat → Nat → Nat) : ∀ n, (∀ i, i < n → D i 1 ≤ 9) → pSum D n ≤ 9 * n := by
  intro n
  induction n with
  | zero => intro _; exact Nat.le_refl 0
  | succ n ih =>
    intro h
    have h1 := ih (fun i hi => h i (by omega))
    have h2 := h n (by omega)
    simp only [pSum]
    split <;> omega
theorem WFV.hour {V : MV} (h : WFV V) : mvH V ≤ 189 := by
  have h1 := pSum_le (mvD V) (mvN V) (fun i hi => (h.2.1 i hi).2.2.1)
  have h2 := h.1
  have h3 := h.2.2.2.2.1
  omega
/-- at how many places three in a row are of three unlike kinds -/
def brd (V : MV) (Q : Nat → Nat) : Nat → Nat
  | 0 => 0
  | m + 1 => brd V Q m + if mvD V (Q m) 0 ≠ mvD V (Q (m + 1)) 0 ∧ mvD V (Q (m + 1)) 0 ≠ mvD V (Q (m + 2)) 0 ∧ mvD V (Q m) 0 ≠ mvD V (Q (m + 2)) 0 then 1 else 0
theorem brd_le (V : MV) (Q : Nat → Nat) : ∀ m, brd V Q m ≤ m := by
  intro m
  induction m with
  | zero => exact Nat.le_refl 0
  | succ m ih => simp only [brd]; split <;> omega
section ST
variable {n : Nat} {h : Hp} {A : AS} {sh : Nat → Shp} {c c' : Nat → Nat → Int32} {z : Nat × Nat}
theorem WFA.qin (hA : WFA A) {i : Nat} (hi : i < asN A) : asQ A i < mvN (asV A) := (hA.2.2.2.2.2.2.2.2.2.1 i hi).1
theorem sqL_le (hA : WFA A) {i : Nat} (hi : i ≤ asN A) : sqL (asV A) (asQ A) i ≤ 5 := by
  cases i with
  | zero => exact hA.2.2.2.1.2.2.1
  | succ i =>
    have := (hA.2.2.2.1.2.1 _ (hA.qin (i := i) (by omega))).1
    simp only [sqL]; omega
theorem sqA_le (hA : WFA A) {i : Nat} (hi : i ≤ asN A) : sqA (asV A) (asQ A) i ≤ 5 := by
  cases i with
  | zero => exact hA.2.2.2.1.2.2.2.1
  | succ i => exact sqL_le hA (by omega)
theorem sqH_le (hA : WFA A) : ∀ i, i ≤ asN A → sqH (asV A) (asQ A) i ≤ 300 + 9 * i := by
  intro i
  induction i with
  | zero => intro _; have := hA.2.2.2.1.hour; simp only [sqH]; omega
  | succ i ih =>
    intro hi
    have h1 := ih (by omega)
    have h2 := hA.2.2.2.1.2.1 _ (hA.qin (i := i) (by omega))
    simp only [sqH]
    omega
theorem stopPlace_eq {y : Dy} (W : Wz sh z) (hs : SC sh y) (hc : ClsR A sh c) (hA : WFA A) {s : Nat} (hS : sqStop (asL A) (asV A) (asQ A) (asN A) s) : f_X6_stopPlace 0 (HH sh c z) = some (nI s) := by
  have hcm := hc.2.2.2.2.2.2.1
  have hV := hA.2.2.2.1
  have hn := hV.1
  have hL := hA.2.1
  have hq := hA.2.2.2.2.2.2.2.2.1
  unfold f_X6_stopPlace
  simp only [HG W hs.1, bnd_s, HR (k := 4) W hs.1 rfl, HI (k := 9) W hs.m10.1 rfl, HI (k := 10) W hs.m10.1 rfl, HI (k := 0) W hs.m10.1 rfl, HI (k := 10) W hs.1 rfl, HR (k := 9) W hs.1 rfl, hc.2.2.2.2.1, hcm.2.2.2.2.2.1, hcm.2.2.2.2.2.2.1, hcm.1]
  obtain ⟨s1, s2, s3⟩ := hS
  refine wl3_fuel (fun i l b p => p = nI i ∧ l = nI (sqL (asV A) (asQ A) i) ∧ b = nI (if asL A = 1 then sqA (asV A) (asQ A) i else 5)) s (by omega) (fun t => t = some (nI s)) ?_ _ _ _ ⟨rfl, rfl, rfl⟩
  intro rec i l b p hi hx
  obtain ⟨rfl, rfl, rfl⟩ := hx
  rcases Nat.lt_or_ge i (asN A) with hl | hl
  · have hqi := hA.qin hl
    have hd := (hV.2.1 _ hqi).1
    have l1 := sqL_le hA (i := i) (by omega)
    have l2 := sqA_le hA (i := i) (by omega)
    rw [if_neg (nI_ge (a := i) (b := asN A) hl (by omega)), HL W hs.2.2.2.2.2.2.1 (show i < 10 by omega) (by omega), bnd_s, hc.2.2.2.2.2.1 i hl, kind_of_in W hs.m10 hcm hn hqi, bnd_s, fits_eq, bnd_s]
    have hiff : (nI (mvD (asV A) (asQ A i) 0) = nI (sqL (asV A) (asQ A) i) ∨ nI (mvD (asV A) (asQ A i) 0) = nI (if asL A = 1 then sqA (asV A) (asQ A) i else 5)) ↔ ¬ sqOK (asL A) (asV A) (asQ A) i := by
      rw [nI_eq (by omega) (by omega), nI_eq (by omega) (by split <;> omega)]
      unfold sqOK
      split <;> omega
    rcases Nat.lt_or_ge i s with hsl | hsl
    · refine Or.inl ⟨hsl, _, _, _, ⟨rfl, rfl, rfl⟩, ?_⟩
      rw [if_neg (fun q => hiff.mp q (s2 i hsl)), if_neg i10, held_eq _ hL, bnd_s, nI_1]
      show rec (nI (mvD (asV A) (asQ A i) 0)) (if asL A = 1 then nI (sqL (asV A) (asQ A) i) else 5) (nI (i + 1)) = rec (nI (mvD (asV A) (asQ A i) 0)) (nI (if asL A = 1 then sqL (asV A) (asQ A) i else 5)) (nI (i + 1))
      by_cases h1 : asL A = 1
      · simp only [if_pos h1]
      · simp only [if_neg h1]; rfl
    · refine Or.inr ?_
      have e : i = s := by omega
      subst e
      have hno : ¬ sqOK (asL A) (asV A) (asQ A) i := s3.resolve_left (by omega)
      rw [if_pos (hiff.mpr hno), if_pos rfl]
  · refine Or.inr ?_
    rw [if_pos (nI_le (a := asN A) (b := i) hl (by omega)), show asN A = s by omega]
theorem lineEnds_eq {y : Dy} (W : Wz sh z) (hs : SC sh y) (hc : ClsR A sh c) (hA : WFA A) {s : Nat} (hS : sqStop (asL A) (asV A) (asQ A) (asN A) s) : f_X6_lineEnds 0 (HH sh c z) = some (nI (sqH (asV A) (asQ A) s)) := by
  have hcm := hc.2.2.2.2.2.2.1
  have hV := hA.2.2.2.1
  have hq := hA.2.2.2.2.2.2.2.2.1
  have s1 := hS.1
  unfold f_X6_lineEnds
  simp only [HG W hs.1, bnd_s, HR (k := 4) W hs.1 rfl, HI (k := 8) W hs.m10.1 rfl, HR (k := 9) W hs.1 rfl, hcm.2.2.2.2.1, stopPlace_eq W hs hc hA hS]
  refine wl2_fuel (fun i x p => p = nI i ∧ x = nI (sqH (asV A) (asQ A) i)) s (by omega) (fun t => t = some (nI (sqH (asV A) (asQ A) s))) ?_ _ _ ⟨rfl, rfl⟩
  intro rec i x p hi hx
  obtain ⟨rfl, rfl⟩ := hx
  rcases Nat.lt_or_ge i s with hl | hl
  · have hqi := hA.qin (i := i) (by omega)
    have hb := sqH_le hA i (by omega)
    refine Or.inl ⟨hl, _, _, ⟨rfl, rfl⟩, ?_⟩
    rw [if_neg (nI_ge (a := i) (b := s) hl (by omega)), HL W hs.2.2.2.2.2.2.1 (show i < 10 by omega) (by omega), bnd_s, hc.2.2.2.2.2.1 i (by omega), hourAfter_in W hs.m10 hcm hV hqi (by omega), bnd_s, nI_1]
    rfl
  · refine Or.inr ?_
    rw [if_pos (nI_le (a := s) (b := i) hl (by omega)), show i = s by omega]
theorem bread_eq {y : Dy} (W : Wz sh z) (hs : SC sh y) (hc : ClsR A sh c) (hA : WFA A) : f_X6_bread 0 (HH sh c z) = some (nI (brd (asV A) (asQ A) (asN A - 2))) := by
  have hcm := hc.2.2.2.2.2.2.1
  have hV := hA.2.2.2.1
  have hn := hV.1
  have hq := hA.2.2.2.2.2.2.2.2.1
  unfold f_X6_bread
  simp only [HG W hs.1, bnd_s, HR (k := 4) W hs.1 rfl, HI (k := 10) W hs.1 rfl, HR (k := 9) W hs.1 rfl, hc.2.2.2.2.1, jn1_s]
  refine wl2_fuel (fun i x p => p = nI (i + 2) ∧ x = nI (brd (asV A) (asQ A) i)) (asN A - 2) (by omega) (fun t => t = some (nI (brd (asV A) (asQ A) (asN A - 2)))) ?_ _ _ ⟨rfl, rfl⟩
  intro rec i x p hi hx
  obtain ⟨rfl, rfl⟩ := hx
  rcases Nat.lt_or_ge i (asN A - 2) with hl | hl
  · have q0 := hA.qin (i := i) (by omega)
    have q1 := hA.qin (i := i + 1) (by omega)
    have q2 := hA.qin (i := i + 2) (by omega)
    have d0 := (hV.2.1 _ q0).1
    have d1 := (hV.2.1 _ q1).1
    have d2 := (hV.2.1 _ q2).1
    have e2 : nI (i + 2) - 2 = nI i := by rw [show (2 : Int32) = nI 2 from rfl, pk_sub (by omega)]; congr 1
    have e1 : nI (i + 2) - 1 = nI (i + 1) := by rw [show (1 : Int32) = nI 1 from rfl, pk_sub (by omega)]; congr 1
    have L : ∀ k, k < 10 → ldI 0 (HH sh c z) 78 (nI k) = some (c 78 k) := fun k hk => HL W hs.2.2.2.2.2.2.1 hk (by omega)
    refine Or.inl ⟨hl, nI (brd (asV A) (asQ A) (i + 1)), _, ⟨rfl, rfl⟩, ?_⟩
    rw [if_neg (nI_ge (a := i + 2) (b := asN A) (by omega) (by omega)), e2, e1]
    simp only [L i (by omega), L (i + 1) (by omega), L (i + 2) (by omega), hc.2.2.2.2.2.1 i (by omega), hc.2.2.2.2.2.1 (i + 1) (by omega), hc.2.2.2.2.2.1 (i + 2) (by omega), kind_of_in W hs.m10 hcm hn q0, kind_of_in W hs.m10 hcm hn q1, kind_of_in W hs.m10 hcm hn q2, bnd_s, nI_1, neq (show mvD (asV A) (asQ A i) 0 < 2147483648 by omega) (show mvD (asV A) (asQ A (i + 1)) 0 < 2147483648 by omega), neq (show mvD (asV A) (asQ A (i + 1)) 0 < 2147483648 by omega) (show mvD (asV A) (asQ A (i + 2)) 0 < 2147483648 by omega), neq (show mvD (asV A) (asQ A i) 0 < 2147483648 by omega) (show mvD (asV A) (asQ A (i + 2)) 0 < 2147483648 by omega), brd]
    by_cases g1 : mvD (asV A) (asQ A i) 0 = mvD (asV A) (asQ A (i + 1)) 0
    · rw [if_pos g1, if_neg (fun q => q.1 g1)]; rfl
    · rw [if_neg g1]
      by_cases g2 : mvD (asV A) (asQ A (i + 1)) 0 = mvD (asV A) (asQ A (i + 2)) 0
      · rw [if_pos g2, if_neg (fun q => q.2.1 g2)]; rfl
      · rw [if_neg g2]
        by_cases g3 : mvD (asV A) (asQ A i) 0 = mvD (asV A) (asQ A (i + 2)) 0
        · rw [if_pos g3, if_neg (fun q => q.2.2 g3)]; rfl
        · rw [if_neg g3, if_pos ⟨g1, g2, g3⟩]
  · refine Or.inr ?_
    rw [if_pos (nI_le (a := asN A) (b := i + 2) (by omega) (by omega)), show i = asN A - 2 by omega]
theorem breadM_eq (W : Wz sh z) (hS : SMo sh) (hR : ModR A c) (hA : WFA A) : f_X7_bread 99 (HH sh c z) = some (nI (brd (asV A) (asQ A) (asN A - 2))) := by
  have hV := hA.2.2.2.1
  have hn := hV.1
  have hq := hA.2.2.2.2.2.2.2.2.1
  unfold f_X7_bread
  simp only [HG W hS.1, bnd_s, HI (k := 9) W hS.1 rfl, HR (k := 10) W hS.1 rfl, hR.2.2.2.2.1, jn1_s, jn0_s, nm_s]
  refine wl2_fuel (fun i x p => p = nI (i + 2) ∧ x = nI (brd (asV A) (asQ A) i)) (asN A - 2) (by omega) (fun t => t = some (nI (brd (asV A) (asQ A) (asN A - 2)))) ?_ _ _ ⟨rfl, rfl⟩
  intro rec i x p hi hx
  obtain ⟨rfl, rfl⟩ := hx
  rcases Nat.lt_or_ge i (asN A - 2) with hl | hl
  · have q0 := hA.qin (i := i) (by omega)
    have q1 := hA.qin (i := i + 1) (by omega)
    have q2 := hA.qin (i := i + 2) (by omega)
    have d0 := (hV.2.1 _ q0).1
    have d1 := (hV.2.1 _ q1).1
    have d2 := (hV.2.1 _ q2).1
    have e2 : nI (i + 2) - 2 = nI i := by rw [show (2 : Int32) = nI 2 from rfl, pk_sub (by omega)]; congr 1
    have e1 : nI (i + 2) - 1 = nI (i + 1) := by rw [show (1 : Int32) = nI 1 from rfl, pk_sub (by omega)]; congr 1
    have L : ∀ k, k < 10 → ldI 0 (HH sh c z) 105 (nI k) = some (c 105 k) := fun k hk => HL W hS.2.2.2.2.2.2.1 hk (by omega)
    have z0 : (0 : Int32) = nI 0 := rfl
    refine Or.inl ⟨hl, nI (brd (asV A) (asQ A) (i + 1)), _, ⟨rfl, rfl⟩, ?_⟩
    rw [if_neg (nI_ge (a := i + 2) (b := asN A) (by omega) (by omega)), e2, e1, z0]
    simp only [L i (by omega), L (i + 1) (by omega), L (i + 2) (by omega), hR.2.2.2.2.2.1 i (by omega), hR.2.2.2.2.2.1 (i + 1) (by omega), hR.2.2.2.2.2.1 (i + 2) (by omega), of_in W hS hR hV q0 (show 0 < 5 by omega), of_in W hS hR hV q1 (show 0 < 5 by omega), of_in W hS hR hV q2 (show 0 < 5 by omega), bnd_s, nI_1, nI_add, neq (show mvD (asV A) (asQ A i) 0 < 2147483648 by omega) (show mvD (asV A) (asQ A (i + 1)) 0 < 2147483648 by omega), neq (show mvD (asV A) (asQ A (i + 1)) 0 < 2147483648 by omega) (show mvD (asV A) (asQ A (i + 2)) 0 < 2147483648 by omega), neq (show mvD (asV A) (asQ A i) 0 < 2147483648 by omega) (show mvD (asV A) (asQ A (i + 2)) 0 < 2147483648 by omega), brd]
    by_cases g1 : mvD (asV A) (asQ A i) 0 = mvD (asV A) (asQ A (i + 1)) 0
    · rw [if_pos g1, if_neg (fun q => q.1 g1)]
    · rw [if_neg g1]
      by_cases g2 : mvD (asV A) (asQ A (i + 1)) 0 = mvD (asV A) (asQ A (i + 2)) 0
      · rw [if_pos g2, if_neg (fun q => q.2.1 g2)]
      · rw [if_neg g2]
        by_cases g3 : mvD (asV A) (asQ A i) 0 = mvD (asV A) (asQ A (i + 2)) 0
        · rw [if_pos g3, if_neg (fun q => q.2.2 g3)]
        · rw [if_neg g3, if_pos ⟨g1, g2, g3⟩]
  · refine Or.inr ?_
    rw [if_pos (nI_le (a := asN A) (b := i + 2) (by omega) (by omega)), show i = asN A - 2 by omega]
theorem stopsM_eq (W : Wz sh z) (hS : SMo sh) (hR : ModR A c) (hA : WFA A) {s : Nat} (hst : sqStop (asL A) (asV A) (asQ A) (asN A) s) (w : Nat) (hw : w ≤ 1) : f_X7_stops 99 (nI w) (HH sh c z) = some (if w = 0 then (if s = asN A then -4 else nI s) else nI (sqH (asV A) (asQ A) s)) := by
  have hV := hA.2.2.2.1
  have hn := hV.1
  have hL := hA.2.1
  have hq := hA.2.2.2.2.2.2.2.2.1
  have hsl := hR.2.2.2.2.2.2.2.2.1
  have h51 : c 104 51 = nI (mvH (asV A)) := hsl.2.2.1
  have h52 : c 104 52 = nI (mvL (asV A)) := hsl.2.2.2.1
  have h53 : c 104 53 = nI (mvA (asV A)) := hsl.2.2.2.2.1
  unfold f_X7_stops
  simp only [HG W hS.1, bnd_s, HI (k := 9) W hS.1 rfl, HR (k := 10) W hS.1 rfl, HR (k := 6) W hS.1 rfl, hR.2.2.2.2.1, jn1_s]
  rw [in_n (lo := 0) (hi := 2) 0 2 rfl rfl (by omega) (by omega) (by omega), bnd_s, if_neg (by decide), if_neg (by rw [show (2 : Int32) = nI 2 from rfl, neq (by omega) (by omega)]; omega), show (52 : Int32) = nI 52 from rfl, slotR W hS (by omega), bnd_s, h52, show (53 : Int32) = nI 53 from rfl, slotR W hS (by omega), bnd_s, h53, show (51 : Int32) = nI 51 from rfl, slotR W hS (by omega), bnd_s, h51]
  obtain ⟨s1, s2, s3⟩ := hst
  have hw0 : (nI w = 0) = (w = 0) := by rw [show (0 : Int32) = nI 0 from rfl, neq (by omega) (by omega)]
  simp only [hw0]
  refine wl4_fuel (fun i l b x p => p = nI i ∧ l = nI (sqL (asV A) (asQ A) i) ∧ b = nI (sqA (asV A) (asQ A) i) ∧ x = nI (sqH (asV A) (asQ A) i)) s (by omega) (fun t => t = _) ?_ _ _ _ _ ⟨rfl, rfl, rfl, rfl⟩
  intro rec i l b x p hi hx
  obtain ⟨rfl, rfl, rfl, rfl⟩ := hx
  rcases Nat.lt_or_ge i (asN A) with hl | hl
  · have hqi := hA.qin hl
    have hd := (hV.2.1 _ hqi).1
    have l1 := sqL_le hA (i := i) (by omega)
    have l2 := sqA_le hA (i := i) (by omega)
    have l3 := sqH_le hA i (by omega)
    rw [if_neg (nI_ge (a := i) (b := asN A) hl (by omega)), HL W hS.2.2.2.2.2.2.1 (show i < 10 by omega) (by omega), bnd_s, hR.2.2.2.2.2.1 i hl, show f_X7_of 99 (nI (asQ A i)) 0 (HH sh c z) = _ from of_in W hS hR hV hqi (w := 0) (by omega), bnd_s, isMixed_eq W hS hR hL (by omega) (by omega) (by omega), bnd_s]
    rcases Nat.lt_or_ge i s with hsl | hsl
    · refine Or.inl ⟨hsl, _, _, _, _, ⟨rfl, rfl, rfl, rfl⟩, ?_⟩
      have hok : mvD (asV A) (asQ A i) 0 ≠ sqL (asV A) (asQ A) i ∧ (asL A = 0 ∨ mvD (asV A) (asQ A i) 0 ≠ sqA (asV A) (asQ A) i) := s2 i hsl
      rw [if_pos hok, if_neg i10, ends_in W hS hR hV hqi (by omega), bnd_s, bnd_s, nI_1]
      rfl
    · refine Or.inr ?_
      have e : i = s := by omega
      subst e
      have hno : ¬ (mvD (asV A) (asQ A i) 0 ≠ sqL (asV A) (asQ A) i ∧ (asL A = 0 ∨ mvD (asV A) (asQ A i) 0 ≠ sqA (asV A) (asQ A) i)) := s3.resolve_left (by omega)
      rw [if_neg hno, if_pos rfl]
      by_cases h0 : w = 0
      · simp only [if_pos h0]
        rw [if_neg (by omega)]
      · simp only [if_neg h0]
  · refine Or.inr ?_
    have e : s = asN A := by omega
    rw [if_pos (nI_le (a := asN A) (b := i) hl (by omega)), show i = s by omega]
    by_cases h0 : w = 0
    · simp only [if_pos h0, if_pos e]
    · simp only [if_neg h0]
theorem op_stops (hI : Inv n h) (x : Int32) : ∃ r, f_X6_stops 0 x h = some r ∧ f_X7_stops 99 x h = some r := by
  obtain ⟨A, sh, c, z, rfl, hA, hC, hS, hR⟩ := hI
  obtain ⟨y, W, hs, hb, hc⟩ := id hC
  obtain ⟨s, hst⟩ := sqStop_ex (asL A) (asV A) (asQ A) (asN A)
  have s1 := hst.1
  have hq := hA.2.2.2.2.2.2.2.2.1
  have e0 : f_X6_stopsNowhere 0 (HH sh c z) = some (if s = asN A then 1 else 0) := by
    unfold f_X6_stopsNowhere
    simp only [HG W hs.1, bnd_s, stopPlace_eq W hs hc hA hst, HI (k := 10) W hs.1 rfl, hc.2.2.2.2.1, jn1_s, rZp_0, rZp_1]
    by_cases he : s = asN A
    · rw [if_neg (by rw [nlt (by omega) (by omega)]; omega), if_pos he]
    · rw [if_pos (by rw [nlt (by omega) (by omega)]; omega), if_neg he]
  have e6 : f_X6_stops 0 x (HH sh c z) = sw x [(0, 28, some (if s = asN A then -4 else nI s)), (1, 45, some (nI (sqH (asV A) (asQ A) s))), (2, 50, some (nI (brd (asV A) (asQ A) (asN A - 2))))] (some (-1)) := by
    unfold f_X6_stops
    simp only [HG W hs.1, bnd_s, e0, jn1_s, stopPlace_eq W hs hc hA hst, lineEnds_eq W hs hc hA hst, bread_eq W hs hc hA]
    by_cases he : s = asN A
    · simp only [if_pos he, if_neg i10]
    · simp only [if_neg he, if_true]
  rw [e6]
  rcases i_cases x 3 (by omega) with ⟨k, hk, rfl⟩ | hx
  · rcases (show k = 0 ∨ k = 1 ∨ k = 2 by omega) with rfl | rfl | rfl
    · rw [stopsM_eq W hS hR hA hst 0 (by omega)]
      exact ⟨_, rfl, rfl⟩
    · rw [stopsM_eq W hS hR hA hst 1 (by omega)]
      exact ⟨_, rfl, rfl⟩
    · refine ⟨nI (brd (asV A) (asQ A) (asN A - 2)), rfl, ?_⟩
      unfold f_X7_stops
      simp only [HG W hS.1, bnd_s]
      rw [in_n (lo := 0) (hi := 2) 0 2 rfl rfl (by omega) (by omega) (by omega), bnd_s, if_neg (by decide), if_pos (show nI 2 = (2 : Int32) from rfl), breadM_eq W hS hR hA, bnd_s]
  · have hx2 : x.toInt < 0 ∨ 3 ≤ x.toInt := by
      rw [i_lt, i_le, nI_T _ (by omega), show (0 : Int32).toInt = 0 from rfl] at hx
      exact hx
    have ne : ∀ k : Nat, k < 3 → x ≠ nI k := by
      intro k hk e
      rw [e, nI_T _ (by omega)] at hx2
      omega
    refine ⟨-1, ?_, ?_⟩
    · simp only [sw]
      rw [if_neg (show ¬ x = 0 from ne 0 (by omega)), if_neg (show ¬ x = 1 from ne 1 (by omega)), if_neg (show ¬ x = 2 from ne 2 (by omega))]
    · unfold f_X7_stops
      simp only [HG W hS.1, bnd_s]
      rw [in_no (by rw [show (0 : Int64).toInt = 0 from rfl, show (2 : Int64).toInt = 2 from rfl]; omega), bnd_s, if_pos rfl]
end ST
