/-! ===== what is taken into the class's table ===== -/
/-- of kind k, from the first sacks: g says the kind of each, w whether it counts -/
def kc (g w : Nat → Nat) : Nat → Nat → Nat
  | 0, _ => 0
  | i + 1, k => kc g w i k + if g i = k then w i else 0
def wSum (w : Nat → Nat) : Nat → Nat
  | 0 => 0
  | i + 1 => wSum w i + w i
theorem wSum_le {w : Nat → Nat} (h : ∀ i, w i ≤ 1) : ∀ n, wSum w n ≤ n := by
  intro n
  induction n with
  | zero => exact Nat.le_refl 0
  | succ n ih => have := h n; simp only [wSum]; omega
theorem kc_congr {g w g' w' : Nat → Nat} {k : Nat} : ∀ n, (∀ i, i < n → g i = g' i ∧ w i = w' i) → kc g w n k = kc g' w' n k := by
  intro n
  induction n with
  | zero => intro _; rfl
  | succ n ih =>
    intro h
    simp only [kc]
    rw [ih (fun i hi => h i (by omega)), (h n (by omega)).1, (h n (by omega)).2]
theorem sum5_kc {g w : Nat → Nat} : ∀ n, (∀ i, i < n → g i < 5) → sum5 (kc g w n) 5 = wSum w n := by
  intro n
  induction n with
  | zero => intro _; rfl
  | succ n ih =>
    intro h
    have h1 := ih (fun i hi => h i (by omega))
    have h2 := h n (by omega)
    simp only [sum5, kc, wSum] at h1 ⊢
    rcases (show g n = 0 ∨ g n = 1 ∨ g n = 2 ∨ g n = 3 ∨ g n = 4 by omega) with e | e | e | e | e <;> simp only [e] <;> simp <;> omega
theorem kc_le {g w : Nat → Nat} {k : Nat} (hw : ∀ i, w i ≤ 1) : ∀ n, kc g w n k ≤ n := by
  intro n
  induction n with
  | zero => exact Nat.le_refl 0
  | succ n ih => have := hw n; simp only [kc]; split <;> omega
theorem ten_ge {i : Nat} (h : i < 10) : ¬ (10 : Int32) ≤ nI i := nI_ge (b := 10) h (by omega)
theorem ten_le {i : Nat} (h : 10 ≤ i) (h2 : i < 1000) : (10 : Int32) ≤ nI i := nI_le (a := 10) h (by omega)
section TK
variable {n : Nat} {A : AS} {y : Dy} {sh : Nat → Shp} {c c' : Nat → Nat → Int32} {z : Nat × Nat} {b : Nat → Nat}
theorem fillRow (W : Wz sh z) {a N : Nat} (x : Int32) (hs : sh a = sA 0 N) (hN : N ≤ 100000) : ∃ c', f_J7_fill_53178 a x (HH sh c z) = some (HH sh c' z) ∧ (∀ b, b ≠ a → c' b = c b) ∧ ∀ k, k < N → c' a k = x := by
  unfold f_J7_fill_53178
  rw [HN W hs (by omega), bnd_s]
  refine wl2_fuel (fun i x1 h => x1 = nI i ∧ ∃ c', h = HH sh c' z ∧ (∀ b, b ≠ a → c' b = c b) ∧ ∀ k, k < i → c' a k = x) N (by omega) (fun t => ∃ c', t = some (HH sh c' z) ∧ (∀ b, b ≠ a → c' b = c b) ∧ ∀ k, k < N → c' a k = x) ?_ _ _ ⟨rfl, c, rfl, fun _ _ => rfl, fun k hk => absurd hk (by omega)⟩
  intro rec i x1 h hi hx
  obtain ⟨rfl, c', rfl, h1, h2⟩ := hx
  rcases Nat.lt_or_ge i N with h5 | h5
  · refine Or.inl ⟨h5, ?_⟩
    rw [if_neg (nI_ge h5 (by omega)), HS W hs h5 (by omega), bnd_s, nI_1]
    refine ⟨_, _, ⟨rfl, _, rfl, fun b hb => by rw [u2_other _ _ _ hb]; exact h1 b hb, ?_⟩, rfl⟩
    intro k hk
    rcases Nat.lt_or_ge k i with g | g
    · rw [u2_ne _ _ (Or.inr (by omega))]; exact h2 k g
    · rw [show k = i by omega, u2_same, nrw0]
  · refine Or.inr ?_
    rw [if_pos (nI_le h5 (by omega)), show N = i by omega]
    exact ⟨c', rfl, h1, h2⟩
theorem takeNone_eq (W : Wz sh z) (hs : SC sh y) : ∃ c', f_X0_takeNone 79 (HH sh c z) = some (HH sh c' z) ∧ (∀ b, b ≠ 80 → c' b = c b) ∧ ∀ k, k < 5 → c' 80 k = 0 := by
  obtain ⟨c', e, h1, h2⟩ := fillRow (c := c) W 0 hs.a80 (by omega)
  refine ⟨c', ?_, h1, h2⟩
  unfold f_X0_takeNone
  rw [HG W hs.a79, bnd_s, HR (k := 0) W hs.a79 rfl, bnd_s, e, bnd_s]
theorem addOne_eq (W : Wz sh z) (hs : SC sh y) {k : Nat} (hk : k < 5) : f_X0_addOne 79 (nI k) (HH sh c z) = some (HH sh (u2 c 80 k (c 80 k + 1)) z) := by
  unfold f_X0_addOne
  rw [HG W hs.a79, bnd_s, kind_in hk, bnd_s]
  simp only [jn1_s]
  rw [if_neg i10, HR (k := 0) W hs.a79 rfl, bnd_s, HL W hs.a80 hk (by omega), bnd_s, HS W hs.a80 hk (by omega), bnd_s, nrw0]
theorem dropKind_eq (W : Wz sh z) (hs : SC sh y) {k : Nat} (hk : k < 5) : f_X0_dropKind 79 (nI k) (HH sh c z) = some (HH sh (u2 c 80 k 0) z) := by
  unfold f_X0_dropKind
  rw [HG W hs.a79, bnd_s, kind_in hk, bnd_s]
  simp only [jn1_s]
  rw [if_neg i10, HR (k := 0) W hs.a79 rfl, bnd_s, HS W hs.a80 hk (by omega), bnd_s, nrw0]
theorem take_loop {B : (Int32 → Hp → Option Hp) → Int32 → Hp → Option Hp} (g w : Nat → Nat) (N : Nat) (hN : N ≤ 10) (hg : ∀ i, i < N → g i < 5) (hw : ∀ i, w i ≤ 1) (h0 : ∀ k, k < 5 → c' 80 k = 0) (hc : ∀ a, a ≠ 80 → c' a = c a) (hex : ∀ rec h, B rec (nI 10) h = some h) (hst : ∀ rec i c1, i < 10 → (∀ a, a ≠ 80 → c1 a = c a) → B rec (nI i) (HH sh c1 z) = rec (nI (i + 1)) (HH sh (if i < N ∧ w i = 1 then u2 c1 80 (g i) (c1 80 (g i) + 1) else c1) z)) : ∃ c2, wl2 B fuel 0 (HH sh c' z) = some (HH sh c2 z) ∧ (∀ a, a ≠ 80 → c2 a = c a) ∧ ∀ k, k < 5 → c2 80 k = nI (kc g w N k) := by
  refine wl2_fuel (fun i x h => x = nI i ∧ ∃ c1, h = HH sh c1 z ∧ (∀ a, a ≠ 80 → c1 a = c a) ∧ ∀ k, k < 5 → c1 80 k = nI (kc g w (min i N) k)) 10 (by omega) (fun t => ∃ c2, t = some (HH sh c2 z) ∧ (∀ a, a ≠ 80 → c2 a = c a) ∧ ∀ k, k < 5 → c2 80 k = nI (kc g w N k)) ?_ _ _ ⟨rfl, c', rfl, hc, fun k hk => by rw [h0 k hk, Nat.zero_min]; rfl⟩
  intro rec i x h hi hx
  obtain ⟨rfl, c1, rfl, h1, h2⟩ := hx
  rcases Nat.lt_or_ge i 10 with h5 | h5
  · refine Or.inl ⟨h5, ?_⟩
    rw [hst rec i c1 h5 h1]
    refine ⟨_, _, ⟨rfl, _, rfl, ?_, ?_⟩, rfl⟩
    · intro a ha
      split
      · rw [u2_other _ _ _ ha]; exact h1 a ha
      · exact h1 a ha
    · intro k hk
      rcases Nat.lt_or_ge i N with q | q
      · rw [show min (i + 1) N = i + 1 by omega]
        rw [show min i N = i by omega] at h2
        simp only [kc]
        by_cases e1 : w i = 1
        · rw [if_pos ⟨q, e1⟩]
          by_cases e2 : g i = k
          · rw [e2, u2_same, h2 k hk, if_pos rfl, e1, nI_1]
          · rw [u2_ne _ _ (Or.inr (by omega)), h2 k hk, if_neg e2, Nat.add_zero]
        · have e0 : w i = 0 := by have := hw i; omega
          rw [if_neg (fun r => e1 r.2), h2 k hk, e0]
          split <;> rfl
      · rw [if_neg (fun r => by omega), show min (i + 1) N = N by omega]
        rw [show min i N = N by omega] at h2
        exact h2 k hk
  · refine Or.inr ?_
    rw [show i = 10 by omega, hex]
    rw [show min i N = N by omega] at h2
    exact ⟨c1, rfl, h1, h2⟩
/-- 1 for those that wait -/
def wW (D : Nat → Nat → Nat) (i : Nat) : Nat := if D i 4 = 0 then 1 else 0
def wO (D : Nat → Nat → Nat) (p q : Nat) (i : Nat) : Nat := if D i 4 = 0 ∧ (D i 2 = p ∨ D i 2 = q) then 1 else 0
def gK (D : Nat → Nat → Nat) (i : Nat) : Nat := D i 0
def gG (D : Nat → Nat → Nat) (p k : Nat) (i : Nat) : Nat := if D i 2 = p then k else D i 0
theorem wW_le (D : Nat → Nat → Nat) (i : Nat) : wW D i ≤ 1 := by unfold wW; split <;> omega
theorem wO_le (D : Nat → Nat → Nat) (p q i : Nat) : wO D p q i ≤ 1 := by unfold wO; split <;> omega
theorem takeAll_eq (W : Wz sh z) (hs : SC sh y) {law price : Nat} {V : MV} (hcm : CM c 10 law price V) (hV : WFV V) : ∃ c2, f_X0_takeAll 79 10 (HH sh c z) = some (HH sh c2 z) ∧ (∀ a, a ≠ 80 → c2 a = c a) ∧ ∀ k, k < 5 → c2 80 k = nI (kc (gK (mvD V)) (wW (mvD V)) (mvN V) k) := by
  unfold f_X0_takeAll
  obtain ⟨c', e, h1, h2⟩ := takeNone_eq (c := c) W hs
  rw [HG W hs.a79, bnd_s, e, bnd_s]
  refine take_loop (gK (mvD V)) (wW (mvD V)) (mvN V) hV.1 (fun i hi => (hV.2.1 i hi).1) (wW_le _) h2 h1 (fun rec h => by rw [if_pos (ten_le (by omega) (by omega))]) ?_
  intro rec i c1 hi f1
  have hcm1 : CM c1 10 law price V := hcm.kept (fun a q1 q2 => f1 a (by omega))
  rw [if_neg (ten_ge hi)]
  simp only [jn1_s]
  rcases Nat.lt_or_ge i (mvN V) with q | q
  · rw [waits_in W hs.m10 hcm1 hV q, bnd_s]
    by_cases e : mvD V i 4 = 0
    · rw [if_pos e, if_neg i10, kind_of_in W hs.m10 hcm1 hV.1 q, bnd_s, addOne_eq W hs (hV.2.1 i q).1, bnd_s, if_pos ⟨q, by unfold wW; rw [if_pos e]⟩, nI_1]
      rfl
    · rw [if_neg e, if_pos rfl, if_neg (fun r => by have := r.2; unfold wW at this; rw [if_neg e] at this; omega), nI_1]
  · rw [waits_out W hs.m10 hcm1 (Or.inr (nI_le q (by omega))), bnd_s, if_pos rfl, if_neg (fun r => by omega), nI_1]
theorem takeGrown_eq (W : Wz sh z) (hs : SC sh y) {law price : Nat} {V : MV} (hcm : CM c 10 law price V) (hV : WFV V) {p r : Nat} (hp : p < 5) (hr : r < 5) : ∃ c2, f_X0_takeGrown 79 10 (nI p) (nI r) (HH sh c z) = some (HH sh c2 z) ∧ (∀ a, a ≠ 80 → c2 a = c a) ∧ ∀ k, k < 5 → c2 80 k = nI (kc (gG (mvD V) p r) (wW (mvD V)) (mvN V) k) := by
  unfold f_X0_takeGrown
  obtain ⟨c', e, h1, h2⟩ := takeNone_eq (c := c) W hs
  rw [HG W hs.a79, bnd_s, e, bnd_s]
  have hg : ∀ i, i < mvN V → gG (mvD V) p r i < 5 := fun i hi => by have := (hV.2.1 i hi).1; unfold gG; split <;> omega
  refine take_loop (gG (mvD V) p r) (wW (mvD V)) (mvN V) hV.1 hg (wW_le _) h2 h1 (fun rec h => by rw [if_pos (ten_le (by omega) (by omega))]) ?_
  intro rec i c1 hi f1
  have hcm1 : CM c1 10 law price V := hcm.kept (fun a q1 q2 => f1 a (by omega))
  rw [if_neg (ten_ge hi)]
  simp only [jn1_s]
  rcases Nat.lt_or_ge i (mvN V) with q | q
  · have hd := hV.2.1 i q
    rw [waits_in W hs.m10 hcm1 hV q, bnd_s]
    by_cases e : mvD V i 4 = 0
    · rw [if_pos e, if_neg i10, HR (k := 5) W hs.m10.1 rfl, bnd_s, HL W hs.m10.row.2.2.1 hi (by omega), bnd_s, (hcm1.at q).2.2.1]
      have qw : i < mvN V ∧ wW (mvD V) i = 1 := ⟨q, by unfold wW; rw [if_pos e]⟩
      by_cases e2 : mvD V i 2 = p
      · rw [if_pos (by rw [e2]), addOne_eq W hs hr, bnd_s, nI_1, if_pos qw]
        unfold gG
        rw [if_pos e2]
      · rw [if_neg (by rw [nI_eq (by omega) (by omega)]; exact e2), kind_of_in W hs.m10 hcm1 hV.1 q, bnd_s, addOne_eq W hs hd.1, bnd_s, nI_1, if_pos qw]
        unfold gG
        rw [if_neg e2]
    · rw [if_neg e, if_pos rfl, if_neg (fun r => by have := r.2; unfold wW at this; rw [if_neg e] at this; omega), nI_1]
  · rw [waits_out W hs.m10 hcm1 (Or.inr (nI_le q (by omega))), bnd_s, if_pos rfl, if_neg (fun r => by omega), nI_1]
theorem takeOwners_eq (W : Wz sh z) (hs : SC sh y) {law price : Nat} {V : MV} (hcm : CM c 10 law price V) (hV : WFV V) {p r : Nat} (hp : p < 5) (hr : r < 5) : ∃ c2, f_X0_takeOwners 79 10 (nI p) (nI r) (HH sh c z) = some (HH sh c2 z) ∧ (∀ a, a ≠ 80 → c2 a = c a) ∧ ∀ k, k < 5 → c2 80 k = nI (kc (gK (mvD V)) (wO (mvD V) p r) (mvN V) k) := by
  unfold f_X0_takeOwners
  obtain ⟨c', e, h1, h2⟩ := takeNone_eq (c := c) W hs
  rw [HG W hs.a79, bnd_s, e, bnd_s]
  refine take_loop (gK (mvD V)) (wO (mvD V) p r) (mvN V) hV.1 (fun i hi => (hV.2.1 i hi).1) (wO_le _ _ _) h2 h1 (fun rec h => by rw [if_pos (ten_le (by omega) (by omega))]) ?_
  intro rec i c1 hi f1
  have hcm1 : CM c1 10 law price V := hcm.kept (fun a q1 q2 => f1 a (by omega))
  rw [if_neg (ten_ge hi)]
  simp only [jn1_s, jn0_s]
  rcases Nat.lt_or_ge i (mvN V) with q | q
  · have hd := hV.2.1 i q
    rw [waits_in W hs.m10 hcm1 hV q, bnd_s]
    by_cases e : mvD V i 4 = 0
    · rw [if_pos e, if_neg i10, HR (k := 5) W hs.m10.1 rfl, bnd_s, HL W hs.m10.row.2.2.1 hi (by omega), bnd_s, (hcm1.at q).2.2.1, kind_of_in W hs.m10 hcm1 hV.1 q, bnd_s, addOne_eq W hs hd.1, bnd_s, bnd_s, HL W hs.m10.row.2.2.1 hi (by omega), bnd_s, (hcm1.at q).2.2.1, nI_1]
      by_cases e2 : mvD V i 2 = p
      · rw [if_pos (by rw [e2]), if_pos ⟨q, by unfold wO; rw [if_pos ⟨e, Or.inl e2⟩]⟩]
        rfl
      · rw [if_neg (by rw [nI_eq (by omega) (by omega)]; exact e2)]
        by_cases e3 : mvD V i 2 = r
        · rw [if_pos (by rw [e3]), if_pos ⟨q, by unfold wO; rw [if_pos ⟨e, Or.inr e3⟩]⟩]
          rfl
        · rw [if_neg (by rw [nI_eq (by omega) (by omega)]; exact e3), if_neg (fun r => by have := r.2; unfold wO at this; rw [if_neg (by omega)] at this; omega)]
    · rw [if_neg e, if_pos rfl, if_neg (fun r => by have := r.2; unfold wO at this; rw [if_neg (by omega)] at this; omega), nI_1]
  · rw [waits_out W hs.m10 hcm1 (Or.inr (nI_le q (by omega))), bnd_s, if_pos rfl, if_neg (fun r => by omega), nI_1]
theorem total_eq (W : Wz sh z) (hs : SC sh y) (hb : ∀ k, k < 5 → c 80 k = nI (b k)) : f_X0_total 79 (HH sh c z) = some (nI (sum5 b 5)) := by
  unfold f_X0_total
  rw [HG W hs.a79, bnd_s]
  refine wl2_fuel (fun i x j => x = nI (sum5 b i) ∧ j = nI i) 5 (by omega) (fun t => t = some (nI (sum5 b 5))) ?_ _ _ ⟨rfl, rfl⟩
  intro rec i x j hi hx
  obtain ⟨rfl, rfl⟩ := hx
  rcases Nat.lt_or_ge i 5 with h5 | h5
  · refine Or.inl ⟨h5, ?_⟩
    rw [if_neg (five_ge h5), HR (k := 0) W hs.a79 rfl, bnd_s, HL W hs.a80 h5 (by omega), bnd_s, nm_s, hb i h5, nI_add, nI_1]
    exact ⟨_, _, ⟨rfl, rfl⟩, rfl⟩
  · refine Or.inr ?_
    rw [if_pos (five_le h5 (by omega)), show i = 5 by omega]
end TK
