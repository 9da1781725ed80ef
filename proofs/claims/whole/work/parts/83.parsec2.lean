/-! ===== the text, read: the class's items ===== -/
theorem swh {ρ : Type} {x c : Int32} {t : Nat} {u d : Option ρ} {cs : List (Int32 × Nat × Option ρ)} (h : x = c) : sw x ((c, t, u) :: cs) d = u := by simp [sw, h]
theorem swt {ρ : Type} {x c : Int32} {t : Nat} {u d : Option ρ} {cs : List (Int32 × Nat × Option ρ)} (h : x ≠ c) : sw x ((c, t, u) :: cs) d = sw x cs d := by simp [sw, h]
theorem swn {ρ : Type} {x : Int32} {d : Option ρ} : sw x [] d = d := rfl
def stV (s : St) : MV := (s.1, s.2.1, 0, 5, 5, 0)
def adV (V : MV) (g : Nat → Nat) : MV := (mvN V + 1, fun i k => if i = mvN V then (if k < 4 then g k else 0) else mvD V i k, mvH V, mvL V, mvA V, mvC V)
theorem stV_ad (s : St) (g : Nat → Nat) : stV (adS s g) = adV (stV s) g := rfl
section PD
variable {n : Nat} {A : AS} {y : Dy} {sh : Nat → Shp} {c c' : Nat → Nat → Int32} {z : Nat × Nat} {X : Nat → Int32} {T : Nat}
theorem add_eq (W : Wz sh z) {a law price : Nat} {V : MV} (hM : isM sh a) (hc : CM c a law price V) (hn : mvN V < 10) (g : Nat → Nat) : ∃ c', f_X2_add a (nI (g 0)) (nI (g 1)) (nI (g 2)) (nI (g 3)) (HH sh c z) = some (HH sh c' z) ∧ CM c' a law price (adV V g) ∧ ∀ b, b < a ∨ a + 6 ≤ b → c' b = c b := by
  have h2 := hc.2.2.1
  refine ⟨u2 (u2 (u2 (u2 (u2 (u2 c (a + 1) (mvN V) (nI (g 0))) (a + 2) (mvN V) (nI (g 1))) (a + 3) (mvN V) (nI (g 2))) (a + 4) (mvN V) (nI (g 3))) (a + 5) (mvN V) 0) a 2 (nI (mvN V + 1)), ?_, ?_, ?_⟩
  · unfold f_X2_add
    rw [HG W hM.1, bnd_s, HI (k := 2) W hM.1 rfl, bnd_s, h2, if_pos (show nI (mvN V) < (10 : Int32) by rw [show (10 : Int32) = nI 10 from rfl, nlt (by omega) (by omega)]; exact hn), HR (k := 3) W hM.1 rfl, bnd_s, bnd_s, HS W hM.row.1 hn (by omega), bnd_s, nrw0, HR (k := 4) W hM.1 rfl, bnd_s, HI (k := 2) W hM.1 rfl, bnd_s, u2_other _ _ _ (show a ≠ a + 1 by omega), h2, HS W hM.row.2.1 hn (by omega), bnd_s, nrw0, HR (k := 5) W hM.1 rfl, bnd_s, HI (k := 2) W hM.1 rfl, bnd_s, u2_other _ _ _ (show a ≠ a + 2 by omega), u2_other _ _ _ (show a ≠ a + 1 by omega), h2, HS W hM.row.2.2.1 hn (by omega), bnd_s, nrw0, HR (k := 6) W hM.1 rfl, bnd_s, HI (k := 2) W hM.1 rfl, bnd_s, u2_other _ _ _ (show a ≠ a + 3 by omega), u2_other _ _ _ (show a ≠ a + 2 by omega), u2_other _ _ _ (show a ≠ a + 1 by omega), h2, HS W hM.row.2.2.2.1 hn (by omega), bnd_s, nrw0, HR (k := 7) W hM.1 rfl, bnd_s, HI (k := 2) W hM.1 rfl, bnd_s, u2_other _ _ _ (show a ≠ a + 4 by omega), u2_other _ _ _ (show a ≠ a + 3 by omega), u2_other _ _ _ (show a ≠ a + 2 by omega), u2_other _ _ _ (show a ≠ a + 1 by omega), h2, HS W hM.row.2.2.2.2 hn (by omega), bnd_s, nrw0, HI (k := 2) W hM.1 rfl, bnd_s, u2_other _ _ _ (show a ≠ a + 5 by omega), u2_other _ _ _ (show a ≠ a + 4 by omega), u2_other _ _ _ (show a ≠ a + 3 by omega), u2_other _ _ _ (show a ≠ a + 2 by omega), u2_other _ _ _ (show a ≠ a + 1 by omega), h2, HP (k := 2) W hM.1 rfl, bnd_s, nI_1]
  · have e0 : ∀ k, k ≠ 2 → u2 (u2 (u2 (u2 (u2 (u2 c (a + 1) (mvN V) (nI (g 0))) (a + 2) (mvN V) (nI (g 1))) (a + 3) (mvN V) (nI (g 2))) (a + 4) (mvN V) (nI (g 3))) (a + 5) (mvN V) 0) a 2 (nI (mvN V + 1)) a k = c a k := by
      intro k hk
      rw [u2_ne _ _ (Or.inr hk), u2_other _ _ _ (show a ≠ a + 5 by omega), u2_other _ _ _ (show a ≠ a + 4 by omega), u2_other _ _ _ (show a ≠ a + 3 by omega), u2_other _ _ _ (show a ≠ a + 2 by omega), u2_other _ _ _ (show a ≠ a + 1 by omega)]
    refine ⟨by rw [e0 0 (by omega)]; exact hc.1, by rw [e0 1 (by omega)]; exact hc.2.1, by rw [u2_same]; rfl, ?_, by rw [e0 8 (by omega)]; exact hc.2.2.2.2.1, by rw [e0 9 (by omega)]; exact hc.2.2.2.2.2.1, by rw [e0 10 (by omega)]; exact hc.2.2.2.2.2.2.1, by rw [e0 11 (by omega)]; exact hc.2.2.2.2.2.2.2⟩
    intro i hi w hw
    have hi : i < mvN V + 1 := hi
    show _ = nI (if i = mvN V then (if w < 4 then g w else 0) else mvD V i w)
    rw [u2_other _ _ _ (show a + 1 + w ≠ a by omega)]
    by_cases e : i = mvN V
    · rw [if_pos e, e]
      rcases (show w = 0 ∨ w = 1 ∨ w = 2 ∨ w = 3 ∨ w = 4 by omega) with rfl | rfl | rfl | rfl | rfl
      · rw [u2_ne _ _ (Or.inl (by omega)), u2_ne _ _ (Or.inl (by omega)), u2_ne _ _ (Or.inl (by omega)), u2_ne _ _ (Or.inl (by omega)), show a + 1 + 0 = a + 1 by omega, u2_same, if_pos (by omega)]
      · rw [u2_ne _ _ (Or.inl (by omega)), u2_ne _ _ (Or.inl (by omega)), u2_ne _ _ (Or.inl (by omega)), show a + 1 + 1 = a + 2 by omega, u2_same, if_pos (by omega)]
      · rw [u2_ne _ _ (Or.inl (by omega)), u2_ne _ _ (Or.inl (by omega)), show a + 1 + 2 = a + 3 by omega, u2_same, if_pos (by omega)]
      · rw [u2_ne _ _ (Or.inl (by omega)), show a + 1 + 3 = a + 4 by omega, u2_same, if_pos (by omega)]
      · rw [show a + 1 + 4 = a + 5 by omega, u2_same, if_neg (by omega)]
        rfl
    · rw [if_neg e, u2_ne _ _ (Or.inr e), u2_ne _ _ (Or.inr e), u2_ne _ _ (Or.inr e), u2_ne _ _ (Or.inr e), u2_ne _ _ (Or.inr e)]
      exact hc.2.2.2.1 i (by omega) w hw
  · intro b hb
    rw [u2_other _ _ _ (by omega), u2_other _ _ _ (by omega), u2_other _ _ _ (by omega), u2_other _ _ _ (by omega), u2_other _ _ _ (by omega), u2_other _ _ _ (by omega)]
theorem clear_eq (W : Wz sh z) {a : Nat} (hM : isM sh a) : ∃ c', f_X2_clear a (HH sh c z) = some (HH sh c' z) ∧ CM c' a 0 5 (stV st0) ∧ ∀ b, b ≠ a → c' b = c b := by
  refine ⟨u2 (u2 (u2 (u2 (u2 (u2 (u2 c a 0 0) a 1 5) a 2 0) a 8 0) a 9 5) a 10 5) a 11 0, ?_, ?_, ?_⟩
  · unfold f_X2_clear
    rw [HG W hM.1, bnd_s, HP (k := 0) W hM.1 rfl, bnd_s, HP (k := 1) W hM.1 rfl, bnd_s, HP (k := 2) W hM.1 rfl, bnd_s, HP (k := 8) W hM.1 rfl, bnd_s, HP (k := 9) W hM.1 rfl, bnd_s, HP (k := 10) W hM.1 rfl, bnd_s, HP (k := 11) W hM.1 rfl, bnd_s]
  · refine ⟨?_, ?_, ?_, fun i hi => absurd hi (Nat.not_lt_zero i), ?_, ?_, ?_, ?_⟩
    · simp [u2]; rfl
    · simp [u2]; rfl
    · simp [u2]; rfl
    · simp [u2]; rfl
    · simp [u2]; rfl
    · simp [u2]; rfl
    · simp [u2]; rfl
  · intro b hb
    rw [u2_other _ _ _ hb, u2_other _ _ _ hb, u2_other _ _ _ hb, u2_other _ _ _ hb, u2_other _ _ _ hb, u2_other _ _ _ hb, u2_other _ _ _ hb]
abbrev TdC (c : Nat → Nat → Int32) (s : St) : Prop := CM c 4 s.2.2.1 s.2.2.2 (stV s)
theorem takeSack_eq (W : Wz sh z) (hs : SC sh y) {s : St} (hS : WFS s) (hC : TdC c s) {g : Nat → Nat} (hg : ∀ j, j < 4 → c 3 j = nI (g j)) (hg9 : ∀ j, j < 4 → g j ≤ 99) : ∃ c', f_X4_takeSack 2 4 (HH sh c z) = some (if gdS s g then 1 else 0, HH sh c' z) ∧ (∀ b, b < 4 ∨ 10 ≤ b → c' b = c b) ∧ (gdS s g → TdC c' (adS s g)) := by
  have h2 : c 4 2 = nI s.1 := hC.2.2.1
  have s8 := hS.1
  have l0 : ldI 0 (HH sh c z) 3 (0 : Int32) = some (nI (g 0)) := by rw [show (0 : Int32) = nI 0 from rfl, HL W hs.b3 (show 0 < 4 by omega) (by omega), hg 0 (by omega)]
  have l1 : ldI 0 (HH sh c z) 3 (1 : Int32) = some (nI (g 1)) := by rw [show (1 : Int32) = nI 1 from rfl, HL W hs.b3 (show 1 < 4 by omega) (by omega), hg 1 (by omega)]
  have l2 : ldI 0 (HH sh c z) 3 (2 : Int32) = some (nI (g 2)) := by rw [show (2 : Int32) = nI 2 from rfl, HL W hs.b3 (show 2 < 4 by omega) (by omega), hg 2 (by omega)]
  have l3 : ldI 0 (HH sh c z) 3 (3 : Int32) = some (nI (g 3)) := by rw [show (3 : Int32) = nI 3 from rfl, HL W hs.b3 (show 3 < 4 by omega) (by omega), hg 3 (by omega)]
  have g0 := hg9 0 (by omega)
  have g1 := hg9 1 (by omega)
  have g2 := hg9 2 (by omega)
  unfold f_X4_takeSack
  simp only [HG W hs.b2, bnd_s, jn0_s, HI (k := 2) W hs.m4.1 rfl, HR (k := 0) W hs.b2 rfl, l0, l1, l2, l3, h2]
  by_cases h : gdS s g
  · obtain ⟨q1, ⟨q2, q3⟩, q4, q5⟩ := h
    obtain ⟨c', e, hC', f⟩ := add_eq W hs.m4 hC (show mvN (stV s) < 10 by show s.1 < 10; omega) g
    refine ⟨c', ?_, fun b hb => f b (by omega), fun _ => hC'⟩
    rw [if_neg (show ¬ (8 : Int32) ≤ nI s.1 from nI_ge (b := 8) q5 (by omega)), kind_in q1, bnd_s, if_neg i10, owner_in q4, bnd_s, if_neg i10, if_neg (show ¬ nI (g 1) < (1 : Int32) by rw [show (1 : Int32) = nI 1 from rfl, nlt (by omega) (by omega)]; omega), if_pos (show nI (g 1) ≤ (9 : Int32) from nI_le (b := 9) q3 (by omega)), e, bnd_s, if_pos ⟨q1, ⟨q2, q3⟩, q4, q5⟩]
    exact rZ_1 _
  · refine ⟨c, ?_, fun b _ => rfl, fun q => absurd q h⟩
    rw [if_neg h]
    by_cases q5 : s.1 < 8
    · rw [if_neg (show ¬ (8 : Int32) ≤ nI s.1 from nI_ge (b := 8) q5 (by omega))]
      by_cases q1 : g 0 < 5
      · rw [kind_in q1, bnd_s, if_neg i10]
        by_cases q4 : g 2 < 5
        · rw [owner_in q4, bnd_s, if_neg i10]
          by_cases q2 : 1 ≤ g 1
          · rw [if_neg (show ¬ nI (g 1) < (1 : Int32) by rw [show (1 : Int32) = nI 1 from rfl, nlt (by omega) (by omega)]; omega), if_neg (show ¬ nI (g 1) ≤ (9 : Int32) from nI_ge (a := 9) (by
              rcases Nat.lt_or_ge 9 (g 1) with r | r
              · exact r
              · exact absurd ⟨q1, ⟨q2, r⟩, q4, q5⟩ h) (by omega))]
            exact rZ_0 _
          · rw [if_pos (show nI (g 1) < (1 : Int32) by rw [show (1 : Int32) = nI 1 from rfl, nlt (by omega) (by omega)]; omega)]
            exact rZ_0 _
        · rw [owner_out (Or.inr (show (5 : Int32) ≤ nI (g 2) from nI_le (a := 5) (by omega) (by omega))), bnd_s, if_pos rfl]
          exact rZ_0 _
      · rw [kind_out (Or.inr (show (5 : Int32) ≤ nI (g 0) from nI_le (a := 5) (by omega) (by omega))), bnd_s, if_pos rfl]
        exact rZ_0 _
    · rw [if_pos (show (8 : Int32) ≤ nI s.1 from nI_le (a := 8) (by omega) (by omega))]
      exact rZ_0 _
theorem takeLaw_eq (W : Wz sh z) (hs : SC sh y) {s : St} (hC : TdC c s) {v : Nat} (hg : c 3 0 = nI v) (hv : v ≤ 99) : ∃ c', f_X4_takeLaw 2 4 (HH sh c z) = some (if v ≤ 1 then 1 else 0, HH sh c' z) ∧ (∀ b, b < 4 ∨ 10 ≤ b → c' b = c b) ∧ (v ≤ 1 → TdC c' (s.1, s.2.1, v, s.2.2.2)) := by
  have l0 : ldI 0 (HH sh c z) 3 (0 : Int32) = some (nI v) := by rw [show (0 : Int32) = nI 0 from rfl, HL W hs.b3 (show 0 < 4 by omega) (by omega), hg]
  unfold f_X4_takeLaw
  simp only [HG W hs.b2, bnd_s, jn0_s, HR (k := 0) W hs.b2 rfl, l0]
  by_cases h : v ≤ 1
  · refine ⟨u2 c 4 0 (nI v), ?_, fun b hb => u2_other _ _ _ (by omega), fun _ => ?_⟩
    · rw [if_pos h, HP (k := 0) W hs.m4.1 rfl, bnd_s]
      rcases (show v = 0 ∨ v = 1 by omega) with rfl | rfl
      · rw [if_pos (by decide)]; exact rZ_1 _
      · rw [if_neg (by decide), if_pos (by decide)]; exact rZ_1 _
    · have e0 : ∀ k, k ≠ 0 → u2 c 4 0 (nI v) 4 k = c 4 k := fun k hk => u2_ne _ _ (Or.inr hk)
      refine ⟨u2_same _ _ _ _, by rw [e0 1 (by omega)]; exact hC.2.1, by rw [e0 2 (by omega)]; exact hC.2.2.1, fun i hi w hw => by rw [u2_other _ _ _ (by omega)]; exact hC.2.2.2.1 i hi w hw, by rw [e0 8 (by omega)]; exact hC.2.2.2.2.1, by rw [e0 9 (by omega)]; exact hC.2.2.2.2.2.1, ?_, by rw [e0 11 (by omega)]; exact hC.2.2.2.2.2.2.2⟩
      rw [e0 10 (by omega), hC.2.2.2.2.2.2.1]
      show nI (if _ then 5 else 5) = nI (if _ then 5 else 5)
      rw [ite_self, ite_self]
  · refine ⟨c, ?_, fun b _ => rfl, fun q => absurd q h⟩
    rw [if_neg h, if_neg (show ¬ nI v = 0 by rw [show (0 : Int32) = nI 0 from rfl, nI_eq (by omega) (by omega)]; omega), if_neg (show ¬ nI v = 1 by rw [show (1 : Int32) = nI 1 from rfl, nI_eq (by omega) (by omega)]; omega)]
    exact rZ_0 _
theorem takePrice_eq (W : Wz sh z) (hs : SC sh y) {s : St} (hC : TdC c s) {v : Nat} (hg : c 3 0 = nI v) : ∃ c', f_X4_takePrice 2 4 (HH sh c z) = some (1, HH sh c' z) ∧ (∀ b, b < 4 ∨ 10 ≤ b → c' b = c b) ∧ TdC c' (s.1, s.2.1, s.2.2.1, v) := by
  have l0 : ldI 0 (HH sh c z) 3 (0 : Int32) = some (nI v) := by rw [show (0 : Int32) = nI 0 from rfl, HL W hs.b3 (show 0 < 4 by omega) (by omega), hg]
  unfold f_X4_takePrice
  simp only [HG W hs.b2, bnd_s, HR (k := 0) W hs.b2 rfl, l0]
  refine ⟨u2 c 4 1 (nI v), ?_, fun b hb => u2_other _ _ _ (by omega), ?_⟩
  · rw [HP (k := 1) W hs.m4.1 rfl, bnd_s]; exact rZ_1 _
  · have e0 : ∀ k, k ≠ 1 → u2 c 4 1 (nI v) 4 k = c 4 k := fun k hk => u2_ne _ _ (Or.inr hk)
    exact ⟨by rw [e0 0 (by omega)]; exact hC.1, u2_same _ _ _ _, by rw [e0 2 (by omega)]; exact hC.2.2.1, fun i hi w hw => by rw [u2_other _ _ _ (by omega)]; exact hC.2.2.2.1 i hi w hw, by rw [e0 8 (by omega)]; exact hC.2.2.2.2.1, by rw [e0 9 (by omega)]; exact hC.2.2.2.2.2.1, by rw [e0 10 (by omega)]; exact hC.2.2.2.2.2.2.1, by rw [e0 11 (by omega)]; exact hC.2.2.2.2.2.2.2⟩
theorem readItem_eq (W : Wz sh z) (hs : SC sh y) (hT : T ≤ 300) (hX : c 1 = X) {p : Nat} (hp : p < T) (h2 : c 2 1 = nI p) {s : St} (hS : WFS s) (hC : TdC c s) : ∃ x c', f_X4_readItem 2 1 (nI T) 4 (HH sh c z) = some (x, HH sh c' z) ∧ (∀ b, b < 2 ∨ 10 ≤ b → c' b = c b) ∧ ((itm X T p s = none ∧ x = 0) ∨ ∃ q s', itm X T p s = some (q, s') ∧ x = 1 ∧ c' 2 1 = nI q ∧ TdC c' s') := by
  unfold f_X4_readItem itm
  rw [HG W hs.b2, bnd_s, HI (k := 1) W hs.b2 rfl, bnd_s, h2]
  simp only [jn0_s]
  rw [if_neg (nI_ge hp (by omega)), bnd_s, HN W hs.b1 (show 1 < 5 by omega), bnd_s, if_pos (show nI p < nI 300 by rw [nlt (by omega) (by omega)]; omega), bnd_s, HL W hs.b1 (show p < 300 by omega) (by omega), bnd_s, bnd_s, HP (k := 1) W hs.b2 rfl, bnd_s, hX, nI_1]
  have X1 : u2 c 2 1 (nI (p + 1)) 1 = X := by rw [u2_other _ _ _ (by omega)]; exact hX
  have C1 : TdC (u2 c 2 1 (nI (p + 1))) s := hC.kept (fun b h1 h2 => u2_other _ _ _ (by omega))
  have fr : ∀ {c2 : Nat → Nat → Int32}, (∀ b, b ≠ 2 → b ≠ 3 → c2 b = u2 c 2 1 (nI (p + 1)) b) → ∀ b, b < 2 ∨ 10 ≤ b → c2 b = c b := fun f b hb => by rw [f b (by omega) (by omega), u2_other _ _ _ (by omega)]
  by_cases k1 : X p = 115
  · obtain ⟨x, c2, e2, f2, hcase⟩ := readNumbers_eq (w := 4) (X := X) W hs hT X1 (show p + 1 ≤ T by omega) (by omega) (u2_same _ _ _ _)
    have e2' : f_X4_readNumbers 2 1 (nI T) 4 (HH sh (u2 c 2 1 (nI (p + 1))) z) = some (x, HH sh c2 z) := e2
    rw [swt (by rw [k1]; decide), swt (by rw [k1]; decide), swh k1, e2', bnd2_s, if_pos k1]
    simp only [jn2_s, jn1_s]
    rcases hcase with ⟨n1, rfl⟩ | ⟨g, q, n1, rfl, p2, r2⟩
    · rw [if_pos rfl, n1, bnd_n]
      exact ⟨_, c2, rZ_0 _, fr f2, Or.inl ⟨rfl, rfl⟩⟩
    · have hr := rdK_ok (by omega) 4 g q n1
      obtain ⟨c3, e3, f3, t3⟩ := takeSack_eq W hs hS (C1.kept (fun b h1 h2 => f2 b (by omega) (by omega))) r2 hr.2.2
      have hfr : ∀ b, b < 2 ∨ 10 ≤ b → c3 b = c b := fun b hb => by rw [f3 b (by omega)]; exact fr f2 b hb
      rw [if_neg i10, e3, bnd2_s, n1, bnd_s]
      by_cases hg : gdS s g
      · rw [if_pos hg, if_neg i10, if_pos hg]
        exact ⟨_, c3, rZ_1 _, hfr, Or.inr ⟨_, _, rfl, rfl, by rw [f3 2 (by omega)]; exact p2, t3 hg⟩⟩
      · rw [if_neg hg, if_pos rfl, if_neg hg]
        exact ⟨_, c3, rZ_0 _, hfr, Or.inl ⟨rfl, rfl⟩⟩
  · rw [if_neg k1]
    by_cases k2 : X p = 108
    · obtain ⟨x, c2, e2, f2, hcase⟩ := readNumbers_eq (w := 1) (X := X) W hs hT X1 (show p + 1 ≤ T by omega) (by omega) (u2_same _ _ _ _)
      have e2' : f_X4_readNumbers 2 1 (nI T) 1 (HH sh (u2 c 2 1 (nI (p + 1))) z) = some (x, HH sh c2 z) := e2
      rw [swt (by rw [k2]; decide), swh k2, e2', bnd2_s, if_pos k2]
      simp only [jn2_s, jn1_s]
      rcases hcase with ⟨n1, rfl⟩ | ⟨g, q, n1, rfl, p2, r2⟩
      · rw [if_pos rfl, n1, bnd_n]
        exact ⟨_, c2, rZ_0 _, fr f2, Or.inl ⟨rfl, rfl⟩⟩
      · have hr := rdK_ok (by omega) 1 g q n1
        obtain ⟨c3, e3, f3, t3⟩ := takeLaw_eq W hs (C1.kept (fun b h1 h2 => f2 b (by omega) (by omega))) (r2 0 (by omega)) (hr.2.2 0 (by omega))
        have hfr : ∀ b, b < 2 ∨ 10 ≤ b → c3 b = c b := fun b hb => by rw [f3 b (by omega)]; exact fr f2 b hb
        rw [if_neg i10, e3, bnd2_s, n1, bnd_s]
        by_cases hg : g 0 ≤ 1
        · rw [if_pos hg, if_neg i10, if_pos hg]
          exact ⟨_, c3, rZ_1 _, hfr, Or.inr ⟨_, _, rfl, rfl, by rw [f3 2 (by omega)]; exact p2, t3 hg⟩⟩
        · rw [if_neg hg, if_pos rfl, if_neg hg]
          exact ⟨_, c3, rZ_0 _, hfr, Or.inl ⟨rfl, rfl⟩⟩
    · rw [if_neg k2]
      by_cases k3 : X p = 99
      · obtain ⟨x, c2, e2, f2, hcase⟩ := readNumbers_eq (w := 1) (X := X) W hs hT X1 (show p + 1 ≤ T by omega) (by omega) (u2_same _ _ _ _)
        have e2' : f_X4_readNumbers 2 1 (nI T) 1 (HH sh (u2 c 2 1 (nI (p + 1))) z) = some (x, HH sh c2 z) := e2
        rw [swh k3, e2', bnd2_s, if_pos k3]
        simp only [jn2_s, jn1_s]
        rcases hcase with ⟨n1, rfl⟩ | ⟨g, q, n1, rfl, p2, r2⟩
        · rw [if_pos rfl, n1, bnd_n]
          exact ⟨_, c2, rZ_0 _, fr f2, Or.inl ⟨rfl, rfl⟩⟩
        · obtain ⟨c3, e3, f3, t3⟩ := takePrice_eq W hs (C1.kept (fun b h1 h2 => f2 b (by omega) (by omega))) (r2 0 (by omega))
          have hfr : ∀ b, b < 2 ∨ 10 ≤ b → c3 b = c b := fun b hb => by rw [f3 b (by omega)]; exact fr f2 b hb
          rw [if_neg i10, e3, bnd2_s, n1, bnd_s, if_neg i10]
          exact ⟨_, c3, rZ_1 _, hfr, Or.inr ⟨_, _, rfl, rfl, by rw [f3 2 (by omega)]; exact p2, t3⟩⟩
      · rw [if_neg k3, swt k3, swt k2, swt k1, swn]
        exact ⟨_, _, rZ_0 _, fun b hb => u2_other _ _ _ (by omega), Or.inl ⟨rfl, rfl⟩⟩
theorem read_eq (W : Wz sh z) (hs : SC sh y) (hT : T ≤ 300) (hX : c 1 = X) : ∃ c', f_X4_read 2 1 (nI T) 4 (HH sh c z) = some ((rnn X T 301 0 st0).1, HH sh c' z) ∧ (∀ b, b < 2 ∨ 10 ≤ b → c' b = c b) ∧ ((rnn X T 301 0 st0).1 = -4 → TdC c' (rnn X T 301 0 st0).2 ∧ WFS (rnn X T 301 0 st0).2) := by
  obtain ⟨c1, e1, t1, f1⟩ := clear_eq (c := c) W hs.m4
  unfold f_X4_read
  rw [HG W hs.b2, bnd_s, e1, bnd_s, HP (k := 1) W hs.b2 rfl, bnd_s]
  refine wl2_fuel (fun i x h => x = nI i ∧ ∃ p s c', h = HH sh c' z ∧ (∀ b, b < 2 ∨ 10 ≤ b → c' b = c b) ∧ c' 2 1 = nI p ∧ TdC c' s ∧ WFS s ∧ i ≤ p ∧ p ≤ T ∧ rnn X T (301 - i) p s = rnn X T 301 0 st0) 300 (by omega) (fun t => ∃ c', t = some ((rnn X T 301 0 st0).1, HH sh c' z) ∧ (∀ b, b < 2 ∨ 10 ≤ b → c' b = c b) ∧ ((rnn X T 301 0 st0).1 = -4 → TdC c' (rnn X T 301 0 st0).2 ∧ WFS (rnn X T 301 0 st0).2)) ?_ _ _ ⟨rfl, 0, st0, _, rfl, fun b hb => by rw [u2_other _ _ _ (by omega), f1 b (by omega)], u2_same _ _ _ _, t1.kept (fun b h1 h2 => u2_other _ _ _ (by omega)), WFS0, Nat.le_refl _, Nat.zero_le _, rfl⟩
  intro rec i x h hi hx
  obtain ⟨rfl, p, s, c2, rfl, f2, p2, t2, w2, hip, hpT, hrn⟩ := hx
  simp only [jn0_s]
  rcases Nat.lt_or_ge p T with hpl | hpl
  · obtain ⟨x, c3, e3, f3, hcase⟩ := readItem_eq (X := X) W hs hT (by rw [f2 1 (by omega)]; exact hX) hpl p2 w2 t2
    rw [if_neg (show ¬ (300 : Int32) ≤ nI i from nI_ge (b := 300) (by omega) (by omega)), HI (k := 1) W hs.b2 rfl, bnd_s, p2, if_neg (nI_ge hpl (by omega)), bnd_s, e3, bnd2_s]
    rw [show 301 - i = (300 - i) + 1 by omega] at hrn
    rcases hcase with ⟨n1, rfl⟩ | ⟨q, s', n1, rfl, p3, t3⟩
    · refine Or.inr ?_
      rw [rnn_stop hpl n1] at hrn
      rw [if_pos rfl, ← hrn]
      refine ⟨c3, rfl, fun b hb => by rw [f3 b hb, f2 b hb], fun q => ?_⟩
      have q : nI p = -4 := q
      rw [i_eq, nI_T _ (by omega), show (-4 : Int32).toInt = -4 from rfl] at q
      omega
    · refine Or.inl ⟨by omega, ?_⟩
      have hk := itm_ok hpl w2 n1
      rw [rnn_go hpl n1] at hrn
      rw [if_neg i10, nI_1]
      exact ⟨_, _, ⟨rfl, q, s', c3, rfl, fun b hb => by rw [f3 b hb, f2 b hb], p3, t3, hk.2.2, by omega, hk.2.1, by rw [show 301 - (i + 1) = 300 - i by omega]; exact hrn⟩, rfl⟩
  · refine Or.inr ?_
    rw [rnn_end hpl] at hrn
    rw [← hrn]
    have key : (if (300 : Int32) ≤ nI i then some ((-4 : Int32), HH sh c2 z) else bnd (gI (HH sh c2 z) 2 4 1) fun x8 => if nI T ≤ x8 then some ((-4 : Int32), HH sh c2 z) else bnd (gI (HH sh c2 z) 2 4 1) fun x10 => bnd2 (f_X4_readItem 2 1 (nI T) 4 (HH sh c2 z)) fun x11 h12 => if x11 = 0 then some (x10, h12) else rec (nI i + 1) h12) = some (-4, HH sh c2 z) := by
      by_cases g : (300 : Int32) ≤ nI i
      · rw [if_pos g]
      · rw [if_neg g, HI (k := 1) W hs.b2 rfl, bnd_s, p2, if_pos (nI_le hpl (by omega))]
    exact ⟨c2, key, f2, fun _ => ⟨t2, w2⟩⟩
end PD
