/-! ===== fault, lay ===== -/
section LY
variable {n : Nat} {A : AS} {y : Dy} {sh : Nat → Shp} {c c' : Nat → Nat → Int32} {z : Nat × Nat} {X : Nat → Int32} {T : Nat}
theorem isItem_head (h : Hp) : f_X7_isItem 99 h = (bnd (gO h 99 7) fun _ => bnd (gR h 99 7 1) fun a1 => bnd (gI h 99 7 2) fun x2 => bnd (ldI 1 h a1 x2) fun x3 => bnd (gI h 99 7 2) fun x4 => bnd (pF h 99 7 2 (.int (x4 + (1 : Int32)))) fun h5 => jn1 (fun (w6 : Int32) => jn1 (fun (w8 : Int32) => wl3 (itB w6 (f_X7_isGood 99 x3)) fuel w8 (0 : Int32) h5) fun k9 => if w6 ≤ 0 then (k9 (0 : Int32)) else (k9 (1 : Int32))) fun k7 => if x3 = (115 : Int32) then (k7 (4 : Int32)) else (jn0 (k7 (1 : Int32)) fun k71 => if x3 = (108 : Int32) then k71 else (if x3 = (99 : Int32) then k71 else (k7 (0 : Int32))))) := rfl
theorem isItem_s (W : Wz sh z) (hS : SMo sh) (hT : T ≤ 300) (hX : c 100 = X) {p w : Nat} (hp : p < T) (h2 : c 99 2 = nI p) (hl : (X p = 115 ∧ w = 4) ∨ (X p = 108 ∧ w = 1) ∨ (X p = 99 ∧ w = 1)) : f_X7_isItem 99 (HH sh c z) = wl3 (itB (nI w) (f_X7_isGood 99 (X p))) fuel 1 0 (HH sh (u2 c 99 2 (nI (p + 1))) z) := by
  rw [isItem_head, HG W hS.1, bnd_s, HR (k := 1) W hS.1 rfl, bnd_s, HI (k := 2) W hS.1 rfl, bnd_s, h2, HL W hS.t98 (show p < 300 by omega) (by omega), bnd_s, bnd_s, HP (k := 2) W hS.1 rfl, bnd_s, hX, nI_1]
  simp only [jn1_s, jn0_s]
  have e4 : ¬ (4 : Int32) ≤ 0 := by decide
  have e1 : ¬ (1 : Int32) ≤ 0 := by decide
  rcases hl with ⟨e, rfl⟩ | ⟨e, rfl⟩ | ⟨e, rfl⟩
  · rw [if_pos e, if_neg e4, show (4 : Int32) = nI 4 from rfl]
  · rw [if_neg (by rw [e]; decide), if_pos e, if_neg e1, show nI 1 = (1 : Int32) from rfl]
  · rw [if_neg (by rw [e]; decide), if_neg (by rw [e]; decide), if_pos e, if_neg e1, show nI 1 = (1 : Int32) from rfl]
theorem isItem_o (W : Wz sh z) (hS : SMo sh) (hT : T ≤ 300) (hX : c 100 = X) {p : Nat} (hp : p < T) (h2 : c 99 2 = nI p) (h1 : X p ≠ 115) (h3 : X p ≠ 108) (h4 : X p ≠ 99) : f_X7_isItem 99 (HH sh c z) = some (0, HH sh (u2 (u2 c 99 2 (nI (p + 1))) 99 2 (nI (p + 2))) z) := by
  unfold f_X7_isItem
  rw [HG W hS.1, bnd_s, HR (k := 1) W hS.1 rfl, bnd_s, HI (k := 2) W hS.1 rfl, bnd_s, h2, HL W hS.t98 (show p < 300 by omega) (by omega), bnd_s, bnd_s, HP (k := 2) W hS.1 rfl, bnd_s, hX, nI_1]
  simp only [jn1_s, jn0_s, jn2_s, if_neg h1, if_neg h3, if_neg h4]
  rw [if_pos (by decide)]
  refine wl3_fuel (fun k x1 x2 h => x1 = 0 ∧ x2 = 0 ∧ h = HH sh (u2 c 99 2 (nI (p + 1))) z) 0 (by omega) (fun t => t = some (0, HH sh (u2 (u2 c 99 2 (nI (p + 1))) 99 2 (nI (p + 2))) z)) ?_ _ _ _ ⟨rfl, rfl, rfl⟩
  intro rec k x1 x2 h hk hx
  obtain ⟨rfl, rfl, rfl⟩ := hx
  refine Or.inr ?_
  simp only [if_pos (show (0 : Int32) ≤ 0 by decide), if_true, HI (k := 2) W hS.1 rfl, bnd_s, u2_same, HP (k := 2) W hS.1 rfl]
  rw [show nI (p + 1) + 1 = nI (p + 2) from nI_1 _]
  exact rZ_0 _
theorem isItem_eq (W : Wz sh z) (hS : SMo sh) (hT : T ≤ 300) (hX : c 100 = X) (h0 : c 99 0 = nI T) {p : Nat} (hp : p < T) (h2 : c 99 2 = nI p) {s : St} (hs : WFS s) (hM : TdM c s) : ∃ x c', f_X7_isItem 99 (HH sh c z) = some (x, HH sh c' z) ∧ FrT c c' ∧ ((itm X T p s = none ∧ x = 0) ∨ ∃ q s', itm X T p s = some (q, s') ∧ x = 1 ∧ c' 99 2 = nI q ∧ TdM c' s') := by
  have X1 : u2 c 99 2 (nI (p + 1)) 100 = X := by rw [u2_other _ _ _ (by omega)]; exact hX
  have T1 : u2 c 99 2 (nI (p + 1)) 99 0 = nI T := by rw [u2_ne _ _ (Or.inr (by omega))]; exact h0
  have M1 : TdM (u2 c 99 2 (nI (p + 1))) s := hM.frI (FrI.at2 _ _)
  have F1 : FrI c (u2 c 99 2 (nI (p + 1))) := FrI.at2 _ _
  unfold itm
  by_cases k1 : X p = 115
  · rw [if_pos k1, isItem_s (w := 4) W hS hT hX hp h2 (Or.inl ⟨k1, rfl⟩), k1]
    obtain ⟨c2, f2, hcase⟩ := itemLoop (w := 4) (p0 := p + 1) W hS hT X1 T1 (by omega) (u2_same _ _ _ _) (by omega) (by omega) (f_X7_isGood 99 115)
    rcases hcase with ⟨n1, e⟩ | ⟨g, q, n1, p2, r2, e⟩
    · rw [e, n1, bnd_n]
      exact ⟨_, c2, rfl, (F1.trans f2).frT, Or.inl ⟨rfl, rfl⟩⟩
    · have hr := rdK_ok (by omega) 4 g q n1
      obtain ⟨c3, e3, f3, t3⟩ := isGood_s W hS hs (M1.frI f2) r2 hr.2.2
      have hfr : FrT c c3 := (F1.trans f2).frT.trans ⟨fun b _ _ h3 h4 _ => f3 b h3 h4, fun k _ => by rw [f3 99 (by omega) (by omega)], fun k _ => by rw [f3 101 (by omega) (by omega)]⟩
      rw [e, e3, bnd2_s, n1, bnd_s]
      by_cases hg : gdS s g
      · rw [if_pos hg, if_neg i10, if_pos hg]
        exact ⟨_, c3, rZ_1 _, hfr, Or.inr ⟨_, _, rfl, rfl, by rw [f3 99 (by omega) (by omega)]; exact p2, t3 hg⟩⟩
      · rw [if_neg hg, if_pos rfl, if_neg hg]
        exact ⟨_, c3, rZ_0 _, hfr, Or.inl ⟨rfl, rfl⟩⟩
  · rw [if_neg k1]
    by_cases k2 : X p = 108
    · rw [if_pos k2, isItem_s (w := 1) W hS hT hX hp h2 (Or.inr (Or.inl ⟨k2, rfl⟩)), k2]
      obtain ⟨c2, f2, hcase⟩ := itemLoop (w := 1) (p0 := p + 1) W hS hT X1 T1 (by omega) (u2_same _ _ _ _) (by omega) (by omega) (f_X7_isGood 99 108)
      rcases hcase with ⟨n1, e⟩ | ⟨g, q, n1, p2, r2, e⟩
      · rw [e, n1, bnd_n]
        exact ⟨_, c2, rfl, (F1.trans f2).frT, Or.inl ⟨rfl, rfl⟩⟩
      · have hr := rdK_ok (by omega) 1 g q n1
        obtain ⟨c3, e3, f3, k3, t3⟩ := isGood_l W hS (M1.frI f2) (r2 0 (by omega)) (hr.2.2 0 (by omega))
        have hfr : FrT c c3 := (F1.trans f2).frT.trans ⟨fun b _ h3 _ _ _ => f3 b h3, fun k _ => by rw [f3 99 (by omega)], k3⟩
        rw [e, e3, bnd2_s, n1, bnd_s]
        by_cases hg : g 0 ≤ 1
        · rw [if_pos hg, if_neg i10, if_pos hg]
          exact ⟨_, c3, rZ_1 _, hfr, Or.inr ⟨_, _, rfl, rfl, by rw [f3 99 (by omega)]; exact p2, t3⟩⟩
        · rw [if_neg hg, if_pos rfl, if_neg hg]
          exact ⟨_, c3, rZ_0 _, hfr, Or.inl ⟨rfl, rfl⟩⟩
    · rw [if_neg k2]
      by_cases k3 : X p = 99
      · rw [if_pos k3, isItem_s (w := 1) W hS hT hX hp h2 (Or.inr (Or.inr ⟨k3, rfl⟩)), k3]
        obtain ⟨c2, f2, hcase⟩ := itemLoop (w := 1) (p0 := p + 1) W hS hT X1 T1 (by omega) (u2_same _ _ _ _) (by omega) (by omega) (f_X7_isGood 99 99)
        rcases hcase with ⟨n1, e⟩ | ⟨g, q, n1, p2, r2, e⟩
        · rw [e, n1, bnd_n]
          exact ⟨_, c2, rfl, (F1.trans f2).frT, Or.inl ⟨rfl, rfl⟩⟩
        · obtain ⟨c3, e3, f3, k3', t3⟩ := isGood_c W hS (M1.frI f2) (r2 0 (by omega))
          have hfr : FrT c c3 := (F1.trans f2).frT.trans ⟨fun b _ h3 _ _ _ => f3 b h3, fun k _ => by rw [f3 99 (by omega)], k3'⟩
          rw [e, e3, bnd2_s, n1, bnd_s, if_neg i10]
          exact ⟨_, c3, rZ_1 _, hfr, Or.inr ⟨_, _, rfl, rfl, by rw [f3 99 (by omega)]; exact p2, t3⟩⟩
      · rw [if_neg k3, isItem_o W hS hT hX hp h2 k1 k2 k3]
        exact ⟨_, _, rfl, (F1.trans (FrI.at2 _ _)).frT, Or.inl ⟨rfl, rfl⟩⟩
theorem begins_eq (W : Wz sh z) (hS : SMo sh) : ∃ c', f_X7_begins 99 (HH sh c z) = some (HH sh c' z) ∧ TdM c' st0 ∧ (∀ b, b ≠ 101 → b ≠ 102 → b ≠ 103 → c' b = c b) ∧ (∀ k, k < 2 → c' 101 k = c 101 k) ∧ ∀ k, k < 32 → c' 103 k = 0 := by
  have s1 : ∀ (cc : Nat → Nat → Int32) x, stI 0 (HH sh cc z) 102 (1 : Int32) x = some (HH sh (u2 cc 102 1 x) z) := fun cc x => by rw [show (1 : Int32) = nI 1 from rfl, HS W hS.t100 (show 1 < 2 by omega) (by omega), nrw0]
  have s2 : ∀ (cc : Nat → Nat → Int32) x, stI 0 (HH sh cc z) 101 (2 : Int32) x = some (HH sh (u2 cc 101 2 x) z) := fun cc x => by rw [show (2 : Int32) = nI 2 from rfl, HS W hS.t99 (show 2 < 4 by omega) (by omega), nrw0]
  have s3 : ∀ (cc : Nat → Nat → Int32) x, stI 0 (HH sh cc z) 101 (3 : Int32) x = some (HH sh (u2 cc 101 3 x) z) := fun cc x => by rw [show (3 : Int32) = nI 3 from rfl, HS W hS.t99 (show 3 < 4 by omega) (by omega), nrw0]
  unfold f_X7_begins
  rw [HG W hS.1, bnd_s, HR (k := 4) W hS.1 rfl, bnd_s, s1, bnd_s, HR (k := 3) W hS.1 rfl, bnd_s, s2, bnd_s, HR (k := 3) W hS.1 rfl, bnd_s, s3, bnd_s]
  refine wl2_fuel (fun i x h => x = nI i ∧ ∃ cc, h = HH sh cc z ∧ (∀ b, b ≠ 103 → cc b = u2 (u2 (u2 c 102 1 0) 101 2 0) 101 3 5 b) ∧ ∀ k, k < i → cc 103 k = 0) 32 (by omega) (fun t => ∃ c', t = some (HH sh c' z) ∧ TdM c' st0 ∧ (∀ b, b ≠ 101 → b ≠ 102 → b ≠ 103 → c' b = c b) ∧ (∀ k, k < 2 → c' 101 k = c 101 k) ∧ ∀ k, k < 32 → c' 103 k = 0) ?_ _ _ ⟨rfl, _, rfl, fun _ _ => rfl, fun k hk => absurd hk (by omega)⟩
  intro rec i x h hi hx
  obtain ⟨rfl, cc, rfl, f1, r1⟩ := hx
  rcases Nat.lt_or_ge i 32 with h5 | h5
  · refine Or.inl ⟨h5, ?_⟩
    rw [if_neg (show ¬ (32 : Int32) ≤ nI i from nI_ge (b := 32) h5 (by omega)), HR (k := 5) W hS.1 rfl, bnd_s, HS W hS.t101 h5 (by omega), bnd_s, nrw0, nI_1]
    refine ⟨_, _, ⟨rfl, _, rfl, fun b hb => by rw [u2_other _ _ _ hb]; exact f1 b hb, fun k hk => ?_⟩, rfl⟩
    by_cases e : k = i
    · rw [e, u2_same]
    · rw [u2_ne _ _ (Or.inr e)]; exact r1 k (by omega)
  · refine Or.inr ?_
    rw [if_pos (show (32 : Int32) ≤ nI i from nI_le (a := 32) h5 (by omega))]
    refine ⟨cc, rfl, ⟨?_, ?_, ?_, fun i hi => absurd hi (Nat.not_lt_zero i)⟩, fun b h1 h2 h3 => ?_, fun k hk => ?_, fun k hk => r1 k (by omega)⟩
    · rw [f1 102 (by omega)]; simp [u2]; rfl
    · rw [f1 101 (by omega)]; simp [u2]; rfl
    · rw [f1 101 (by omega)]; simp [u2]; rfl
    · rw [f1 b h3, u2_other _ _ _ h1, u2_other _ _ _ h1, u2_other _ _ _ h2]
    · rw [f1 101 (by omega), u2_ne _ _ (Or.inr (by omega)), u2_ne _ _ (Or.inr (by omega)), u2_other _ _ _ (by omega)]
theorem faultM_eq (W : Wz sh z) (hS : SMo sh) (hT : T ≤ 300) (hX : c 100 = X) (h0 : c 99 0 = nI T) : ∃ c', f_X7_fault 99 (HH sh c z) = some ((rnn X T 301 0 st0).1, HH sh c' z) ∧ FrT c c' ∧ ((rnn X T 301 0 st0).1 = -4 → TdM c' (rnn X T 301 0 st0).2) := by
  unfold f_X7_fault
  rw [HG W hS.1, bnd_s, HP (k := 2) W hS.1 rfl, bnd_s]
  obtain ⟨c1, e1, t1, f1, k1, _⟩ := begins_eq (c := u2 c 99 2 0) W hS
  rw [e1, bnd_s]
  have F0 : FrT c c1 := ⟨fun b h1 h2 h3 h4 _ => by rw [f1 b h2 h3 h4, u2_other _ _ _ h1], fun k hk => by rw [f1 99 (by omega) (by omega) (by omega), u2_ne _ _ (Or.inr hk)], fun k hk => by rw [k1 k hk, u2_other _ _ _ (by omega)]⟩
  refine wl1_fuel (fun i h => ∃ p s c', h = HH sh c' z ∧ FrT c c' ∧ c' 99 2 = nI p ∧ TdM c' s ∧ WFS s ∧ i ≤ p ∧ p ≤ T ∧ rnn X T (301 - i) p s = rnn X T 301 0 st0) 300 (by omega) (fun t => ∃ c', t = some ((rnn X T 301 0 st0).1, HH sh c' z) ∧ FrT c c' ∧ ((rnn X T 301 0 st0).1 = -4 → TdM c' (rnn X T 301 0 st0).2)) ?_ _ ⟨0, st0, c1, rfl, F0, by rw [f1 99 (by omega) (by omega) (by omega), u2_same]; rfl, t1, WFS0, Nat.le_refl _, Nat.zero_le _, rfl⟩
  intro rec i h hi hx
  obtain ⟨p, s, c2, rfl, f2, p2, t2, w2, hip, hpT, hrn⟩ := hx
  rw [HI (k := 2) W hS.1 rfl, bnd_s, HI (k := 0) W hS.1 rfl, bnd_s, p2, f2.2.1 0 (by omega), h0]
  rcases Nat.lt_or_ge p T with hpl | hpl
  · obtain ⟨x, c3, e3, f3, hcase⟩ := isItem_eq (X := X) (T := T) W hS hT (by rw [f2.1 100 (by omega) (by omega) (by omega) (by omega) (by omega)]; exact hX) (by rw [f2.2.1 0 (by omega)]; exact h0) hpl p2 w2 t2
    rw [if_neg (nI_ge hpl (by omega)), bnd_s, e3, bnd2_s]
    rw [show 301 - i = (300 - i) + 1 by omega] at hrn
    rcases hcase with ⟨n1, rfl⟩ | ⟨q, s', n1, rfl, p3, t3⟩
    · refine Or.inr ?_
      rw [rnn_stop hpl n1] at hrn
      rw [if_pos rfl, ← hrn]
      refine ⟨c3, rfl, f2.trans f3, fun q => ?_⟩
      have q : nI p = -4 := q
      rw [i_eq, nI_T _ (by omega), show (-4 : Int32).toInt = -4 from rfl] at q
      omega
    · refine Or.inl ⟨by omega, ?_⟩
      have hk := itm_ok hpl w2 n1
      rw [rnn_go hpl n1] at hrn
      rw [if_neg i10]
      exact ⟨_, ⟨q, s', c3, rfl, f2.trans f3, p3, t3, hk.2.2, by omega, hk.2.1, by rw [show 301 - (i + 1) = 300 - i by omega]; exact hrn⟩, rfl⟩
  · refine Or.inr ?_
    rw [rnn_end hpl] at hrn
    rw [← hrn, if_pos (nI_le hpl (by omega))]
    exact ⟨c2, rfl, f2, fun _ => t2⟩
end LY
