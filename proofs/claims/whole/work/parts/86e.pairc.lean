/-! ===== pairs of owners: the class ===== -/
section PQ
variable {n : Nat} {A : AS} {y : Dy} {sh : Nat → Shp} {c c' : Nat → Nat → Int32} {z : Nat × Nat} {b : Nat → Nat}
theorem longest_eqF (hA : WFA A) (hn : n ≤ 10000) (J : Jn n A y sh c z) (hz : sum5 b 5 < 12) (hb : ∀ k, k < 5 → c 80 k = nI (b k)) : ∃ y' sh' c' z', f_X0_longest 79 10 (HH sh c z) = some (nI (lgN A b), HH sh' c' z') ∧ Jn n A y' sh' c' z' ∧ c' 80 = c 80 ∧ ∀ a, 84 ≤ a → a < 99 → c' a = c a := by
  obtain ⟨y', sh', c', z', e, J', kp, h80, h81, h79, hT, hlen, f⟩ := fill_eqF (b := b) hA hn J false hz hb
  refine ⟨y', sh', c', z', ?_, J', h80, f⟩
  have e' : f_X0_fillAnswers 79 10 0 (HH sh c z) = _ := e
  unfold f_X0_longest
  rw [HG J.1 J.2.1.a79, bnd_s, e', bnd2_s]
/-- the numbers of kinds of what two owners have -/
def bO (V : MV) (p q : Nat) : Nat → Nat := kc (gK (mvD V)) (wO (mvD V) p q) (mvN V)
theorem wO_comm (D : Nat → Nat → Nat) (p q : Nat) : wO D p q = wO D q p := by
  funext i
  unfold wO
  by_cases h : D i 4 = 0 ∧ (D i 2 = p ∨ D i 2 = q)
  · rw [if_pos h, if_pos (by omega)]
  · rw [if_neg h, if_neg (by omega)]
theorem bO_comm (V : MV) (p q : Nat) : bO V p q = bO V q p := by unfold bO; rw [wO_comm]
theorem bO_sum {V : MV} (hV : WFV V) (p q : Nat) : sum5 (bO V p q) 5 = wSum (wO (mvD V) p q) (mvN V) := sum5_kc (mvN V) (fun i hi => (hV.2.1 i hi).1)
theorem bO_lt {V : MV} (hV : WFV V) (p q : Nat) : sum5 (bO V p q) 5 < 12 := by
  have h1 := bO_sum hV p q
  have h2 := wSum_le (w := wO (mvD V) p q) (wO_le _ _ _) (mvN V)
  have h3 := hV.1
  omega
theorem wO_sum (D : Nat → Nat → Nat) {p q : Nat} (h : p ≠ q) : ∀ m, wSum (wO D p q) m = wSum (wH D p) m + wSum (wH D q) m := by
  intro m
  induction m with
  | zero => rfl
  | succ m ih =>
    simp only [wSum]
    have e : wO D p q m = wH D p m + wH D q m := by
      unfold wO wH
      by_cases h0 : D m 4 = 0
      · by_cases h1 : D m 2 = p
        · rw [if_pos ⟨h0, Or.inl h1⟩, if_pos ⟨h0, h1⟩, if_neg (by omega)]
        · by_cases h2 : D m 2 = q
          · rw [if_pos ⟨h0, Or.inr h2⟩, if_neg (by omega), if_pos ⟨h0, h2⟩]
          · rw [if_neg (by omega), if_neg (by omega), if_neg (by omega)]
      · rw [if_neg (by omega), if_neg (by omega), if_neg (by omega)]
    omega
def pB (A : AS) (p q : Nat) : Bool := decide (0 < wSum (wH (mvD (asV A)) p) (mvN (asV A)) ∧ 0 < wSum (wH (mvD (asV A)) q) (mvN (asV A)) ∧ lgN A (bO (asV A) p q) = sum5 (bO (asV A) p q) 5)
theorem pB_comm (A : AS) (p q : Nat) : pB A p q = pB A q p := by
  unfold pB
  rw [bO_comm (asV A) p q, decide_eq_decide]
  constructor
  · rintro ⟨h1, h2, h3⟩; exact ⟨h2, h1, h3⟩
  · rintro ⟨h1, h2, h3⟩; exact ⟨h2, h1, h3⟩
def pQ (A : AS) : Nat → Nat → Bool := pOf (pB A 0 1) (pB A 0 2) (pB A 0 3) (pB A 0 4) (pB A 1 2) (pB A 1 3) (pB A 1 4) (pB A 2 3) (pB A 2 4) (pB A 3 4)
theorem pQ_lt (A : AS) {i j : Nat} (h : i < j) (hj : j < 5) : pQ A i j = pB A i j := by
  rcases (show i = 0 ∨ i = 1 ∨ i = 2 ∨ i = 3 by omega) with rfl | rfl | rfl | rfl
  · rcases (show j = 1 ∨ j = 2 ∨ j = 3 ∨ j = 4 by omega) with rfl | rfl | rfl | rfl <;> rfl
  · rcases (show j = 2 ∨ j = 3 ∨ j = 4 by omega) with rfl | rfl | rfl <;> rfl
  · rcases (show j = 3 ∨ j = 4 by omega) with rfl | rfl <;> rfl
  · rcases (show j = 4 by omega) with rfl; rfl
theorem pQ_gt (A : AS) {i j : Nat} (h : j < i) (hi : i < 5) : pQ A i j = pB A i j := by
  rw [pB_comm]
  rcases (show j = 0 ∨ j = 1 ∨ j = 2 ∨ j = 3 by omega) with rfl | rfl | rfl | rfl
  · rcases (show i = 1 ∨ i = 2 ∨ i = 3 ∨ i = 4 by omega) with rfl | rfl | rfl | rfl <;> rfl
  · rcases (show i = 2 ∨ i = 3 ∨ i = 4 by omega) with rfl | rfl | rfl <;> rfl
  · rcases (show i = 3 ∨ i = 4 by omega) with rfl | rfl <;> rfl
  · rcases (show i = 4 by omega) with rfl; rfl
theorem pQ_self (A : AS) {i : Nat} (hi : i < 5) : pQ A i i = false := by
  rcases (show i = 0 ∨ i = 1 ∨ i = 2 ∨ i = 3 ∨ i = 4 by omega) with rfl | rfl | rfl | rfl | rfl <;> rfl
theorem isPairC (hA : WFA A) (hn : n ≤ 10000) (J : Jn n A y sh c z) {p q : Nat} (hp : p < 5) (hq : q < 5) : ∃ y' sh' c' z', f_X3_isPair 10 79 (nI p) (nI q) (HH sh c z) = some (if pB A p q = true then 1 else 0, HH sh' c' z') ∧ Jn n A y' sh' c' z' ∧ ∀ a, 84 ≤ a → a < 99 → c' a = c a := by
  have hV := hA.2.2.2.1
  have hcm := J.2.2.2.1.2.2.2.2.2.2.1
  unfold f_X3_isPair
  rw [waitedFor_eq J.1 J.2.1.m10 hcm hV hp, bnd_s]
  simp only [jn0_s, jn1_s]
  by_cases h1 : 0 < wSum (wH (mvD (asV A)) p) (mvN (asV A))
  · rw [if_pos h1, if_neg i10, waitedFor_eq J.1 J.2.1.m10 hcm hV hq, bnd_s]
    by_cases h2 : 0 < wSum (wH (mvD (asV A)) q) (mvN (asV A))
    · obtain ⟨c2, e2, f2, b2⟩ := takeOwners_eq J.1 J.2.1 hcm hV hp hq
      have J2 : Jn n A y sh c2 z := J.cc hA (Kp.of (fun a r => f2 a (by omega)))
      obtain ⟨y3, sh3, c3, z3, e3, J3, h80, f3⟩ := longest_eqF (b := bO (asV A) p q) hA hn J2 (bO_lt hV p q) b2
      have ht := total_eq (c := c3) (z := z3) (b := bO (asV A) p q) J3.1 J3.2.1 (fun k hk => by rw [h80]; exact b2 k hk)
      have hlt := lgN_lt (A := A) (bO_lt hV p q)
      have hs := bO_lt hV p q
      rw [if_pos h2, if_neg i10, e2, bnd_s, e3, bnd2_s, ht, bnd_s]
      refine ⟨y3, sh3, c3, z3, ?_, J3, fun a g1 g2 => by rw [f3 a g1 g2, f2 a (by omega)]⟩
      by_cases h3 : lgN A (bO (asV A) p q) = sum5 (bO (asV A) p q) 5
      · rw [if_pos (show nI (lgN A (bO (asV A) p q)) = nI (sum5 (bO (asV A) p q) 5) by rw [h3]), rZ_1, if_pos (show pB A p q = true from decide_eq_true ⟨h1, h2, h3⟩)]
      · rw [if_neg (show ¬ nI (lgN A (bO (asV A) p q)) = nI (sum5 (bO (asV A) p q) 5) by rw [nI_eq (by omega) (by omega)]; exact h3), rZ_0, if_neg (show ¬ pB A p q = true from fun r => h3 (of_decide_eq_true r).2.2)]
    · rw [if_neg h2, if_pos rfl, rZ_0, if_neg (show ¬ pB A p q = true from fun r => h2 (of_decide_eq_true r).2.1)]
      exact ⟨y, sh, c, z, rfl, J, fun _ _ _ => rfl⟩
  · rw [if_neg h1, if_pos rfl, rZ_0, if_neg (show ¬ pB A p q = true from fun r => h1 (of_decide_eq_true r).1)]
    exact ⟨y, sh, c, z, rfl, J, fun _ _ _ => rfl⟩
/-- with whom, as the class writes it -/
def enc (v : Nat) : Int32 := if v = 5 then -4 else nI v
theorem enc_5 : enc 5 = -4 := rfl
theorem enc_ne {v : Nat} (h : v < 5) : enc v = nI v := if_neg (by omega)
theorem enc_no {v : Nat} (h : v ≤ 5) (h2 : v ≠ 5) : ¬ enc v = -4 := by
  rw [enc_ne (by omega), i_eq, nI_T _ (by omega), show (-4 : Int32).toInt = -4 from rfl]
  omega
def RPs (c : Nat → Nat → Int32) (pr : Nat → Nat) (st : PS) : Prop := (∀ j, j < 5 → c 95 j = enc (pr j)) ∧ c 93 3 = nI st.2 - 1 ∧ (0 < st.2 → ∀ j, j < 5 → c 96 j = enc (st.1 j))
def Fr3 (c c' : Nat → Nat → Int32) : Prop := ∀ b, b ≠ 93 → b ≠ 95 → b ≠ 96 → c' b = c b
theorem RPs.kp {pr : Nat → Nat} {st : PS} (h : RPs c pr st) (h1 : ∀ j, j < 5 → c' 95 j = c 95 j) (h2 : c' 93 3 = c 93 3) (h3 : c' 96 = c 96) : RPs c' pr st := ⟨fun j hj => by rw [h1 j hj]; exact h.1 j hj, by rw [h2]; exact h.2.1, by rw [h3]; exact h.2.2⟩
def gz (P : Nat → Nat → Bool) (f o k : Nat) (pr : Nat → Nat) (t : Nat) (st : PS) : PS := if pr t = 5 ∧ P o t = true then chz P f (o + 1) (k + 1) (pUp (pUp pr o t) t o) st else st
theorem chz_step (P : Nat → Nat → Bool) (f o k : Nat) (pr : Nat → Nat) (st : PS) : chz P (f + 1) o k pr st = if o < 5 then chz P f (o + 1) k pr (if pr o = 5 then itP (gz P f o k pr) (o + 1) (4 - o) st else st) else if k < st.2 then st else (pr, k + 1) := rfl
set_option maxHeartbeats 1000000 in
theorem choose_eq {P : Nat → Nat → Bool} (W : Wz sh z) (hs : SC sh y) : ∀ (f o k : Nat) (pr : Nat → Nat) (st : PS) (c : Nat → Nat → Int32), o ≤ 5 → 6 ≤ o + f → k ≤ o → st.2 ≤ 6 → (∀ j, j < 5 → pr j ≤ 5) → (∀ i j, i < j → j < 5 → c 94 (5 * i + j) = if P i j = true then 1 else 0) → RPs c pr st → ∃ c', f_X3_choose f 93 (nI o) (nI k) (HH sh c z) = some (HH sh c' z) ∧ RPs c' pr (chz P f o k pr st) ∧ Fr3 c c' ∧ (chz P f o k pr st).2 ≤ 6 := by
  intro f
  induction f with
  | zero => intro o k pr st c h1 h2; omega
  | succ f ih =>
    intro o k pr st c ho hf hk hst hpr h94 hR
    obtain ⟨a93, a94, a95, a96⟩ := hs.a93
    rw [f_X3_choose, HG W a93, bnd_s]
    rcases Nat.lt_or_ge o 5 with h5 | h5
    · rw [if_pos (show nI o < (5 : Int32) from nI_lt (b := 5) h5 (by omega)), HR (k := 1) W a93 rfl, bnd_s, HL W a95 h5 (by omega), bnd_s, hR.1 o h5]
      simp only [jn1_s, nm_s]
      have fin : ∀ (cc : Nat → Nat → Int32) (st' : PS), RPs cc pr st' → Fr3 c cc → st'.2 ≤ 6 → chz P (f + 1) o k pr st = chz P f (o + 1) k pr st' → ∃ c', (bnd (f_X3_choose f 93 (nI o + 1) (nI k) (HH sh cc z)) fun h6 => some h6) = some (HH sh c' z) ∧ RPs c' pr (chz P (f + 1) o k pr st) ∧ Fr3 c c' ∧ (chz P (f + 1) o k pr st).2 ≤ 6 := by
        intro cc st' r1 r2 r3 r4
        obtain ⟨c', e, q1, q2, q3⟩ := ih (o + 1) k pr st' cc (by omega) (by omega) (by omega) r3 hpr (fun i j hi hj => by rw [r2 94 (by omega) (by omega) (by omega)]; exact h94 i j hi hj) r1
        rw [nI_1, e, bnd_s, r4]
        exact ⟨c', rfl, q1, fun b h1 h2 h3 => (q2 b h1 h2 h3).trans (r2 b h1 h2 h3), q3⟩
      by_cases hp : pr o = 5
      · rw [if_pos (show enc (pr o) = -4 by rw [hp]; rfl)]
        have ec : chz P (f + 1) o k pr st = chz P f (o + 1) k pr (itP (gz P f o k pr) (o + 1) (4 - o) st) := by rw [chz_step, if_pos h5, if_pos hp]
        refine wl2_fuel (fun i x h => x = nI (o + 1 + i) ∧ ∃ cc, h = HH sh cc z ∧ RPs cc pr (itP (gz P f o k pr) (o + 1) i st) ∧ Fr3 c cc ∧ (itP (gz P f o k pr) (o + 1) i st).2 ≤ 6) (4 - o) (by omega) (fun t => ∃ c', t = some (HH sh c' z) ∧ RPs c' pr (chz P (f + 1) o k pr st) ∧ Fr3 c c' ∧ (chz P (f + 1) o k pr st).2 ≤ 6) ?_ _ _ ⟨nI_1 o, c, rfl, hR, fun _ _ _ _ => rfl, hst⟩
        intro rec i x h hi hx
        obtain ⟨rfl, cc, rfl, r1, r2, r3⟩ := hx
        rcases Nat.lt_or_ge i (4 - o) with hl | hl
        · refine Or.inl ⟨hl, ?_⟩
          have ht : o + 1 + i < 5 := by omega
          have enx : itP (gz P f o k pr) (o + 1) (i + 1) st = gz P f o k pr (o + 1 + i) (itP (gz P f o k pr) (o + 1) i st) := rfl
          rw [if_neg (five_ge ht), HR (k := 1) W a93 rfl, bnd_s, HL W a95 ht (by omega), bnd_s, r1.1 _ ht]
          generalize hS : itP (gz P f o k pr) (o + 1) i st = S at *
          have etn : nI (o + 1 + i) + 1 = nI (o + 1 + (i + 1)) := nI_1 _
          rw [etn]
          generalize htt : o + 1 + i = t at *
          by_cases hq : pr t = 5
          · have eix : nI o * 5 + nI t = nI (5 * o + t) := by rw [show (5 : Int32) = nI 5 from rfl, pk_mul, nI_add, Nat.mul_comm]
            rw [if_pos (show enc (pr t) = -4 by rw [hq]; rfl), HR (k := 0) W a93 rfl, bnd_s, eix, HL W a94 (show 5 * o + t < 25 by omega) (by omega), bnd_s, r2 94 (by omega) (by omega) (by omega), h94 o t (by omega) ht]
            by_cases hP : P o t = true
            · have hd : ∀ j, j < 5 → u2 (u2 cc 95 o (nI t)) 95 t (nI o) 95 j = enc (pUp (pUp pr o t) t o j) := by
                intro j hj
                by_cases e1 : j = t
                · rw [e1, u2_same]
                  unfold pUp
                  rw [if_pos rfl, enc_ne (by omega)]
                · rw [u2_ne _ _ (Or.inr e1)]
                  by_cases e2 : j = o
                  · rw [e2, u2_same]
                    unfold pUp
                    rw [if_neg (by omega), if_pos rfl, enc_ne (by omega)]
                  · rw [u2_ne _ _ (Or.inr e2), r1.1 j hj]
                    unfold pUp
                    rw [if_neg e1, if_neg e2]
              obtain ⟨c2, e2, q1, q2, q3⟩ := ih (o + 1) (k + 1) (pUp (pUp pr o t) t o) S (u2 (u2 cc 95 o (nI t)) 95 t (nI o)) (by omega) (by omega) (by omega) r3 (fun j hj => by
                unfold pUp
                by_cases e1 : j = t
                · rw [if_pos e1]; omega
                · rw [if_neg e1]
                  by_cases e2 : j = o
                  · rw [if_pos e2]; omega
                  · rw [if_neg e2]; exact hpr j hj) (fun i j hi hj => by rw [u2_other _ _ _ (by omega), u2_other _ _ _ (by omega), r2 94 (by omega) (by omega) (by omega)]; exact h94 i j hi hj) ⟨hd, by rw [u2_other _ _ _ (by omega), u2_other _ _ _ (by omega)]; exact r1.2.1, by rw [u2_other _ _ _ (by omega), u2_other _ _ _ (by omega)]; exact r1.2.2⟩
              have eg : itP (gz P f o k pr) (o + 1) (i + 1) st = chz P f (o + 1) (k + 1) (pUp (pUp pr o t) t o) S := by
                rw [enx]
                unfold gz
                rw [if_pos ⟨hq, hP⟩]
              rw [if_pos hP, if_neg i10, bnd_s, HS W a95 h5 (by omega), bnd_s, nrw0, HR (k := 1) W a93 rfl, bnd_s, HS W a95 ht (by omega), bnd_s, nrw0, nI_1, nI_1, e2, bnd_s, HR (k := 1) W a93 rfl, bnd_s, HS W a95 h5 (by omega), bnd_s, nrw0, HR (k := 1) W a93 rfl, bnd_s, HS W a95 ht (by omega), bnd_s, nrw0]
              refine ⟨_, _, ⟨rfl, _, rfl, ?_, ?_, ?_⟩, rfl⟩
              · rw [eg]
                refine ⟨fun j hj => ?_, by rw [u2_other _ _ _ (by omega), u2_other _ _ _ (by omega)]; exact q1.2.1, by rw [u2_other _ _ _ (by omega), u2_other _ _ _ (by omega)]; exact q1.2.2⟩
                by_cases e1 : j = t
                · rw [e1, u2_same, hq]; rfl
                · rw [u2_ne _ _ (Or.inr e1)]
                  by_cases e2 : j = o
                  · rw [e2, u2_same, hp]; rfl
                  · rw [u2_ne _ _ (Or.inr e2), q1.1 j hj]
                    unfold pUp
                    rw [if_neg e1, if_neg e2]
              · intro b h1 h2 h3
                rw [u2_other _ _ _ h2, u2_other _ _ _ h2, q2 b h1 h2 h3, u2_other _ _ _ h2, u2_other _ _ _ h2]
                exact r2 b h1 h2 h3
              · rw [eg]; exact q3
            · have eg : itP (gz P f o k pr) (o + 1) (i + 1) st = S := by
                rw [enx]
                unfold gz
                rw [if_neg (fun r => hP r.2)]
              rw [if_neg hP, if_pos rfl]
              exact ⟨_, _, ⟨rfl, cc, rfl, by rw [eg]; exact r1, r2, by rw [eg]; exact r3⟩, rfl⟩
          · have eg : itP (gz P f o k pr) (o + 1) (i + 1) st = S := by
              rw [enx]
              unfold gz
              rw [if_neg (fun r => hq r.1)]
            rw [if_neg (enc_no (hpr t ht) hq)]
            exact ⟨_, _, ⟨rfl, cc, rfl, by rw [eg]; exact r1, r2, by rw [eg]; exact r3⟩, rfl⟩
        · refine Or.inr ?_
          rw [if_pos (five_le (show 5 ≤ o + 1 + i by omega) (by omega))]
          have ei : i = 4 - o := by omega
          rw [ei] at r1 r3
          exact fin cc _ r1 r2 r3 ec
      · rw [if_neg (enc_no (hpr o h5) hp)]
        exact fin c st hR (fun _ _ _ _ => rfl) hst (by rw [chz_step, if_pos h5, if_neg hp])
    · have eo : o = 5 := by omega
      subst eo
      rw [if_neg (show ¬ nI 5 < (5 : Int32) by decide), HI (k := 3) W a93 rfl, bnd_s, hR.2.1, chz_step, if_neg (show ¬ (5 < 5) by omega)]
      simp only [jn1_s]
      have hcmp : (nI k ≤ nI st.2 - 1) = (k < st.2) := by
        rw [i_le, nI_T _ (by omega), show (1 : Int32) = nI 1 from rfl, pk_sub_toInt (by omega) (by omega)]
        simp only [eq_iff_iff]
        omega
      by_cases hkk : k < st.2
      · rw [if_pos (by rw [hcmp]; exact hkk), if_pos hkk]
        exact ⟨c, rfl, hR, fun _ _ _ _ => rfl, hst⟩
      · rw [if_neg (by rw [hcmp]; exact hkk), if_neg hkk, HP (k := 3) W a93 rfl, bnd_s, HR (k := 1) W a93 rfl, bnd_s, HR (k := 2) W a93 rfl, bnd_s, show cpI (HH sh (u2 c 93 3 (nI k)) z) 95 (0 : Int32) 96 (0 : Int32) (5 : Int32) = _ from HCp (sp := 0) (dp := 0) (m := 5) W a96 a95 (by omega) (by omega) (by omega) (by omega), bnd_s]
        refine ⟨_, rfl, ⟨fun j hj => ?_, ?_, fun _ j hj => ?_⟩, fun b h1 h2 h3 => ?_, by show k + 1 ≤ 6; omega⟩
        · rw [uR_other _ _ (by omega), u2_other _ _ _ (by omega)]; exact hR.1 j hj
        · rw [uR_other _ _ (by omega), u2_same]
          exact (nI_pred k).symm
        · rw [uR_same]
          unfold va_cpy
          rw [if_pos (by omega), u2_other _ _ _ (by omega), show 0 + (j - 0) = j by omega]
          exact hR.1 j hj
        · rw [uR_other _ _ h3, u2_other _ _ _ h1]
end PQ
