/-! ===== text written ===== -/
section WR
variable {n : Nat} {h : Hp} {A : AS} {sh sh' : Nat → Shp} {c c' : Nat → Nat → Int32} {z : Nat × Nat}
/-- byte k of v, as a row of bytes keeps it -/
def wByte (v : Int64) (k : Nat) : Int32 := nrw 1 (v >>> (((8 : Int32) * nI k).toInt64 &&& 63)).toInt32.toInt8.toInt32
/-- m bytes of v behind place t: the bytes p - 1, p - 2, .. -/
def wRow (f : Nat → Int32) (v : Int64) (t p : Nat) : Nat → Nat → Int32
  | 0 => f
  | m + 1 => upd (wRow f v t p m) (t + m) (wByte v (p - 1 - m))
theorem write_loop (W : Wz sh z) {a b o r : Nat} {fs : List (Option Nat)} {ci : Nat} (ho : sh o = sO ci fs) (hr : fs[r]? = some (some b)) (ha : fs[a]? = some none) (hb : sh b = sA 1 300) (hbo : b ≠ o) {p t : Nat} (hp : 1 ≤ p) (hp8 : p ≤ 8) (ht : t + p ≤ 300) (c : Nat → Nat → Int32) (hc : c o a = nI t) (v : Int64) :
    wl2 (fun (r8 : Int32 → Hp → Option (Int32 × Hp)) (i6 : Int32) (h7 : Hp) => if i6 < 0 then (bnd (gI h7 o ci a) fun x10 => some (x10, h7)) else (bnd (gR h7 o ci r) fun a11 => bnd (gI h7 o ci a) fun x12 => bnd (stI 1 h7 a11 x12 ((v >>> (((8 : Int32) * i6).toInt64 &&& 63)).toInt32.toInt8.toInt32)) fun h13 => bnd (gI h13 o ci a) fun x14 => bnd (pF h13 o ci a (.int (x14 + (1 : Int32)))) fun h15 => r8 (i6 + (-1 : Int32)) h15)) fuel (nI (p - 1)) (HH sh c z) = some (nI (t + p), HH sh (u2 (uR c b (wRow (c b) v t p p)) o a (nI (t + p))) z) := by
  have key : ∀ m, m ≤ p → u2 (uR c b (wRow (c b) v t p m)) o a (nI (t + m)) o a = nI (t + m) := fun m _ => u2_same _ _ _ _
  refine wl2_fuel (fun i x h => x = nI p - nI 1 - nI i ∧ h = HH sh (u2 (uR c b (wRow (c b) v t p i)) o a (nI (t + i))) z) p (by omega) (fun q => q = _) ?_ _ _ ⟨?_, ?_⟩
  · intro rec i x h hi hx
    obtain ⟨rfl, rfl⟩ := hx
    rcases Nat.lt_or_ge i p with hl | hl
    · refine Or.inl ⟨hl, _, _, ⟨rfl, rfl⟩, ?_⟩
      have e1 : nI p - nI 1 - nI i = nI (p - 1 - i) := by rw [pk_sub (by omega), pk_sub (by omega)]
      have e2 : nI p - nI 1 - nI (i + 1) = nI (p - 1 - i) + -1 := by
        have g : ∀ a b : Int32, a - (b + 1) = a - b + -1 := by
          intro a b
          simp only [Int32.sub_eq_add_neg, Int32.neg_add, Int32.add_assoc]
        rw [nI_succ i, g, e1]
      rw [e2, e1, if_neg (nI_pos (by omega)), HR W ho hr, bnd_s, HI W ho ha, bnd_s, u2_same, HS W hb (show t + i < 300 by omega) (by omega), bnd_s, HI W ho ha, bnd_s, u2_ne _ _ (Or.inl (Ne.symm hbo)), u2_same, nI_1, HP W ho ha, bnd_s]
      congr 2
      funext q
      by_cases hq : q = o
      · subst hq
        funext j
        by_cases hj : j = a
        · rw [hj, u2_same, u2_same]; rfl
        · rw [u2_ne _ _ (Or.inr hj), u2_ne _ _ (Or.inr hj), u2_ne _ _ (Or.inl (Ne.symm hbo)), u2_ne _ _ (Or.inr hj), uR_other _ _ (Ne.symm hbo), uR_other _ _ (Ne.symm hbo)]
      · rw [u2_other _ _ _ hq, u2_other _ _ _ hq]
        by_cases hqb : q = b
        · subst hqb
          rw [u2_row, u2_other _ _ _ hq, uR_same, uR_same]
          rfl
        · rw [u2_other _ _ _ hqb, u2_other _ _ _ hq, uR_other _ _ hqb, uR_other _ _ hqb]
    · refine Or.inr ?_
      have e : i = p := by omega
      subst e
      have e1 : nI i - nI 1 - nI i < 0 := by
        rw [i_lt, pk_sub (by omega), pk_sub_toInt (by omega) (by omega)]
        rw [show (0 : Int32).toInt = 0 from rfl]
        omega
      rw [if_pos e1, HI W ho ha, bnd_s, u2_same]
  · rw [show nI p - nI 1 - nI 0 = nI (p - 1) from by rw [pk_sub (by omega), pk_sub (by omega)]; rfl]
  · congr 1
    funext q j
    by_cases hq : q = o ∧ j = a
    · rw [hq.1, hq.2, u2_same, hc]; rfl
    · rw [u2_ne _ _ (by omega)]
      by_cases hqb : q = b
      · rw [hqb, uR_same]; rfl
      · rw [uR_other _ _ hqb]
theorem op_write (hI : Inv n h) (x : Int32) (v : Int64) : ∃ r h1 h2, f_X6_write 0 x v h = some (r, h1) ∧ f_X7_write 99 x v h1 = some (r, h2) ∧ Inv (n + 1) h2 := by
  obtain ⟨A, sh, c, z, rfl, hA, hC, hS, hR⟩ := hI
  obtain ⟨y, W, hs, hb, hc⟩ := id hC
  have same : Inv (n + 1) (HH sh c z) := ⟨A, sh, c, z, rfl, hA, hC.more, hS, hR⟩
  have hT := hA.1
  by_cases hx : 1 ≤ x.toInt ∧ x.toInt ≤ 8
  · obtain ⟨p, hp8, rfl⟩ : ∃ s, s ≤ 8 ∧ x = nI s := nI_of2 (M := 8) rfl (by rw [i_lt, show (0 : Int32).toInt = 0 from rfl]; omega) (by rw [i_le, show (8 : Int32).toInt = 8 from rfl]; omega)
    rw [nI_T _ (by omega)] at hx
    have y1 : ¬ nI p < 1 := nI_nlt (b := 1) (by omega) (by omega)
    have y8 : nI p ≤ 8 := nI_le (b := 8) hp8 (by omega)
    have yin : f_X7_in (nI p).toInt64 1 8 = some 1 := in_n (lo := 1) (hi := 8) 1 8 rfl rfl (by omega) (by omega) (by omega)
    have em : nI p - 1 = nI (p - 1) := pk_sub (b := 1) (by omega)
    by_cases hfit : asT A + p ≤ 300
    · have e6 : f_X6_write 0 (nI p) v (HH sh c z) = some (nI (asT A + p), HH sh (u2 (uR c 1 (wRow (c 1) v (asT A) p p)) 0 1 (nI (asT A + p))) z) := by
        unfold f_X6_write
        rw [HG W hs.1, bnd_s, jn0_s, if_neg y1, if_pos y8, HI (k := 1) W hs.1 rfl, bnd_s, hc.2.1, nI_add, if_pos (show nI (asT A + p) ≤ 300 from nI_le (b := 300) hfit (by omega)), nm_s, em]
        exact write_loop (r := 0) (a := 1) W hs.1 rfl rfl hs.2.1 (by decide) (by omega) hp8 hfit c hc.2.1 v
      have fM : FrM sh c sh (u2 (uR c 1 (wRow (c 1) v (asT A) p p)) 0 1 (nI (asT A + p))) := fun b g1 g2 => ⟨rfl, by rw [u2_other _ _ _ (by omega), uR_other _ _ (by omega)]⟩
      have hR1 := hR.kept fM
      have e98 : u2 (uR c 1 (wRow (c 1) v (asT A) p p)) 0 1 (nI (asT A + p)) 100 = c 100 := (fM 100 (by omega) (by omega)).2
      have e7 : f_X7_write 99 (nI p) v (HH sh (u2 (uR c 1 (wRow (c 1) v (asT A) p p)) 0 1 (nI (asT A + p))) z) = some (nI (asT A + p), HH sh (u2 (uR (u2 (uR c 1 (wRow (c 1) v (asT A) p p)) 0 1 (nI (asT A + p))) 100 (wRow (c 100) v (asT A) p p)) 99 0 (nI (asT A + p))) z) := by
        unfold f_X7_write
        rw [HG W hS.1, bnd_s, yin, bnd_s, if_neg i10, HI (k := 0) W hS.1 rfl, bnd_s, hR1.2.1, nI_add, if_pos (show nI (asT A + p) ≤ 300 from nI_le (b := 300) hfit (by omega)), nm_s, em]
        have := write_loop (r := 1) (a := 0) W hS.1 rfl rfl hS.2.1 (by decide) (by omega) hp8 hfit _ hR1.2.1 v
        rw [e98] at this
        exact this
      refine ⟨_, _, _, e6, e7, ?_⟩
      obtain ⟨c1, c2, c3, c4, c5, c6, c7, ⟨σ, c8, c9, c10, c11⟩, c12⟩ := hc
      obtain ⟨r1, r2, r3, r4, r5, r6, r7, r8, r9, r10, r11⟩ := hR
      generalize hcc : u2 (uR (u2 (uR c 1 (wRow (c 1) v (asT A) p p)) 0 1 (nI (asT A + p))) 100 (wRow (c 100) v (asT A) p p)) 99 0 (nI (asT A + p)) = cc
      have f : ∀ b, b ≠ 0 → b ≠ 1 → b ≠ 99 → b ≠ 100 → cc b = c b := fun b g1 g2 g3 g4 => by rw [← hcc, u2_other _ _ _ g3, uR_other _ _ g4, u2_other _ _ _ g1, uR_other _ _ g2]
      have f0 : ∀ j, j ≠ 1 → cc 0 j = c 0 j := fun j hj => by rw [← hcc, u2_other _ _ _ (by decide), uR_other _ _ (by decide), u2_ne _ _ (Or.inr hj), uR_other _ _ (by decide)]
      have f97 : ∀ j, j ≠ 0 → cc 99 j = c 99 j := fun j hj => by rw [← hcc, u2_ne _ _ (Or.inr hj), uR_other _ _ (by decide), u2_other _ _ _ (by decide), uR_other _ _ (by decide)]
      have w5 := hA.2.2.2.2.1
      have w7 := hA.2.2.2.2.2.2.1
      refine ⟨(wRow (asX A) v (asT A) p p, asT A + p, asL A, asP A, asV A, asU A, asD A, asK A, asE A, asQ A, asN A), sh, cc, z, rfl, ⟨hfit, hA.2⟩, ⟨y, W, hs, ⟨hb.1, by have := hb.2.1; omega, by have := hb.2.2; omega⟩, ?_, ?_, ?_, ?_, ?_, ?_, ?_, ⟨σ, c8, c9, c10, ?_⟩, ?_⟩, hS, ?_, ?_, ?_, ?_, ?_, ?_, ?_, ?_, ?_, ?_, ?_⟩
      · rw [← hcc, u2_other _ _ _ (by decide), uR_other _ _ (by decide), u2_other _ _ _ (by decide), uR_same, c1]
      · rw [← hcc, u2_other _ _ _ (by decide), uR_other _ _ (by decide), u2_same]
      · rw [f0 6 (by omega)]; exact c3
      · rw [f0 8 (by omega)]; exact c4
      · rw [f0 10 (by omega)]; exact c5
      · intro i hi; rw [f 78 (by omega) (by omega) (by omega) (by omega)]; exact c6 i hi
      · exact c7.kept (fun b g1 g2 => f b (by omega) (by omega) (by omega) (by omega))
      · intro q hq
        have hq : q < asD A := hq
        have := c9 q (by omega)
        exact (c11 q hq).kept (fun b g1 g2 => f b (by omega) (by omega) (by omega) (by omega))
      · intro k hk
        have hk : k < asE A := hk
        exact (c12 k hk).kept (fun b g1 g2 => f b (by omega) (by omega) (by omega) (by omega))
      · rw [← hcc, u2_other _ _ _ (by decide), uR_same, r1]
      · rw [← hcc, u2_same]
      · rw [f97 8 (by omega)]; exact r3
      · rw [f97 7 (by omega)]; exact r4
      · rw [f97 9 (by omega)]; exact r5
      · intro i hi; rw [f 105 (by omega) (by omega) (by omega) (by omega)]; exact r6 i hi
      · rw [f 101 (by omega) (by omega) (by omega) (by omega)]; exact r7
      · rw [f 101 (by omega) (by omega) (by omega) (by omega)]; exact r8
      · rw [f 104 (by omega) (by omega) (by omega) (by omega)]; exact r9
      · intro k hk; rw [f 104 (by omega) (by omega) (by omega) (by omega)]; exact r10 k hk
      · intro k hk; rw [f 104 (by omega) (by omega) (by omega) (by omega)]; exact r11 k hk
    · refine ⟨-3, HH sh c z, HH sh c z, ?_, ?_, same⟩
      · unfold f_X6_write
        rw [HG W hs.1, bnd_s, jn0_s, if_neg y1, if_pos y8, HI (k := 1) W hs.1 rfl, bnd_s, hc.2.1, nI_add, if_neg (show ¬ nI (asT A + p) ≤ 300 from nI_ge (a := 300) (by omega) (by omega))]
      · unfold f_X7_write
        rw [HG W hS.1, bnd_s, yin, bnd_s, if_neg i10, HI (k := 0) W hS.1 rfl, bnd_s, hR.2.1, nI_add, if_neg (show ¬ nI (asT A + p) ≤ 300 from nI_ge (a := 300) (by omega) (by omega))]
  · refine ⟨-1, HH sh c z, HH sh c z, ?_, ?_, same⟩
    · unfold f_X6_write
      rw [HG W hs.1, bnd_s, jn0_s]
      by_cases g1 : x < 1
      · rw [if_pos g1]
      · rw [if_neg g1, if_neg]
        rw [i_lt, show (1 : Int32).toInt = 1 from rfl] at g1
        rw [i_le, show (8 : Int32).toInt = 8 from rfl]
        omega
    · unfold f_X7_write
      rw [HG W hS.1, bnd_s, in_no (by rw [show (1 : Int64).toInt = 1 from rfl, show (8 : Int64).toInt = 8 from rfl]; exact hx), bnd_s, if_pos rfl]
end WR
