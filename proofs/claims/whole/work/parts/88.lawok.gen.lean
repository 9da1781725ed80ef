/-! ===== the law's loop, out of the operations ===== -/
theorem sw_hd {ρ : Type} {x c : Int32} {t : Nat} {u d : Option ρ} {cs : List (Int32 × Nat × Option ρ)} (h : x = c) : sw x ((c, t, u) :: cs) d = u := by simp [sw, h]
theorem sw_tl {ρ : Type} {x c : Int32} {t : Nat} {u d : Option ρ} {cs : List (Int32 × Nat × Option ρ)} (h : x ≠ c) : sw x ((c, t, u) :: cs) d = sw x cs d := by simp [sw, h]
theorem sw_nil {ρ : Type} {x : Int32} {d : Option ρ} : sw x [] d = d := rfl
theorem rdS_ok {L : Nat} {xs : Nat → Int32} {i : Nat} (h : i < L) (hL : L ≤ 2048) : rdS L xs (nI i) = some (xs i) := by
  unfold rdS
  rw [if_neg (in_ok h (by omega)), nI_clamp (by omega)]
theorem lg_self (x : Int64) : lg_cmp x x = 0 := by
  unfold lg_cmp
  simp
set_option maxHeartbeats 8000000 in
set_option maxRecDepth 100000 in
theorem law_ok (L : Nat) (xs : Nat → Int32) (hL : L ≤ 2048) : ∃ h', f_L_law L xs (fun _ => .inr (0, []), 0, 0) = some (1, h') := by
  obtain ⟨h1, h2, h3, h4, e1, e2, e3, e4, hI⟩ := start_ok
  unfold f_L_law
  rw [e1, bnd2_s, e2, bnd_s, e3, bnd2_s, e4, bnd_s]
  refine wl2_fuel (fun i x h => x = nI (4 * i) ∧ Inv i h) (L / 4) (by omega) (fun t => ∃ h', t = some (1, h')) ?_ _ _ ⟨by decide, hI⟩
  intro rec i x h hi hx
  obtain ⟨rfl, hI⟩ := hx
  have hL4 : Int32.ofNat L - 4 < nI (4 * i) ↔ ¬ 4 * i + 4 ≤ L := by
    rw [i_lt, nI_toInt (by omega)]
    rw [show Int32.ofNat L - 4 = nI L - nI 4 from rfl, pk_sub_toInt (by omega) (by omega)]
    omega
  by_cases hend : 4 * i + 4 ≤ L
  · refine Or.inl ⟨by omega, ?_⟩
    rw [if_neg (fun q => hL4.mp q hend), rdS_ok (by omega) hL, bnd_s]
    simp only [jn1_s]
    have a1 : nI (4 * i) + 1 = nI (4 * i + 1) := nI_1 _
    have a2 : nI (4 * i) + 2 = nI (4 * i + 2) := nI_add _ 2
    have a3 : nI (4 * i) + 3 = nI (4 * i + 3) := nI_add _ 3
    have a4 : nI (4 * i) + 4 = nI (4 * (i + 1)) := by rw [show 4 * (i + 1) = 4 * i + 4 by omega]; exact nI_add _ 4
    rw [a1, a2, a3, a4]
    have b1 := rdS_ok (L := L) (xs := xs) (i := 4 * i + 1) (by omega) hL
    have b2 := rdS_ok (L := L) (xs := xs) (i := 4 * i + 2) (by omega) hL
    have b3 := rdS_ok (L := L) (xs := xs) (i := 4 * i + 3) (by omega) hL
    obtain ⟨j, hj, ej⟩ := pk_andE (xs (4 * i)) (m := 31) 5 (by decide)
    rw [ej]
    rcases (show j = 0 ∨ j = 1 ∨ j = 2 ∨ j = 3 ∨ j = 4 ∨ j = 5 ∨ j = 6 ∨ j = 7 ∨ j = 8 ∨ j = 9 ∨ j = 10 ∨ j = 11 ∨ j = 12 ∨ j = 13 ∨ j = 14 ∨ j = 15 ∨ j = 16 ∨ j = 17 ∨ j = 18 ∨ j = 19 ∨ j = 20 ∨ j = 21 ∨ j = 22 ∨ j = 23 ∨ j = 24 ∨ j = 25 ∨ (26 ≤ j ∧ j < 32) by omega) with rfl | rfl | rfl | rfl | rfl | rfl | rfl | rfl | rfl | rfl | rfl | rfl | rfl | rfl | rfl | rfl | rfl | rfl | rfl | rfl | rfl | rfl | rfl | rfl | rfl | rfl | hj26
    · rw [sw_hd (by decide)]
      obtain ⟨r, h1, h2, g1, g2, g3⟩ := op_write hI (xs (4 * i + 1)) ((xs (4 * i + 2)).toInt64 <<< ((32 : Int32).toInt64 &&& 63) ||| ((xs (4 * i + 3)).toInt64 &&& (4294967295 : Int64)))
      refine ⟨_, _, ⟨rfl, g3⟩, ?_⟩
      simp only [b1, b2, b3, bnd_s, g1, g2, bnd2_s, if_true]
    · rw [sw_tl (by decide), sw_hd (by decide)]
      obtain ⟨r, h1, h2, g1, g2, g3⟩ := op_wipe hI
      refine ⟨_, _, ⟨rfl, g3⟩, ?_⟩
      simp only [bnd_s, g1, g2, bnd2_s, if_true]
    · rw [sw_tl (by decide), sw_tl (by decide), sw_hd (by decide)]
      obtain ⟨r, h1, h2, g1, g2, g3⟩ := op_fault hI
      refine ⟨_, _, ⟨rfl, g3⟩, ?_⟩
      simp only [bnd_s, g1, g2, bnd2_s, if_true]
    · rw [sw_tl (by decide), sw_tl (by decide), sw_tl (by decide), sw_hd (by decide)]
      obtain ⟨r, h1, h2, g1, g2, g3⟩ := op_lay hI
      refine ⟨_, _, ⟨rfl, g3⟩, ?_⟩
      simp only [bnd_s, g1, g2, bnd2_s, if_true]
    · rw [sw_tl (by decide), sw_tl (by decide), sw_tl (by decide), sw_tl (by decide), sw_hd (by decide)]
      obtain ⟨r, g1, g2⟩ := op_sack hI (xs (4 * i + 1)) (xs (4 * i + 2))
      refine ⟨_, _, ⟨rfl, hI.more⟩, ?_⟩
      simp only [b1, b2, b3, bnd_s, g1, g2, if_true]
    · rw [sw_tl (by decide), sw_tl (by decide), sw_tl (by decide), sw_tl (by decide), sw_tl (by decide), sw_hd (by decide)]
      obtain ⟨r, g1, g2⟩ := op_may hI (xs (4 * i + 1))
      refine ⟨_, _, ⟨rfl, hI.more⟩, ?_⟩
      simp only [b1, b2, b3, bnd_s, g1, g2, if_true]
    · rw [sw_tl (by decide), sw_tl (by decide), sw_tl (by decide), sw_tl (by decide), sw_tl (by decide), sw_tl (by decide), sw_hd (by decide)]
      obtain ⟨r, h1, h2, g1, g2, g3⟩ := op_pour hI (xs (4 * i + 1))
      refine ⟨_, _, ⟨rfl, g3⟩, ?_⟩
      simp only [b1, b2, b3, bnd_s, g1, g2, bnd2_s, if_true]
    · rw [sw_tl (by decide), sw_tl (by decide), sw_tl (by decide), sw_tl (by decide), sw_tl (by decide), sw_tl (by decide), sw_tl (by decide), sw_hd (by decide)]
      obtain ⟨r, h1, h2, g1, g2, g3⟩ := op_halve hI (xs (4 * i + 1)) (xs (4 * i + 2))
      refine ⟨_, _, ⟨rfl, g3⟩, ?_⟩
      simp only [b1, b2, b3, bnd_s, g1, g2, bnd2_s, if_true]
    · rw [sw_tl (by decide), sw_tl (by decide), sw_tl (by decide), sw_tl (by decide), sw_tl (by decide), sw_tl (by decide), sw_tl (by decide), sw_tl (by decide), sw_hd (by decide)]
      obtain ⟨r, h1, h2, g1, g2, g3⟩ := op_sell hI (xs (4 * i + 1))
      refine ⟨_, _, ⟨rfl, g3⟩, ?_⟩
      simp only [b1, b2, b3, bnd_s, g1, g2, bnd2_s, if_true]
    · rw [sw_tl (by decide), sw_tl (by decide), sw_tl (by decide), sw_tl (by decide), sw_tl (by decide), sw_tl (by decide), sw_tl (by decide), sw_tl (by decide), sw_tl (by decide), sw_hd (by decide)]
      obtain ⟨r, h1, h2, g1, g2, g3⟩ := op_undo hI
      refine ⟨_, _, ⟨rfl, g3⟩, ?_⟩
      simp only [bnd_s, g1, g2, bnd2_s, if_true]
    · rw [sw_tl (by decide), sw_tl (by decide), sw_tl (by decide), sw_tl (by decide), sw_tl (by decide), sw_tl (by decide), sw_tl (by decide), sw_tl (by decide), sw_tl (by decide), sw_tl (by decide), sw_hd (by decide)]
      obtain ⟨r, g1, g2⟩ := op_cost hI
      refine ⟨_, _, ⟨rfl, hI.more⟩, ?_⟩
      simp only [bnd_s, g1, g2, if_true]
    · rw [sw_tl (by decide), sw_tl (by decide), sw_tl (by decide), sw_tl (by decide), sw_tl (by decide), sw_tl (by decide), sw_tl (by decide), sw_tl (by decide), sw_tl (by decide), sw_tl (by decide), sw_tl (by decide), sw_hd (by decide)]
      obtain ⟨r, h1, h2, g1, g2, g3⟩ := op_queue hI (xs (4 * i + 1))
      refine ⟨_, _, ⟨rfl, g3⟩, ?_⟩
      simp only [b1, b2, b3, bnd_s, g1, g2, bnd2_s, if_true]
    · rw [sw_tl (by decide), sw_tl (by decide), sw_tl (by decide), sw_tl (by decide), sw_tl (by decide), sw_tl (by decide), sw_tl (by decide), sw_tl (by decide), sw_tl (by decide), sw_tl (by decide), sw_tl (by decide), sw_tl (by decide), sw_hd (by decide)]
      obtain ⟨r, h1, h2, g1, g2, g3⟩ := op_noQueue hI
      refine ⟨_, _, ⟨rfl, g3⟩, ?_⟩
      simp only [bnd_s, g1, g2, bnd2_s, if_true]
    · rw [sw_tl (by decide), sw_tl (by decide), sw_tl (by decide), sw_tl (by decide), sw_tl (by decide), sw_tl (by decide), sw_tl (by decide), sw_tl (by decide), sw_tl (by decide), sw_tl (by decide), sw_tl (by decide), sw_tl (by decide), sw_tl (by decide), sw_hd (by decide)]
      obtain ⟨r, g1, g2⟩ := op_stops hI (xs (4 * i + 1))
      refine ⟨_, _, ⟨rfl, hI.more⟩, ?_⟩
      simp only [b1, b2, b3, bnd_s, g1, g2, if_true]
    · rw [sw_tl (by decide), sw_tl (by decide), sw_tl (by decide), sw_tl (by decide), sw_tl (by decide), sw_tl (by decide), sw_tl (by decide), sw_tl (by decide), sw_tl (by decide), sw_tl (by decide), sw_tl (by decide), sw_tl (by decide), sw_tl (by decide), sw_tl (by decide), sw_hd (by decide)]
      obtain ⟨r, h1, h2, g1, g2, g3⟩ := op_orders (by omega) hI
      refine ⟨_, _, ⟨rfl, g3⟩, ?_⟩
      simp only [g1, g2, bnd2_s, lg_self, if_true]
    · rw [sw_tl (by decide), sw_tl (by decide), sw_tl (by decide), sw_tl (by decide), sw_tl (by decide), sw_tl (by decide), sw_tl (by decide), sw_tl (by decide), sw_tl (by decide), sw_tl (by decide), sw_tl (by decide), sw_tl (by decide), sw_tl (by decide), sw_tl (by decide), sw_tl (by decide), sw_hd (by decide)]
      obtain ⟨r, h1, h2, g1, g2, g3⟩ := op_most (by omega) hI (xs (4 * i + 1))
      refine ⟨_, _, ⟨rfl, g3⟩, ?_⟩
      simp only [b1, b2, b3, bnd_s, g1, g2, bnd2_s, if_true]
    · rw [sw_tl (by decide), sw_tl (by decide), sw_tl (by decide), sw_tl (by decide), sw_tl (by decide), sw_tl (by decide), sw_tl (by decide), sw_tl (by decide), sw_tl (by decide), sw_tl (by decide), sw_tl (by decide), sw_tl (by decide), sw_tl (by decide), sw_tl (by decide), sw_tl (by decide), sw_tl (by decide), sw_hd (by decide)]
      obtain ⟨r, h1, h2, g1, g2, g3⟩ := op_halvings hI
      refine ⟨_, _, ⟨rfl, g3⟩, ?_⟩
      simp only [bnd_s, g1, g2, bnd2_s, if_true]
    · rw [sw_tl (by decide), sw_tl (by decide), sw_tl (by decide), sw_tl (by decide), sw_tl (by decide), sw_tl (by decide), sw_tl (by decide), sw_tl (by decide), sw_tl (by decide), sw_tl (by decide), sw_tl (by decide), sw_tl (by decide), sw_tl (by decide), sw_tl (by decide), sw_tl (by decide), sw_tl (by decide), sw_tl (by decide), sw_hd (by decide)]
      obtain ⟨r, h1, h2, g1, g2, g3⟩ := op_more (by omega) hI (xs (4 * i + 1))
      refine ⟨_, _, ⟨rfl, g3⟩, ?_⟩
      simp only [b1, b2, b3, bnd_s, g1, g2, bnd2_s, if_true]
    · rw [sw_tl (by decide), sw_tl (by decide), sw_tl (by decide), sw_tl (by decide), sw_tl (by decide), sw_tl (by decide), sw_tl (by decide), sw_tl (by decide), sw_tl (by decide), sw_tl (by decide), sw_tl (by decide), sw_tl (by decide), sw_tl (by decide), sw_tl (by decide), sw_tl (by decide), sw_tl (by decide), sw_tl (by decide), sw_tl (by decide), sw_hd (by decide)]
      obtain ⟨r, h1, h2, g1, g2, g3⟩ := op_lacks (by omega) hI (xs (4 * i + 1))
      refine ⟨_, _, ⟨rfl, g3⟩, ?_⟩
      simp only [b1, b2, b3, bnd_s, g1, g2, bnd2_s, if_true]
    · rw [sw_tl (by decide), sw_tl (by decide), sw_tl (by decide), sw_tl (by decide), sw_tl (by decide), sw_tl (by decide), sw_tl (by decide), sw_tl (by decide), sw_tl (by decide), sw_tl (by decide), sw_tl (by decide), sw_tl (by decide), sw_tl (by decide), sw_tl (by decide), sw_tl (by decide), sw_tl (by decide), sw_tl (by decide), sw_tl (by decide), sw_tl (by decide), sw_hd (by decide)]
      obtain ⟨r, h1, h2, g1, g2, g3⟩ := op_together (by omega) hI (xs (4 * i + 1))
      refine ⟨_, _, ⟨rfl, g3⟩, ?_⟩
      simp only [b1, b2, b3, bnd_s, g1, g2, bnd2_s, if_true]
    · rw [sw_tl (by decide), sw_tl (by decide), sw_tl (by decide), sw_tl (by decide), sw_tl (by decide), sw_tl (by decide), sw_tl (by decide), sw_tl (by decide), sw_tl (by decide), sw_tl (by decide), sw_tl (by decide), sw_tl (by decide), sw_tl (by decide), sw_tl (by decide), sw_tl (by decide), sw_tl (by decide), sw_tl (by decide), sw_tl (by decide), sw_tl (by decide), sw_tl (by decide), sw_hd (by decide)]
      obtain ⟨r, h1, h2, g1, g2, g3⟩ := op_grows (by omega) hI (xs (4 * i + 1))
      refine ⟨_, _, ⟨rfl, g3⟩, ?_⟩
      simp only [b1, b2, b3, bnd_s, g1, g2, bnd2_s, if_true]
    · rw [sw_tl (by decide), sw_tl (by decide), sw_tl (by decide), sw_tl (by decide), sw_tl (by decide), sw_tl (by decide), sw_tl (by decide), sw_tl (by decide), sw_tl (by decide), sw_tl (by decide), sw_tl (by decide), sw_tl (by decide), sw_tl (by decide), sw_tl (by decide), sw_tl (by decide), sw_tl (by decide), sw_tl (by decide), sw_tl (by decide), sw_tl (by decide), sw_tl (by decide), sw_tl (by decide), sw_hd (by decide)]
      obtain ⟨r, h1, h2, g1, g2, g3⟩ := op_twoMills (by omega) hI (xs (4 * i + 1))
      refine ⟨_, _, ⟨rfl, g3⟩, ?_⟩
      simp only [b1, b2, b3, bnd_s, g1, g2, bnd2_s, if_true]
    · rw [sw_tl (by decide), sw_tl (by decide), sw_tl (by decide), sw_tl (by decide), sw_tl (by decide), sw_tl (by decide), sw_tl (by decide), sw_tl (by decide), sw_tl (by decide), sw_tl (by decide), sw_tl (by decide), sw_tl (by decide), sw_tl (by decide), sw_tl (by decide), sw_tl (by decide), sw_tl (by decide), sw_tl (by decide), sw_tl (by decide), sw_tl (by decide), sw_tl (by decide), sw_tl (by decide), sw_tl (by decide), sw_hd (by decide)]
      obtain ⟨r, h1, h2, g1, g2, g3⟩ := op_year (by omega) hI (xs (4 * i + 1)) (xs (4 * i + 2)) (xs (4 * i + 3))
      refine ⟨_, _, ⟨rfl, g3⟩, ?_⟩
      simp only [b1, b2, b3, bnd_s, g1, g2, bnd2_s, if_true]
    · rw [sw_tl (by decide), sw_tl (by decide), sw_tl (by decide), sw_tl (by decide), sw_tl (by decide), sw_tl (by decide), sw_tl (by decide), sw_tl (by decide), sw_tl (by decide), sw_tl (by decide), sw_tl (by decide), sw_tl (by decide), sw_tl (by decide), sw_tl (by decide), sw_tl (by decide), sw_tl (by decide), sw_tl (by decide), sw_tl (by decide), sw_tl (by decide), sw_tl (by decide), sw_tl (by decide), sw_tl (by decide), sw_tl (by decide), sw_hd (by decide)]
      obtain ⟨r, h1, h2, g1, g2, g3⟩ := op_keep hI
      refine ⟨_, _, ⟨rfl, g3⟩, ?_⟩
      simp only [bnd_s, g1, g2, bnd2_s, if_true]
    · rw [sw_tl (by decide), sw_tl (by decide), sw_tl (by decide), sw_tl (by decide), sw_tl (by decide), sw_tl (by decide), sw_tl (by decide), sw_tl (by decide), sw_tl (by decide), sw_tl (by decide), sw_tl (by decide), sw_tl (by decide), sw_tl (by decide), sw_tl (by decide), sw_tl (by decide), sw_tl (by decide), sw_tl (by decide), sw_tl (by decide), sw_tl (by decide), sw_tl (by decide), sw_tl (by decide), sw_tl (by decide), sw_tl (by decide), sw_tl (by decide), sw_hd (by decide)]
      obtain ⟨r, h1, h2, g1, g2, g3⟩ := op_back hI
      refine ⟨_, _, ⟨rfl, g3⟩, ?_⟩
      simp only [bnd_s, g1, g2, bnd2_s, if_true]
    · rw [sw_tl (by decide), sw_tl (by decide), sw_tl (by decide), sw_tl (by decide), sw_tl (by decide), sw_tl (by decide), sw_tl (by decide), sw_tl (by decide), sw_tl (by decide), sw_tl (by decide), sw_tl (by decide), sw_tl (by decide), sw_tl (by decide), sw_tl (by decide), sw_tl (by decide), sw_tl (by decide), sw_tl (by decide), sw_tl (by decide), sw_tl (by decide), sw_tl (by decide), sw_tl (by decide), sw_tl (by decide), sw_tl (by decide), sw_tl (by decide), sw_tl (by decide), sw_hd (by decide)]
      obtain ⟨r, g1, g2⟩ := op_count hI (xs (4 * i + 1))
      refine ⟨_, _, ⟨rfl, hI.more⟩, ?_⟩
      simp only [b1, b2, b3, bnd_s, g1, g2, if_true]
    · rw [sw_tl (by rw [Ne, show (0 : Int32) = nI 0 from rfl, nI_eq (by omega) (by omega)]; omega), sw_tl (by rw [Ne, show (1 : Int32) = nI 1 from rfl, nI_eq (by omega) (by omega)]; omega), sw_tl (by rw [Ne, show (2 : Int32) = nI 2 from rfl, nI_eq (by omega) (by omega)]; omega), sw_tl (by rw [Ne, show (3 : Int32) = nI 3 from rfl, nI_eq (by omega) (by omega)]; omega), sw_tl (by rw [Ne, show (4 : Int32) = nI 4 from rfl, nI_eq (by omega) (by omega)]; omega), sw_tl (by rw [Ne, show (5 : Int32) = nI 5 from rfl, nI_eq (by omega) (by omega)]; omega), sw_tl (by rw [Ne, show (6 : Int32) = nI 6 from rfl, nI_eq (by omega) (by omega)]; omega), sw_tl (by rw [Ne, show (7 : Int32) = nI 7 from rfl, nI_eq (by omega) (by omega)]; omega), sw_tl (by rw [Ne, show (8 : Int32) = nI 8 from rfl, nI_eq (by omega) (by omega)]; omega), sw_tl (by rw [Ne, show (9 : Int32) = nI 9 from rfl, nI_eq (by omega) (by omega)]; omega), sw_tl (by rw [Ne, show (10 : Int32) = nI 10 from rfl, nI_eq (by omega) (by omega)]; omega), sw_tl (by rw [Ne, show (11 : Int32) = nI 11 from rfl, nI_eq (by omega) (by omega)]; omega), sw_tl (by rw [Ne, show (12 : Int32) = nI 12 from rfl, nI_eq (by omega) (by omega)]; omega), sw_tl (by rw [Ne, show (13 : Int32) = nI 13 from rfl, nI_eq (by omega) (by omega)]; omega), sw_tl (by rw [Ne, show (14 : Int32) = nI 14 from rfl, nI_eq (by omega) (by omega)]; omega), sw_tl (by rw [Ne, show (15 : Int32) = nI 15 from rfl, nI_eq (by omega) (by omega)]; omega), sw_tl (by rw [Ne, show (16 : Int32) = nI 16 from rfl, nI_eq (by omega) (by omega)]; omega), sw_tl (by rw [Ne, show (17 : Int32) = nI 17 from rfl, nI_eq (by omega) (by omega)]; omega), sw_tl (by rw [Ne, show (18 : Int32) = nI 18 from rfl, nI_eq (by omega) (by omega)]; omega), sw_tl (by rw [Ne, show (19 : Int32) = nI 19 from rfl, nI_eq (by omega) (by omega)]; omega), sw_tl (by rw [Ne, show (20 : Int32) = nI 20 from rfl, nI_eq (by omega) (by omega)]; omega), sw_tl (by rw [Ne, show (21 : Int32) = nI 21 from rfl, nI_eq (by omega) (by omega)]; omega), sw_tl (by rw [Ne, show (22 : Int32) = nI 22 from rfl, nI_eq (by omega) (by omega)]; omega), sw_tl (by rw [Ne, show (23 : Int32) = nI 23 from rfl, nI_eq (by omega) (by omega)]; omega), sw_tl (by rw [Ne, show (24 : Int32) = nI 24 from rfl, nI_eq (by omega) (by omega)]; omega), sw_tl (by rw [Ne, show (25 : Int32) = nI 25 from rfl, nI_eq (by omega) (by omega)]; omega), sw_nil]
      exact ⟨_, _, ⟨rfl, hI.more⟩, rfl⟩
  · refine Or.inr ?_
    rw [if_pos (hL4.mpr hend)]
    exact ⟨_, rfl⟩
