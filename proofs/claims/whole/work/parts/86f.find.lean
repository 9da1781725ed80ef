/-! ===== pairs of owners: the class's answer ===== -/
section PF
variable {n : Nat} {A : AS} {y : Dy} {sh : Nat → Shp} {c c' : Nat → Nat → Int32} {z : Nat × Nat}
theorem nrw2 (b : Bool) : nrw 2 (if b = true then 1 else 0) = if b = true then 1 else 0 := by
  cases b <;> decide
abbrev cR (A : AS) : PS := chz (pQ A) 7 0 0 (fun _ => 5) (fun _ => 0, 0)
set_option maxHeartbeats 1000000 in
theorem find_eq (hA : WFA A) (hn : n ≤ 10000) (J : Jn n A y sh c z) : ∃ y' sh' c' z', f_X3_find 93 10 79 (HH sh c z) = some (HH sh' c' z') ∧ Jn n A y' sh' c' z' ∧ RPs c' (fun _ => 5) (cR A) := by
  unfold f_X3_find
  rw [HG J.1 J.2.1.a93.1, bnd_s]
  refine wl2_fuel (fun i x h => x = nI i ∧ ∃ y' sh' c' z', h = HH sh' c' z' ∧ Jn n A y' sh' c' z' ∧ ∀ a b, a < i → a < b → b < 5 → c' 94 (5 * a + b) = if pQ A a b = true then 1 else 0) 5 (by omega) (fun t => ∃ y' sh' c' z', t = some (HH sh' c' z') ∧ Jn n A y' sh' c' z' ∧ RPs c' (fun _ => 5) (cR A)) ?_ _ _ ⟨rfl, y, sh, c, z, rfl, J, fun a b ha => absurd ha (by omega)⟩
  intro rec i x h hi hx
  obtain ⟨rfl, y1, sh1, c1, z1, rfl, J1, h1⟩ := hx
  rcases Nat.lt_or_ge i 5 with h5 | h5
  · refine Or.inl ⟨h5, ?_⟩
    rw [if_neg (five_ge h5), nm_s]
    refine wl2_fuel (fun j x h => x = nI (i + 1 + j) ∧ ∃ y' sh' c' z', h = HH sh' c' z' ∧ Jn n A y' sh' c' z' ∧ ∀ a b, (a < i ∨ a = i ∧ b < i + 1 + j) → a < b → b < 5 → c' 94 (5 * a + b) = if pQ A a b = true then 1 else 0) (4 - i) (by omega) (fun t => ∃ x1 x2, (x1 = nI (i + 1) ∧ ∃ y' sh' c' z', x2 = HH sh' c' z' ∧ Jn n A y' sh' c' z' ∧ ∀ a b, a < i + 1 → a < b → b < 5 → c' 94 (5 * a + b) = if pQ A a b = true then 1 else 0) ∧ t = rec x1 x2) ?_ _ _ ⟨nI_1 i, y1, sh1, c1, z1, rfl, J1, fun a b ha hab hb => h1 a b (by omega) hab hb⟩
    intro rec2 j x h hj hx
    clear h1 J1
    obtain ⟨rfl, y2, sh2, c2, z2, rfl, J2, h2⟩ := hx
    rcases Nat.lt_or_ge j (4 - i) with hl | hl
    · refine Or.inl ⟨hl, ?_⟩
      have ht : i + 1 + j < 5 := by omega
      obtain ⟨y3, sh3, c3, z3, e3, J3, f3⟩ := isPairC hA hn J2 h5 ht
      have eix : nI i * 5 + nI (i + 1 + j) = nI (5 * i + (i + 1 + j)) := by rw [show (5 : Int32) = nI 5 from rfl, pk_mul, nI_add, Nat.mul_comm]
      rw [if_neg (five_ge ht), HR (k := 0) J2.1 J2.2.1.a93.1 rfl, bnd_s, e3, bnd2_s, eix, HS J3.1 J3.2.1.a93.2.1 (show 5 * i + (i + 1 + j) < 25 by omega) (by omega), bnd_s, nrw2, nI_1]
      refine ⟨_, _, ⟨rfl, y3, sh3, _, z3, rfl, J3.cc hA (Kp.s2 _ _ _ (by omega)), fun a b ha hab hb => ?_⟩, rfl⟩
      by_cases e : a = i ∧ b = i + 1 + j
      · rw [e.1, e.2, u2_same, pQ_lt A (by omega) ht]
      · rw [u2_ne _ _ (Or.inr (by omega)), f3 94 (by omega) (by omega)]
        exact h2 a b (by omega) hab hb
    · refine Or.inr ?_
      rw [if_pos (five_le (show 5 ≤ i + 1 + j by omega) (by omega))]
      exact ⟨_, _, ⟨nI_1 i, y2, sh2, c2, z2, rfl, J2, fun a b ha hab hb => h2 a b (by omega) hab hb⟩, rfl⟩
  · refine Or.inr ?_
    rw [if_pos (five_le h5 (by omega)), HR (k := 1) J1.1 J1.2.1.a93.1 rfl, bnd_s]
    obtain ⟨c2, e2, f2, v2⟩ := fillRow (c := c1) J1.1 (-4) J1.2.1.a93.2.2.1 (by omega)
    rw [e2, bnd_s, HP (k := 3) J1.1 J1.2.1.a93.1 rfl, bnd_s]
    obtain ⟨c3, e3, q1, q2, q3⟩ := choose_eq (P := pQ A) J1.1 J1.2.1 7 0 0 (fun _ => 5) (fun _ => 0, 0) (u2 c2 93 3 (-1)) (by omega) (by omega) (by omega) (by show 0 ≤ 6; omega) (fun j _ => by show 5 ≤ 5; omega) (fun a b hab hb => by rw [u2_other _ _ _ (by omega), f2 94 (by omega)]; exact h1 a b (by omega) hab hb) ⟨fun j hj => by rw [u2_other _ _ _ (by omega)]; exact v2 j hj, by rw [u2_same]; rfl, fun h0 => absurd h0 (Nat.lt_irrefl 0)⟩
    rw [show f_X3_choose 7 93 (0 : Int32) (0 : Int32) (HH sh1 (u2 c2 93 3 (-1)) z1) = _ from e3, bnd_s]
    refine ⟨y1, sh1, c3, z1, rfl, J1.cc hA (Kp.of (fun a r => ?_)), q1⟩
    rw [q2 a (by omega) (by omega) (by omega), u2_other _ _ _ (by omega), f2 a (by omega)]
theorem togC (hA : WFA A) (hn : n ≤ 10000) (J : Jn n A y sh c z) {x r : Int32} (h0 : 0 < (cR A).2) (hx : (x = -1 ∧ r = nI (cR A).2 - 1) ∨ ∃ j, j < 5 ∧ x = nI j ∧ r = enc ((cR A).1 j)) : ∃ y' sh' c' z', f_X6_together 0 x (HH sh c z) = some (r, HH sh' c' z') ∧ Jn n A y' sh' c' z' := by
  obtain ⟨y1, sh1, c1, z1, e1, J1, r1⟩ := find_eq hA hn J
  refine ⟨y1, sh1, c1, z1, ?_, J1⟩
  unfold f_X6_together
  rw [HG J.1 J.2.1.1, bnd_s]
  simp only [jn0_s, jn1_s]
  rw [HR (k := 13) J.1 J.2.1.1 rfl, bnd_s, HR (k := 4) J.1 J.2.1.1 rfl, bnd_s, HR (k := 11) J.1 J.2.1.1 rfl, bnd_s, e1, bnd_s]
  rcases hx with ⟨rfl, rfl⟩ | ⟨j, hj, rfl, rfl⟩
  · rw [if_pos rfl, if_pos rfl, HR (k := 13) J1.1 J1.2.1.1 rfl, bnd_s, HI (k := 3) J1.1 J1.2.1.a93.1 rfl, bnd_s, r1.2.1]
  · have hne : ¬ nI j = -1 := by
      rw [i_eq, nI_T _ (by omega), show (-1 : Int32).toInt = -1 from rfl]
      omega
    have hp : f_X3_partnerOf 93 (nI j) (HH sh1 c1 z1) = some (enc ((cR A).1 j)) := by
      unfold f_X3_partnerOf
      rw [HG J1.1 J1.2.1.a93.1, bnd_s, owner_in hj, bnd_s]
      simp only [jn1_s]
      rw [if_neg i10, HR (k := 2) J1.1 J1.2.1.a93.1 rfl, bnd_s, HL J1.1 J1.2.1.a93.2.2.2 hj (by omega), bnd_s, r1.2.2 h0 j hj]
    rw [if_neg hne, if_neg hne, owner_in hj, bnd_s, if_neg i10, HR (k := 13) J1.1 J1.2.1.1 rfl, bnd_s, hp, bnd_s]
end PF
