/-! ===== one sack more, a kind that lacks ===== -/
section ML
variable {n : Nat} {A : AS} {y : Dy} {sh : Nat → Shp} {c c' : Nat → Nat → Int32} {z : Nat × Nat} {b : Nat → Nat}
abbrev lgs (A : AS) (b : Nat → Nat) : Int32 := nI (DV false (asL A) b (stp b 5 - 1) (mvL (asV A)) (mvA (asV A)))
theorem longest_eq (hA : WFA A) (hn : n ≤ 10000) (J : Jn n A y sh c z) (hz : sum5 b 5 < 12) (hb : ∀ k, k < 5 → c 80 k = nI (b k)) : ∃ y' sh' c' z', f_X0_longest 79 10 (HH sh c z) = some (nI (DV false (asL A) b (stp b 5 - 1) (mvL (asV A)) (mvA (asV A))), HH sh' c' z') ∧ Jn n A y' sh' c' z' ∧ c' 80 = c 80 ∧ (∀ k, k < 5 → c' 81 k = nI (stp b k)) ∧ c' 79 3 = nI (stp b 5) ∧ Tb false (asL A) b (c' y'.1.1) (stp b 5) ∧ 36 * stp b 5 ≤ y'.1.2 := by
  obtain ⟨y', sh', c', z', e, J', kp, h80, h81, h79, hT, hlen⟩ := fill_eq (b := b) hA hn J false hz hb
  refine ⟨y', sh', c', z', ?_, J', h80, h81, h79, hT, hlen⟩
  have e' : f_X0_fillAnswers 79 10 0 (HH sh c z) = _ := e
  unfold f_X0_longest
  rw [HG J.1 J.2.1.a79, bnd_s, e', bnd2_s]
/-- one of kind r more -/
def bUp (b : Nat → Nat) (r v : Nat) (k : Nat) : Nat := if k = r then v else b k
theorem sum5_up {b : Nat → Nat} {r v : Nat} (hr : r < 5) : sum5 (bUp b r v) 5 + b r = sum5 b 5 + v := by
  simp only [sum5, bUp]
  rcases (show r = 0 ∨ r = 1 ∨ r = 2 ∨ r = 3 ∨ r = 4 by omega) with e | e | e | e | e <;> subst e <;> simp <;> omega
theorem isKindM_in {k : Nat} (h : k < 5) : f_X7_isKind (nI k) = some 1 := by
  unfold f_X7_isKind
  rw [in_n (lo := 0) (hi := 4) 0 4 rfl rfl (by omega) (by omega) (by omega), bnd_s]
  exact rZp_1
theorem isKindM_out {x : Int32} (h : x < 0 ∨ 5 ≤ x) : f_X7_isKind x = some 0 := by
  unfold f_X7_isKind
  have h2 : x.toInt < 0 ∨ 5 ≤ x.toInt := by
    rw [i_lt, i_le, show (0 : Int32).toInt = 0 from rfl, show (5 : Int32).toInt = 5 from rfl] at h
    exact h
  rw [in_no (by rw [show (0 : Int64).toInt = 0 from rfl, show (4 : Int64).toInt = 4 from rfl]; omega), bnd_s]
  exact rZp_0
theorem op_more {n : Nat} {h : Hp} (hn : n ≤ 10000) (hI : Inv n h) (x : Int32) : ∃ r h1 h2, f_X6_more 0 x h = some (r, h1) ∧ f_X7_more 99 x h1 = some (r, h2) ∧ Inv (n + 1) h2 := by
  obtain ⟨A, y, sh, c, z, rfl, hA, J⟩ := hI.jn
  have hV := hA.2.2.2.1
  unfold f_X6_more f_X7_more
  rcases i_cases x 5 (by omega) with ⟨r, hr, rfl⟩ | hx
  · obtain ⟨c2, e2, f2, b2⟩ := takeAll_eq J.1 J.2.1 J.2.2.2.1.2.2.2.2.2.2.1 hV
    have J2 : Jn n A y sh c2 z := J.cc hA (Kp.of (fun a q => f2 a (by omega)))
    obtain ⟨y3, sh3, c3, z3, e3, J3, h80, -⟩ := longest_eq (b := bW (asV A)) hA hn J2 (bW_sum hV) b2
    have hu : sum5 (bUp (bW (asV A)) r (bW (asV A) r + 1)) 5 < 12 := by
      have h1 := sum5_up (b := bW (asV A)) (r := r) (v := bW (asV A) r + 1) hr
      have h2 : sum5 (bW (asV A)) 5 ≤ 10 := by
        have h1 := sum5_kc (g := gK (mvD (asV A))) (w := wW (mvD (asV A))) (mvN (asV A)) (fun i hi => (hV.2.1 i hi).1)
        have h2 := wSum_le (w := wW (mvD (asV A))) (wW_le _) (mvN (asV A))
        have h3 := hV.1
        unfold bW
        omega
      omega
    have J4 : Jn n A y3 sh3 (u2 c3 80 r (c3 80 r + 1)) z3 := J3.cc hA (Kp.s2 _ _ _ (by omega))
    have b4 : ∀ k, k < 5 → u2 c3 80 r (c3 80 r + 1) 80 k = nI (bUp (bW (asV A)) r (bW (asV A) r + 1) k) := by
      intro k hk
      unfold bUp
      by_cases e : k = r
      · rw [if_pos e, e, u2_same, h80, b2 r hr]
        exact nI_1 _
      · rw [if_neg e, u2_ne _ _ (Or.inr e), h80]
        exact b2 k hk
    obtain ⟨y5, sh5, c5, z5, e5, J5, -⟩ := longest_eq hA hn J4 hu b4
    obtain ⟨c6, e6, f6, b6⟩ := counts_eq J5.1 J5.2.2.2.2.1 J5.2.2.2.2.2 hV
    have J6 : Jn n A y5 sh5 c6 z5 := J5.cc hA (Kp.of (fun a q => f6 a (by omega)))
    obtain ⟨T7, c7, e7, f7, -⟩ := mostOf_eq (b := bW (asV A)) hA J6 (bW_sum hV) b6
    have J7 : Jn n A y5 (shT sh5 T7) c7 z5 := (J6.tab T7).cc hA (Kp.of (fun a q => f7 a (by omega)))
    have J8 : Jn n A y5 (shT sh5 T7) (u2 c7 111 r (c7 111 r + 1)) z5 := J7.cc hA (Kp.s2 _ _ _ (by omega))
    have b8 : ∀ k, k < 5 → u2 c7 111 r (c7 111 r + 1) 111 k = nI (bUp (bW (asV A)) r (bW (asV A) r + 1) k) := by
      intro k hk
      unfold bUp
      by_cases e : k = r
      · rw [if_pos e, e, u2_same, f7 111 (by omega), b6 r hr]
        exact nI_1 _
      · rw [if_neg e, u2_ne _ _ (Or.inr e), f7 111 (by omega)]
        exact b6 k hk
    obtain ⟨T9, c9, e9, f9, -⟩ := mostOf_eq hA J8 hu b8
    have J9 : Jn n A y5 (shT (shT sh5 T7) T9) c9 z5 := (J8.tab T9).cc hA (Kp.of (fun a q => f9 a (by omega)))
    refine ⟨lgs A (bUp (bW (asV A)) r (bW (asV A) r + 1)) - lgs A (bW (asV A)), HH sh5 c5 z5, _, ?_, ?_, J9.inv hA⟩
    · rw [HG J.1 J.2.1.1, bnd_s, kind_in hr, bnd_s, if_neg i10, HR (k := 11) J.1 J.2.1.1 rfl, bnd_s, HR (k := 4) J.1 J.2.1.1 rfl, bnd_s, e2, bnd_s, HR (k := 11) J.1 J.2.1.1 rfl, bnd_s, HR (k := 4) J.1 J.2.1.1 rfl, bnd_s, e3, bnd2_s, HR (k := 11) J3.1 J3.2.1.1 rfl, bnd_s, addOne_eq J3.1 J3.2.1 hr, bnd_s, HR (k := 11) J3.1 J3.2.1.1 rfl, bnd_s, HR (k := 4) J3.1 J3.2.1.1 rfl, bnd_s, e5, bnd2_s]
    · rw [HG J5.1 J5.2.2.2.2.1.1, bnd_s, isKindM_in hr, bnd_s, if_neg i10, e6, bnd_s, e7, bnd2_s, HR (k := 17) J7.1 J7.2.2.2.2.1.1 rfl, bnd_s, HL J7.1 J7.2.2.2.2.1.rb.2.1 hr (by omega), bnd_s, HS J7.1 J7.2.2.2.2.1.rb.2.1 hr (by omega), bnd_s, nrw0, e9, bnd2_s]
  · refine ⟨-1, HH sh c z, _, ?_, ?_, J.inv hA⟩
    · rw [HG J.1 J.2.1.1, bnd_s, kind_out hx, bnd_s, if_pos rfl]
    · rw [HG J.1 J.2.2.2.2.1.1, bnd_s, isKindM_out hx, bnd_s, if_pos rfl]
theorem op_lacks {n : Nat} {h : Hp} (hn : n ≤ 10000) (hI : Inv n h) (x : Int32) : ∃ r h1 h2, f_X6_lacks 0 x h = some (r, h1) ∧ f_X7_lacks 99 x h1 = some (r, h2) ∧ Inv (n + 1) h2 := by
  obtain ⟨A, y, sh, c, z, rfl, hA, J⟩ := hI.jn
  have hV := hA.2.2.2.1
  unfold f_X6_lacks f_X7_lacks
  rcases i_cases x 5 (by omega) with ⟨r, hr, rfl⟩ | hx
  · obtain ⟨c2, e2, f2, b2⟩ := takeAll_eq J.1 J.2.1 J.2.2.2.1.2.2.2.2.2.2.1 hV
    have J2 : Jn n A y sh c2 z := J.cc hA (Kp.of (fun a q => f2 a (by omega)))
    obtain ⟨y3, sh3, c3, z3, e3, J3, h80, -⟩ := longest_eq (b := bW (asV A)) hA hn J2 (bW_sum hV) b2
    have hu : sum5 (bUp (bW (asV A)) r 0) 5 < 12 := by
      have h1 := sum5_up (b := bW (asV A)) (r := r) (v := 0) hr
      have h2 := bW_sum hV
      omega
    have J4 : Jn n A y3 sh3 (u2 c3 80 r 0) z3 := J3.cc hA (Kp.s2 _ _ _ (by omega))
    have b4 : ∀ k, k < 5 → u2 c3 80 r 0 80 k = nI (bUp (bW (asV A)) r 0 k) := by
      intro k hk
      unfold bUp
      by_cases e : k = r
      · rw [if_pos e, e, u2_same]
        rfl
      · rw [if_neg e, u2_ne _ _ (Or.inr e), h80]
        exact b2 k hk
    obtain ⟨y5, sh5, c5, z5, e5, J5, -⟩ := longest_eq hA hn J4 hu b4
    obtain ⟨c6, e6, f6, b6⟩ := counts_eq J5.1 J5.2.2.2.2.1 J5.2.2.2.2.2 hV
    have J6 : Jn n A y5 sh5 c6 z5 := J5.cc hA (Kp.of (fun a q => f6 a (by omega)))
    obtain ⟨T7, c7, e7, f7, -⟩ := mostOf_eq (b := bW (asV A)) hA J6 (bW_sum hV) b6
    have J7 : Jn n A y5 (shT sh5 T7) c7 z5 := (J6.tab T7).cc hA (Kp.of (fun a q => f7 a (by omega)))
    have J8 : Jn n A y5 (shT sh5 T7) (u2 c7 111 r 0) z5 := J7.cc hA (Kp.s2 _ _ _ (by omega))
    have b8 : ∀ k, k < 5 → u2 c7 111 r 0 111 k = nI (bUp (bW (asV A)) r 0 k) := by
      intro k hk
      unfold bUp
      by_cases e : k = r
      · rw [if_pos e, e, u2_same]
        rfl
      · rw [if_neg e, u2_ne _ _ (Or.inr e), f7 111 (by omega)]
        exact b6 k hk
    obtain ⟨T9, c9, e9, f9, -⟩ := mostOf_eq hA J8 hu b8
    have J9 : Jn n A y5 (shT (shT sh5 T7) T9) c9 z5 := (J8.tab T9).cc hA (Kp.of (fun a q => f9 a (by omega)))
    refine ⟨lgs A (bW (asV A)) - lgs A (bUp (bW (asV A)) r 0), HH sh5 c5 z5, _, ?_, ?_, J9.inv hA⟩
    · rw [HG J.1 J.2.1.1, bnd_s, kind_in hr, bnd_s, if_neg i10, HR (k := 11) J.1 J.2.1.1 rfl, bnd_s, HR (k := 4) J.1 J.2.1.1 rfl, bnd_s, e2, bnd_s, HR (k := 11) J.1 J.2.1.1 rfl, bnd_s, HR (k := 4) J.1 J.2.1.1 rfl, bnd_s, e3, bnd2_s, HR (k := 11) J3.1 J3.2.1.1 rfl, bnd_s, dropKind_eq J3.1 J3.2.1 hr, bnd_s, HR (k := 11) J3.1 J3.2.1.1 rfl, bnd_s, HR (k := 4) J3.1 J3.2.1.1 rfl, bnd_s, e5, bnd2_s]
    · rw [HG J5.1 J5.2.2.2.2.1.1, bnd_s, isKindM_in hr, bnd_s, if_neg i10, e6, bnd_s, e7, bnd2_s, HR (k := 17) J7.1 J7.2.2.2.2.1.1 rfl, bnd_s, HS J7.1 J7.2.2.2.2.1.rb.2.1 hr (by omega), bnd_s, nrw0, e9, bnd2_s]
  · refine ⟨-1, HH sh c z, _, ?_, ?_, J.inv hA⟩
    · rw [HG J.1 J.2.1.1, bnd_s, kind_out hx, bnd_s, if_pos rfl]
    · rw [HG J.1 J.2.2.2.2.1.1, bnd_s, isKindM_out hx, bnd_s, if_pos rfl]
end ML
