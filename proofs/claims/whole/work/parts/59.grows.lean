/-! ===== what an owner should grow ===== -/
def wH (D : Nat → Nat → Nat) (p : Nat) (i : Nat) : Nat := if D i 4 = 0 ∧ D i 2 = p then 1 else 0
theorem wH_le (D : Nat → Nat → Nat) (p i : Nat) : wH D p i ≤ 1 := by unfold wH; split <;> omega
section GR
variable {n : Nat} {A : AS} {y : Dy} {sh : Nat → Shp} {c c' : Nat → Nat → Int32} {z : Nat × Nat} {b : Nat → Nat}
theorem wSum_mono {w : Nat → Nat} {i j : Nat} (h : i ≤ j) : wSum w i ≤ wSum w j := by
  induction j with
  | zero => rw [show i = 0 by omega]; exact Nat.le_refl _
  | succ j ih =>
    rcases Nat.lt_or_ge i (j + 1) with g | g
    · have := ih (by omega)
      simp only [wSum]
      omega
    · rw [show i = j + 1 by omega]; exact Nat.le_refl _
theorem waitedFor_eq (W : Wz sh z) {a law price : Nat} {V : MV} (hM : isM sh a) (hc : CM c a law price V) (hV : WFV V) {p : Nat} (hp : p < 5) : f_X2_isWaitedFor a (nI p) (HH sh c z) = some (if 0 < wSum (wH (mvD V) p) (mvN V) then 1 else 0) := by
  unfold f_X2_isWaitedFor
  have hn := hV.1
  rw [HG W hM.1, bnd_s]
  refine wl1_fuel (fun i x => x = nI i ∧ wSum (wH (mvD V) p) (min i (mvN V)) = 0) 10 (by omega) (fun t => t = some (if 0 < wSum (wH (mvD V) p) (mvN V) then 1 else 0)) ?_ _ ⟨rfl, by rw [Nat.zero_min]; rfl⟩
  intro rec i x hi hx
  obtain ⟨rfl, h0⟩ := hx
  rcases Nat.lt_or_ge i 10 with h5 | h5
  · rw [if_neg (ten_ge h5)]
    simp only [jn0_s]
    rcases Nat.lt_or_ge i (mvN V) with q | q
    · have hd := hV.2.1 i q
      rw [show min i (mvN V) = i by omega] at h0
      rw [waits_in W hM hc hV q, bnd_s, HR (k := 5) W hM.1 rfl, bnd_s, HL W hM.row.2.2.1 h5 (by omega), bnd_s, (hc.at q).2.2.1]
      by_cases e : mvD V i 4 = 0
      · rw [if_pos e, if_neg i10]
        by_cases e2 : mvD V i 2 = p
        · refine Or.inr ?_
          rw [if_pos (by rw [e2]), rZp_1, if_pos]
          have h1 : wSum (wH (mvD V) p) (i + 1) ≤ wSum (wH (mvD V) p) (mvN V) := wSum_mono (by omega)
          have h2 : wH (mvD V) p i = 1 := by unfold wH; rw [if_pos ⟨e, e2⟩]
          simp only [wSum, h2] at h1
          omega
        · refine Or.inl ⟨h5, ?_⟩
          rw [if_neg (by rw [nI_eq (by omega) (by omega)]; exact e2), nI_1]
          refine ⟨_, ⟨rfl, ?_⟩, rfl⟩
          rw [show min (i + 1) (mvN V) = i + 1 by omega]
          simp only [wSum, h0]
          unfold wH
          rw [if_neg (fun r => e2 r.2)]
      · refine Or.inl ⟨h5, ?_⟩
        rw [if_neg e, if_pos rfl, nI_1]
        refine ⟨_, ⟨rfl, ?_⟩, rfl⟩
        rw [show min (i + 1) (mvN V) = i + 1 by omega]
        simp only [wSum, h0]
        unfold wH
        rw [if_neg (fun r => e r.1)]
    · refine Or.inl ⟨h5, ?_⟩
      rw [waits_out W hM hc (Or.inr (nI_le q (by omega))), bnd_s, if_pos rfl, nI_1]
      refine ⟨_, ⟨rfl, ?_⟩, rfl⟩
      rw [show min (i + 1) (mvN V) = min i (mvN V) by omega]
      exact h0
  · refine Or.inr ?_
    rw [show min i (mvN V) = mvN V by omega] at h0
    rw [if_pos (ten_le h5 (by omega)), h0, if_neg (by omega), rZp_0]
theorem hasMany_eq (W : Wz sh z) (hS : SMo sh) (hR : ModR A c) (hV : WFV (asV A)) {p : Nat} (hp : p < 5) : f_X7_hasMany 99 (nI p) (HH sh c z) = some (nI (wSum (wH (mvD (asV A)) p) (mvN (asV A)))) := by
  unfold f_X7_hasMany
  have hn := hV.1
  have h50 : c 104 50 = nI (mvN (asV A)) := hR.2.2.2.2.2.2.2.2.1.2.1
  rw [HG W hS.1, bnd_s]
  refine wl2_fuel (fun i x j => x = nI (wSum (wH (mvD (asV A)) p) i) ∧ j = nI i) (mvN (asV A)) (by omega) (fun t => t = some (nI (wSum (wH (mvD (asV A)) p) (mvN (asV A))))) ?_ _ _ ⟨rfl, rfl⟩
  intro rec i x j hi hx
  obtain ⟨rfl, rfl⟩ := hx
  rw [HR (k := 6) W hS.1 rfl, bnd_s, show (50 : Int32) = nI 50 from rfl, slotR W hS (by omega), bnd_s, h50]
  rcases Nat.lt_or_ge i (mvN (asV A)) with hl | hl
  · refine Or.inl ⟨hl, ?_⟩
    have hd := hV.2.1 i hl
    rw [if_neg (nI_ge hl (by omega)), isWaiting_in W hS hR hV hl, bnd_s]
    simp only [jn1_s, jn0_s, nm_s]
    rw [show (2 : Int32) = nI 2 from rfl, of_in W hS hR hV hl (by omega), bnd_s, show (0 : Int32) = nI 0 from rfl, show (1 : Int32) = nI 1 from rfl, nI_add, nI_add, nI_add]
    by_cases e : mvD (asV A) i 4 = 0
    · rw [if_pos e, if_neg (by decide)]
      by_cases e2 : mvD (asV A) i 2 = p
      · rw [if_pos (by rw [e2])]
        refine ⟨_, _, ⟨rfl, rfl⟩, ?_⟩
        simp only [wSum, wH]
        rw [if_pos ⟨e, e2⟩]
      · rw [if_neg (by rw [nI_eq (by omega) (by omega)]; exact e2)]
        refine ⟨_, _, ⟨rfl, rfl⟩, ?_⟩
        simp only [wSum, wH]
        rw [if_neg (fun r => e2 r.2)]
    · rw [if_neg e, if_pos rfl]
      refine ⟨_, _, ⟨rfl, rfl⟩, ?_⟩
      simp only [wSum, wH]
      rw [if_neg (fun r => e r.1)]
  · refine Or.inr ?_
    rw [if_pos (nI_le hl (by omega)), show i = mvN (asV A) by omega]
/-- the numbers of kinds, if all that one owner has were of kind r -/
def bG (V : MV) (p r : Nat) : Nat → Nat := kc (gG (mvD V) p r) (wW (mvD V)) (mvN V)
theorem bG_sum {V : MV} (hV : WFV V) {p r : Nat} (hr : r < 5) : sum5 (bG V p r) 5 < 12 := by
  have hg : ∀ i, i < mvN V → gG (mvD V) p r i < 5 := fun i hi => by have := (hV.2.1 i hi).1; unfold gG; split <;> omega
  have h1 := sum5_kc (g := gG (mvD V) p r) (w := wW (mvD V)) (mvN V) hg
  have h2 := wSum_le (w := wW (mvD V)) (wW_le _) (mvN V)
  have h3 := hV.1
  unfold bG
  omega
abbrev lgN (A : AS) (b : Nat → Nat) : Nat := DV false (asL A) b (stp b 5 - 1) (mvL (asV A)) (mvA (asV A))
theorem lgN_lt {A : AS} {b : Nat → Nat} (h : sum5 b 5 < 12) : lgN A b < 324 := by
  have h1 := DV_le (asL A) b (stp b 5 - 1) (mvL (asV A)) (mvA (asV A))
  have h2 := size_le h
  have h3 := stp_pos b 5
  unfold lgN
  omega
/-- the first greatest of the first values: where, and it -/
def gF (v : Nat → Nat) : Nat → Nat × Nat
  | 0 => (0, v 0)
  | i + 1 => if v i ≤ (gF v i).2 then gF v i else (i, v i)
theorem gF_lt {v : Nat → Nat} (h : ∀ i, i < 5 → v i < 324) : ∀ i, i ≤ 5 → (gF v i).1 < 5 ∧ (gF v i).2 < 324 := by
  intro i
  induction i with
  | zero => intro _; exact ⟨by show 0 < 5; omega, h 0 (by omega)⟩
  | succ i ih =>
    intro hi
    simp only [gF]
    split
    · exact ih (by omega)
    · exact ⟨by show i < 5; omega, h i (by omega)⟩
theorem growsC {n : Nat} (hA : WFA A) (hn : n ≤ 10000) (J : Jn n A y sh c z) {p : Nat} (hp : p < 5) (hw : 0 < wSum (wH (mvD (asV A)) p) (mvN (asV A))) : ∃ y' sh' c' z', f_X6_grows 0 (nI p) (HH sh c z) = some (nI (gF (fun r => lgN A (bG (asV A) p r)) 5).1, HH sh' c' z') ∧ Jn n A y' sh' c' z' := by
  have hV := hA.2.2.2.1
  have hlt : ∀ r, r < 5 → lgN A (bG (asV A) p r) < 324 := fun r hr => lgN_lt (bG_sum hV hr)
  generalize hv : (fun r => lgN A (bG (asV A) p r)) = v
  have hv' : ∀ r, lgN A (bG (asV A) p r) = v r := fun r => by rw [← hv]
  have hl : ∀ i, i < 5 → v i < 324 := fun i hi => by rw [← hv']; exact hlt i hi
  unfold f_X6_grows
  rw [HG J.1 J.2.1.1, bnd_s, owner_in hp, bnd_s, if_neg i10, HR (k := 4) J.1 J.2.1.1 rfl, bnd_s, waitedFor_eq J.1 J.2.1.m10 J.2.2.2.1.2.2.2.2.2.2.1 hV hp, if_pos hw, bnd_s, if_neg i10]
  refine wl4_fuel (fun i b g x h => x = nI i ∧ (i = 0 ∧ g = -1 ∨ 0 < i ∧ b = nI (gF v i).1 ∧ g = nI (gF v i).2) ∧ ∃ y' sh' c' z', h = HH sh' c' z' ∧ Jn n A y' sh' c' z') 5 (by omega) (fun t => ∃ y' sh' c' z', t = some (nI (gF v 5).1, HH sh' c' z') ∧ Jn n A y' sh' c' z') ?_ _ _ _ _ ⟨rfl, Or.inl ⟨rfl, rfl⟩, y, sh, c, z, rfl, J⟩
  intro rec i b1 g1 x h hi hx
  obtain ⟨rfl, hg, y1, sh1, c1, z1, rfl, J1⟩ := hx
  rcases Nat.lt_or_ge i 5 with h5 | h5
  · refine Or.inl ⟨h5, ?_⟩
    obtain ⟨c2, e2, f2, b2⟩ := takeGrown_eq J1.1 J1.2.1 J1.2.2.2.1.2.2.2.2.2.2.1 hV hp h5
    have J2 : Jn n A y1 sh1 c2 z1 := J1.cc hA (Kp.of (fun a q => f2 a (by omega)))
    obtain ⟨y3, sh3, c3, z3, e3, J3, -⟩ := longest_eq (b := bG (asV A) p i) hA hn J2 (bG_sum hV h5) b2
    have e3' : f_X0_longest 79 10 (HH sh1 c2 z1) = some (nI (lgN A (bG (asV A) p i)), HH sh3 c3 z3) := e3
    rw [hv'] at e3'
    rw [if_neg (five_ge h5), HR (k := 11) J1.1 J1.2.1.1 rfl, bnd_s, HR (k := 4) J1.1 J1.2.1.1 rfl, bnd_s, e2, bnd_s, HR (k := 11) J2.1 J2.2.1.1 rfl, bnd_s, HR (k := 4) J2.1 J2.2.1.1 rfl, bnd_s, e3', bnd2_s, nI_1]
    simp only [jn2_s]
    have hli := hl i h5
    rcases hg with ⟨rfl, rfl⟩ | ⟨h0, rfl, rfl⟩
    · have hneg : ¬ nI (v 0) ≤ -1 := by
        rw [i_le, nI_T _ (by omega), show (-1 : Int32).toInt = -1 from rfl]
        omega
      rw [if_neg hneg]
      refine ⟨_, _, _, _, ⟨rfl, Or.inr ⟨by omega, ?_, ?_⟩, y3, sh3, c3, z3, rfl, J3⟩, rfl⟩
      · simp [gF]
      · simp [gF]
    · have hgl := (gF_lt hl i (by omega)).2
      by_cases e : v i ≤ (gF v i).2
      · rw [if_pos (nI_le e (by omega))]
        refine ⟨_, _, _, _, ⟨rfl, Or.inr ⟨by omega, ?_, ?_⟩, y3, sh3, c3, z3, rfl, J3⟩, rfl⟩
        · simp only [gF]; rw [if_pos e]
        · simp only [gF]; rw [if_pos e]
      · rw [if_neg (nI_ge (by omega) (by omega))]
        refine ⟨_, _, _, _, ⟨rfl, Or.inr ⟨by omega, ?_, ?_⟩, y3, sh3, c3, z3, rfl, J3⟩, rfl⟩
        · simp only [gF]; rw [if_neg e]
        · simp only [gF]; rw [if_neg e]
  · refine Or.inr ?_
    rw [if_pos (five_le h5 (by omega))]
    rcases hg with ⟨h0, _⟩ | ⟨h0, rfl, rfl⟩
    · omega
    · rw [show i = 5 by omega]
      exact ⟨y1, sh1, c1, z1, rfl, J1⟩
theorem growsM {n : Nat} (hA : WFA A) (J : Jn n A y sh c z) {p : Nat} (hp : p < 5) (hw : 0 < wSum (wH (mvD (asV A)) p) (mvN (asV A))) : ∃ sh' c', f_X7_grows 99 (nI p) (HH sh c z) = some (nI (gF (fun r => lgN A (bG (asV A) p r)) 5).1, HH sh' c' z) ∧ Jn n A y sh' c' z := by
  have hV := hA.2.2.2.1
  have hlt : ∀ r, r < 5 → lgN A (bG (asV A) p r) < 324 := fun r hr => lgN_lt (bG_sum hV hr)
  generalize hv : (fun r => lgN A (bG (asV A) p r)) = v
  have hv' : ∀ r, lgN A (bG (asV A) p r) = v r := fun r => by rw [← hv]
  have hl : ∀ i, i < 5 → v i < 324 := fun i hi => by rw [← hv']; exact hlt i hi
  have hwl := wSum_le (w := wH (mvD (asV A)) p) (wH_le _ _) (mvN (asV A))
  have hn10 := hV.1
  unfold f_X7_grows
  rw [HG J.1 J.2.2.2.2.1.1, bnd_s, isKindM_in hp, bnd_s, if_neg i10, hasMany_eq J.1 J.2.2.2.2.1 J.2.2.2.2.2 hV hp, bnd_s, if_neg (nI_ne0 hw (by omega))]
  refine wl4_fuel (fun i b g x h => x = nI i ∧ (i = 0 ∧ g = -1 ∨ 0 < i ∧ b = nI (gF v i).1 ∧ g = nI (gF v i).2) ∧ ∃ sh' c', h = HH sh' c' z ∧ Jn n A y sh' c' z) 5 (by omega) (fun t => ∃ sh' c', t = some (nI (gF v 5).1, HH sh' c' z) ∧ Jn n A y sh' c' z) ?_ _ _ _ _ ⟨rfl, Or.inl ⟨rfl, rfl⟩, sh, c, rfl, J⟩
  intro rec i b1 g1 x h hi hx
  obtain ⟨rfl, hg, sh1, c1, rfl, J1⟩ := hx
  rcases Nat.lt_or_ge i 5 with h5 | h5
  · refine Or.inl ⟨h5, ?_⟩
    rw [if_neg (five_ge h5)]
    have W := J1.1
    have hS := J1.2.2.2.2.1
    obtain ⟨c2, e2, f2, z2⟩ := zero_loop (c := c1) (ρ := Int32 × Hp) W hS _
    rw [e2]
    clear e2
    have hR2 : ModR A c2 := J1.2.2.2.2.2.kp (Kp.of (fun a q => f2 a (by omega)))
    have hgk : ∀ j, j < mvN (asV A) → gG (mvD (asV A)) p i j < 5 := fun j hj => by have := (hV.2.1 j hj).1; unfold gG; split <;> omega
    obtain ⟨c3, e3, f3, b3⟩ := base_loop (c := c2) (ρ := Int32 × Hp) W hS hR2 hV (gG (mvD (asV A)) p i) (wW (mvD (asV A))) hgk z2 _ (fun r17 i15 h16 => bnd (gR h16 99 7 17) fun a29 => bnd (f_X7_of 99 i15 (2 : Int32) h16) fun x30 => jn1 (fun (w31 : Int32) => bnd (ldI 0 h16 a29 w31) fun x33 => bnd (f_X7_isWaiting 99 i15 h16) fun x34 => jn1 (fun (w35 : Int32) => bnd (stI 0 h16 a29 w31 (x33 + w35)) fun h37 => r17 (i15 + (1 : Int32)) h37) fun k36 => if x34 = 0 then (k36 (0 : Int32)) else (k36 (1 : Int32))) fun k32 => if x30 = nI p then (k32 (nI i)) else (bnd (f_X7_of 99 i15 (0 : Int32) h16) fun x40 => k32 x40)) (by
      intro rec2 j c4 hj f4
      have hR4 : ModR A c4 := hR2.kp (Kp.of (fun a q => f4 a (by omega)))
      have hd := hV.2.1 j hj
      have hgj := hgk j hj
      have hin : ∀ k, k < 5 → k = gG (mvD (asV A)) p i j → (bnd (ldI 0 (HH sh1 c4 z) 111 (nI k)) fun x33 => bnd (f_X7_isWaiting 99 (nI j) (HH sh1 c4 z)) fun x34 => if x34 = 0 then bnd (stI 0 (HH sh1 c4 z) 111 (nI k) (x33 + 0)) fun h37 => rec2 (nI j + 1) h37 else bnd (stI 0 (HH sh1 c4 z) 111 (nI k) (x33 + 1)) fun h37 => rec2 (nI j + 1) h37) = rec2 (nI (j + 1)) (HH sh1 (u2 c4 111 (gG (mvD (asV A)) p i j) (c4 111 (gG (mvD (asV A)) p i j) + nI (wW (mvD (asV A)) j))) z) := by
        intro k hk ek
        subst ek
        rw [HL W hS.rb.2.1 hk (by omega), bnd_s, isWaiting_in W hS hR4 hV hj, bnd_s]
        by_cases e : mvD (asV A) j 4 = 0
        · rw [if_pos e, if_neg i10, HS W hS.rb.2.1 hk (by omega), bnd_s, nI_1]
          unfold wW
          rw [if_pos e]
          rfl
        · rw [if_neg e, if_pos rfl, HS W hS.rb.2.1 hk (by omega), bnd_s, nI_1]
          unfold wW
          rw [if_neg e]
          rfl
      show (bnd (gR (HH sh1 c4 z) 99 7 17) fun a29 => bnd (f_X7_of 99 (nI j) (2 : Int32) (HH sh1 c4 z)) fun x30 => _) = _
      simp only [jn1_s]
      rw [HR (k := 17) W hS.1 rfl, bnd_s, show f_X7_of 99 (nI j) 2 (HH sh1 c4 z) = some (nI (mvD (asV A) j 2)) from of_in (w := 2) W hS hR4 hV hj (by omega), bnd_s, show f_X7_of 99 (nI j) 0 (HH sh1 c4 z) = some (nI (mvD (asV A) j 0)) from of_in (w := 0) W hS hR4 hV hj (by omega), bnd_s]
      by_cases e2 : mvD (asV A) j 2 = p
      · rw [if_pos (by rw [e2])]
        exact hin i h5 (by unfold gG; rw [if_pos e2])
      · rw [if_neg (by rw [nI_eq (by omega) (by omega)]; exact e2)]
        exact hin _ hd.1 (by unfold gG; rw [if_neg e2]))
    rw [e3]
    clear e3
    have J3 : Jn n A y sh1 c3 z := J1.cc hA (Kp.of (fun a q => by rw [f3 a (by omega), f2 a (by omega)]))
    obtain ⟨T4, c4, e4, f4, -⟩ := mostOf_eq (b := bG (asV A) p i) hA J3 (bG_sum hV h5) b3
    have J4 : Jn n A y (shT sh1 T4) c4 z := (J3.tab T4).cc hA (Kp.of (fun a q => f4 a (by omega)))
    have e4' : f_X7_mostOf 99 (HH sh1 c3 z) = some (nI (lgN A (bG (asV A) p i)), HH (shT sh1 T4) c4 z) := e4
    rw [hv'] at e4'
    rw [e4', bnd2_s, nI_1]
    simp only [jn1_s]
    have hli := hl i h5
    rcases hg with ⟨rfl, rfl⟩ | ⟨h0, rfl, rfl⟩
    · have hneg : ¬ nI (v 0) ≤ -1 := by
        rw [i_le, nI_T _ (by omega), show (-1 : Int32).toInt = -1 from rfl]
        omega
      rw [if_neg hneg, if_neg hneg]
      refine ⟨_, _, _, _, ⟨rfl, Or.inr ⟨by omega, ?_, ?_⟩, _, _, rfl, J4⟩, rfl⟩
      · simp [gF]
      · simp [gF]
    · have hgl := (gF_lt hl i (by omega)).2
      by_cases e : v i ≤ (gF v i).2
      · have q := nI_le e (show (gF v i).2 < 2 ^ 31 by omega)
        rw [if_pos q, if_pos q]
        refine ⟨_, _, _, _, ⟨rfl, Or.inr ⟨by omega, ?_, ?_⟩, _, _, rfl, J4⟩, rfl⟩
        · simp only [gF]; rw [if_pos e]
        · simp only [gF]; rw [if_pos e]
      · have q := nI_ge (show (gF v i).2 < v i by omega) (by omega)
        rw [if_neg q, if_neg q]
        refine ⟨_, _, _, _, ⟨rfl, Or.inr ⟨by omega, ?_, ?_⟩, _, _, rfl, J4⟩, rfl⟩
        · simp only [gF]; rw [if_neg e]
        · simp only [gF]; rw [if_neg e]
  · refine Or.inr ?_
    rw [if_pos (five_le h5 (by omega))]
    rcases hg with ⟨h0, _⟩ | ⟨h0, rfl, rfl⟩
    · omega
    · rw [show i = 5 by omega]
      exact ⟨sh1, c1, rfl, J1⟩
theorem op_grows {n : Nat} {h : Hp} (hn : n ≤ 10000) (hI : Inv n h) (x : Int32) : ∃ r h1 h2, f_X6_grows 0 x h = some (r, h1) ∧ f_X7_grows 99 x h1 = some (r, h2) ∧ Inv (n + 1) h2 := by
  obtain ⟨A, y, sh, c, z, rfl, hA, J⟩ := hI.jn
  have hV := hA.2.2.2.1
  rcases i_cases x 5 (by omega) with ⟨p, hp, rfl⟩ | hx
  · by_cases hw : 0 < wSum (wH (mvD (asV A)) p) (mvN (asV A))
    · obtain ⟨y1, sh1, c1, z1, e1, J1⟩ := growsC hA hn J hp hw
      obtain ⟨sh2, c2, e2, J2⟩ := growsM hA J1 hp hw
      exact ⟨_, _, _, e1, e2, J2.inv hA⟩
    · refine ⟨-4, HH sh c z, _, ?_, ?_, J.inv hA⟩
      · unfold f_X6_grows
        rw [HG J.1 J.2.1.1, bnd_s, owner_in hp, bnd_s, if_neg i10, HR (k := 4) J.1 J.2.1.1 rfl, bnd_s, waitedFor_eq J.1 J.2.1.m10 J.2.2.2.1.2.2.2.2.2.2.1 hV hp, if_neg hw, bnd_s, if_pos rfl]
      · unfold f_X7_grows
        rw [HG J.1 J.2.2.2.2.1.1, bnd_s, isKindM_in hp, bnd_s, if_neg i10, hasMany_eq J.1 J.2.2.2.2.1 J.2.2.2.2.2 hV hp, bnd_s, if_pos (by rw [show wSum (wH (mvD (asV A)) p) (mvN (asV A)) = 0 by omega]; rfl)]
  · refine ⟨-1, HH sh c z, _, ?_, ?_, J.inv hA⟩
    · unfold f_X6_grows
      rw [HG J.1 J.2.1.1, bnd_s, owner_out hx, bnd_s, if_pos rfl]
    · unfold f_X7_grows
      rw [HG J.1 J.2.2.2.2.1.1, bnd_s, isKindM_out hx, bnd_s, if_pos rfl]
end GR
