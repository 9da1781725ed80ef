/-! ===== what a state of the system is ===== -/
/-- a mill: how many sacks; of sack i: kind 0, size 1, owner 2, hour 3, how it is 4; the hour; the last kind, the one ahead of it; the cost -/
abbrev MV : Type := Nat × (Nat → Nat → Nat) × Nat × Nat × Nat × Nat
abbrev mvN (V : MV) : Nat := V.1
abbrev mvD (V : MV) : Nat → Nat → Nat := V.2.1
abbrev mvH (V : MV) : Nat := V.2.2.1
abbrev mvL (V : MV) : Nat := V.2.2.2.1
abbrev mvA (V : MV) : Nat := V.2.2.2.2.1
abbrev mvC (V : MV) : Nat := V.2.2.2.2.2
/-- text and its length; law and price; the mill; what can be undone; what is kept; the queue -/
abbrev AS : Type := (Nat → Int32) × Nat × Nat × Nat × MV × (Nat → MV) × Nat × (Nat → MV) × Nat × (Nat → Nat) × Nat
abbrev asX (A : AS) : Nat → Int32 := A.1
abbrev asT (A : AS) : Nat := A.2.1
abbrev asL (A : AS) : Nat := A.2.2.1
abbrev asP (A : AS) : Nat := A.2.2.2.1
abbrev asV (A : AS) : MV := A.2.2.2.2.1
abbrev asU (A : AS) : Nat → MV := A.2.2.2.2.2.1
abbrev asD (A : AS) : Nat := A.2.2.2.2.2.2.1
abbrev asK (A : AS) : Nat → MV := A.2.2.2.2.2.2.2.1
abbrev asE (A : AS) : Nat := A.2.2.2.2.2.2.2.2.1
abbrev asQ (A : AS) : Nat → Nat := A.2.2.2.2.2.2.2.2.2.1
abbrev asN (A : AS) : Nat := A.2.2.2.2.2.2.2.2.2.2
/-- the sizes of what was poured, together -/
def pSum (D : Nat → Nat → Nat) : Nat → Nat
  | 0 => 0
  | n + 1 => pSum D n + if D n 4 = 1 then D n 1 else 0
def WFV (V : MV) : Prop := mvN V ≤ 10 ∧ (∀ i, i < mvN V → mvD V i 0 < 5 ∧ 1 ≤ mvD V i 1 ∧ mvD V i 1 ≤ 9 ∧ mvD V i 2 < 5 ∧ mvD V i 3 ≤ 99 ∧ mvD V i 4 ≤ 2) ∧ mvL V ≤ 5 ∧ mvA V ≤ 5 ∧ mvH V ≤ 99 + pSum (mvD V) (mvN V) ∧ True
def WFA (A : AS) : Prop := asT A ≤ 300 ∧ asL A ≤ 1 ∧ asP A ≤ 99 ∧ WFV (asV A) ∧ asD A ≤ 8 ∧ (∀ p, p < asD A → WFV (asU A p)) ∧ asE A ≤ 2 ∧ (∀ k, k < asE A → WFV (asK A k)) ∧ asN A ≤ 10 ∧ (∀ i, i < asN A → asQ A i < mvN (asV A) ∧ mvD (asV A) (asQ A i) 4 = 0) ∧ ∀ i j, i < asN A → j < asN A → asQ A i = asQ A j → i = j
/-! shapes -/
def isM (sh : Nat → Shp) (a : Nat) : Prop := sh a = sO 2 [none, none, none, some (a + 1), some (a + 2), some (a + 3), some (a + 4), some (a + 5), none, none, none, none] ∧ ∀ w, w < 5 → sh (a + 1 + w) = sA 0 10
/-- where mills lie -/
def mAd (a : Nat) : Prop := a = 4 ∨ a = 10 ∨ a = 66 ∨ a = 72 ∨ ∃ q, q < 8 ∧ a = 17 + 6 * q
/-- the rows that grow: answers, least, here, there: where each lies, how long it is -/
abbrev Dy : Type := (Nat × Nat) × (Nat × Nat) × (Nat × Nat) × (Nat × Nat)
def dyOK (sh : Nat → Shp) (y : Dy) : Prop := sh y.1.1 = sA 0 y.1.2 ∧ sh y.2.1.1 = sA 0 y.2.1.2 ∧ sh y.2.2.1.1 = sA 0 y.2.2.1.2 ∧ sh y.2.2.2.1 = sA 0 y.2.2.2.2 ∧
  (y.1.1 = 83 ∨ 116 ≤ y.1.1) ∧ (y.2.1.1 = 90 ∨ 116 ≤ y.2.1.1) ∧ (y.2.2.1.1 = 91 ∨ 116 ≤ y.2.2.1.1) ∧ (y.2.2.2.1 = 92 ∨ 116 ≤ y.2.2.2.1) ∧
  y.1.1 ≠ y.2.1.1 ∧ y.1.1 ≠ y.2.2.1.1 ∧ y.1.1 ≠ y.2.2.2.1 ∧ y.2.1.1 ≠ y.2.2.1.1 ∧ y.2.1.1 ≠ y.2.2.2.1 ∧ y.2.2.1.1 ≠ y.2.2.2.1 ∧
  y.1.2 ≤ 24000 ∧ y.2.1.2 ≤ 73728 ∧ y.2.2.1.2 ≤ 2048 ∧ y.2.2.2.2 ≤ 2048
def SC (sh : Nat → Shp) (y : Dy) : Prop :=
  sh 0 = sO 6 [some 1, none, some 2, some 4, some 10, some 16, none, some 65, none, some 78, none, some 79, some 84, some 93, some 97] ∧
  sh 1 = sA 1 300 ∧ sh 2 = sO 4 [some 3, none] ∧ sh 3 = sA 0 4 ∧ (∀ a, mAd a → isM sh a) ∧
  sh 65 = sC (aR 2 (fun k => if k = 0 then some 66 else if k = 1 then some 72 else none)) ∧ sh 78 = sA 0 10 ∧
  sh 79 = sO 0 [some 80, some 81, some 82, none, some y.1.1] ∧ sh 80 = sA 0 5 ∧ sh 81 = sA 0 5 ∧ sh 82 = sA 0 5 ∧
  sh 84 = sO 1 [some 85, some 86, some 87, some 88, none, none, some 89, none, some y.2.1.1, some y.2.2.1.1, some y.2.2.2.1, none, none] ∧ sh 85 = sA 0 10 ∧ sh 86 = sA 0 10 ∧ sh 87 = sA 0 10 ∧ sh 88 = sA 0 10 ∧ sh 89 = sA 0 10 ∧
  sh 93 = sO 3 [some 94, some 95, some 96, none] ∧ sh 94 = sA 2 25 ∧ sh 95 = sA 0 5 ∧ sh 96 = sA 0 5 ∧ sh 97 = sO 5 [none, some 98, none, none, none] ∧ sh 98 = sA 0 5 ∧ dyOK sh y
def mLen (j : Nat) : Nat := match j with
  | 0 => 300
  | 1 => 4
  | 2 => 2
  | 3 => 32
  | 4 => 605
  | 5 => 10
  | 6 => 36864
  | 7 => 1024
  | 8 => 1024
  | 9 => 10
  | 10 => 5
  | 11 => 5
  | 12 => 5
  | 13 => 5
  | _ => 4
def SMo (sh : Nat → Shp) : Prop :=
  sh 99 = sO 7 [none, some 100, none, some 101, some 102, some 103, some 104, none, none, none, some 105, some 106, some 107, some 108, some 109, none, some 110, some 111, some 112, some 113, some 114, some 115, none, none] ∧
  sh 100 = sA 1 300 ∧ sh 101 = sA 0 4 ∧ sh 102 = sA 0 2 ∧ sh 103 = sA 0 32 ∧ sh 104 = sA 0 605 ∧ sh 105 = sA 0 10 ∧ sh 106 = sA 0 36864 ∧ sh 107 = sA 0 1024 ∧ sh 108 = sA 0 1024 ∧ sh 109 = sA 0 10 ∧ sh 110 = sA 0 5 ∧ sh 111 = sA 0 5 ∧ sh 112 = sA 0 5 ∧ sh 113 = sA 0 5 ∧ sh 114 = sA 0 4 ∧ ∃ Tb, sh 115 = sC (aL 14400 Tb)
/-! the room used: two cells and ten slots a call, and the rows that grow -/
def dySum (y : Dy) : Nat := y.1.2 + y.2.1.2 + y.2.2.1.2 + y.2.2.2.2
def Bud (n : Nat) (y : Dy) (z : Nat × Nat) : Prop := 116 ≤ z.1 ∧ z.1 ≤ 116 + 2 * n + dySum y ∧ z.2 ≤ 100000 + 10 * n + 2 * dySum y
/-! contents -/
def CM (c : Nat → Nat → Int32) (a law price : Nat) (V : MV) : Prop :=
  c a 0 = nI law ∧ c a 1 = nI price ∧ c a 2 = nI (mvN V) ∧ (∀ i, i < mvN V → ∀ w, w < 5 → c (a + 1 + w) i = nI (mvD V i w)) ∧ c a 8 = nI (mvH V) ∧ c a 9 = nI (mvL V) ∧ c a 10 = nI (if law = 1 then mvA V else 5) ∧ c a 11 = nI (mvC V)
def SlM (s : Nat → Int32) (q : Nat) (V : MV) : Prop :=
  (∀ i, i < mvN V → ∀ w, w < 5 → s (55 * q + 5 * i + w) = nI (mvD V i w)) ∧ s (55 * q + 50) = nI (mvN V) ∧ s (55 * q + 51) = nI (mvH V) ∧ s (55 * q + 52) = nI (mvL V) ∧ s (55 * q + 53) = nI (mvA V) ∧ s (55 * q + 54) = nI (mvC V)
/-- the row of what can be undone -/
def pRow (σ : Nat → Nat) : Nat → Option Nat := fun p => if p < 8 then some (17 + 6 * σ p) else none
theorem pRow_at {σ : Nat → Nat} {p : Nat} (h : p < 8) : pRow σ p = some (17 + 6 * σ p) := if_pos h
def ClsR (A : AS) (sh : Nat → Shp) (c : Nat → Nat → Int32) : Prop :=
  c 1 = asX A ∧ c 0 1 = nI (asT A) ∧ c 0 6 = nI (asD A) ∧ c 0 8 = nI (asE A) ∧ c 0 10 = nI (asN A) ∧ (∀ i, i < asN A → c 78 i = nI (asQ A i)) ∧ CM c 10 (asL A) (asP A) (asV A) ∧
  (∃ σ : Nat → Nat, sh 16 = sC (aR 8 (pRow σ)) ∧ (∀ p, p < 8 → σ p < 8) ∧ (∀ p q, p < 8 → q < 8 → σ p = σ q → p = q) ∧ ∀ p, p < asD A → CM c (17 + 6 * σ p) (asL A) (asP A) (asU A p)) ∧
  ∀ k, k < asE A → CM c (66 + 6 * k) (asL A) (asP A) (asK A k)
def ModR (A : AS) (c : Nat → Nat → Int32) : Prop :=
  c 100 = asX A ∧ c 99 0 = nI (asT A) ∧ c 99 8 = nI (asD A) ∧ c 99 7 = nI (asE A) ∧ c 99 9 = nI (asN A) ∧ (∀ i, i < asN A → c 105 i = nI (asQ A i)) ∧ c 101 0 = nI (asL A) ∧ c 101 1 = nI (asP A) ∧
  SlM (c 104) 0 (asV A) ∧ (∀ k, k < asE A → SlM (c 104) (1 + k) (asK A k)) ∧ ∀ p, p < asD A → SlM (c 104) (3 + p) (asU A p)
/-- the class's own part of a heap, behind n calls -/
def CI (n : Nat) (A : AS) (sh : Nat → Shp) (c : Nat → Nat → Int32) (z : Nat × Nat) : Prop := ∃ y, Wz sh z ∧ SC sh y ∧ Bud n y z ∧ ClsR A sh c
/-- the reference's -/
def MI (A : AS) (sh : Nat → Shp) (c : Nat → Nat → Int32) : Prop := SMo sh ∧ ModR A c
def Inv (n : Nat) (h : Hp) : Prop := ∃ A sh c z, h = HH sh c z ∧ WFA A ∧ CI n A sh c z ∧ MI A sh c
/-- the reference's cells are as they were -/
def FrM (sh : Nat → Shp) (c : Nat → Nat → Int32) (sh' : Nat → Shp) (c' : Nat → Nat → Int32) : Prop := ∀ b, 99 ≤ b → b < 116 → sh' b = sh b ∧ c' b = c b
/-- the class's cells are as they were -/
def FrC (sh : Nat → Shp) (c : Nat → Nat → Int32) (sh' : Nat → Shp) (c' : Nat → Nat → Int32) : Prop := ∀ b, b < 99 ∨ 116 ≤ b → sh' b = sh b ∧ c' b = c b
theorem SMo.kept {sh sh' : Nat → Shp} {c c' : Nat → Nat → Int32} (h : SMo sh) (f : FrM sh c sh' c') : SMo sh' := by
  obtain ⟨h0, h1, h2, h3, h4, h5, h6, h7, h8, h9, h10, h11, h12, h13, h14, h15, Tb, h16⟩ := h
  refine ⟨?_, ?_, ?_, ?_, ?_, ?_, ?_, ?_, ?_, ?_, ?_, ?_, ?_, ?_, ?_, ?_, Tb, ?_⟩
  · rw [(f 99 (by omega) (by omega)).1]; exact h0
  · rw [(f 100 (by omega) (by omega)).1]; exact h1
  · rw [(f 101 (by omega) (by omega)).1]; exact h2
  · rw [(f 102 (by omega) (by omega)).1]; exact h3
  · rw [(f 103 (by omega) (by omega)).1]; exact h4
  · rw [(f 104 (by omega) (by omega)).1]; exact h5
  · rw [(f 105 (by omega) (by omega)).1]; exact h6
  · rw [(f 106 (by omega) (by omega)).1]; exact h7
  · rw [(f 107 (by omega) (by omega)).1]; exact h8
  · rw [(f 108 (by omega) (by omega)).1]; exact h9
  · rw [(f 109 (by omega) (by omega)).1]; exact h10
  · rw [(f 110 (by omega) (by omega)).1]; exact h11
  · rw [(f 111 (by omega) (by omega)).1]; exact h12
  · rw [(f 112 (by omega) (by omega)).1]; exact h13
  · rw [(f 113 (by omega) (by omega)).1]; exact h14
  · rw [(f 114 (by omega) (by omega)).1]; exact h15
  · rw [(f 115 (by omega) (by omega)).1]; exact h16
theorem ModR.kept {A : AS} {sh sh' : Nat → Shp} {c c' : Nat → Nat → Int32} (h : ModR A c) (f : FrM sh c sh' c') : ModR A c' := by
  have e97 := (f 99 (by omega) (by omega)).2
  have e98 := (f 100 (by omega) (by omega)).2
  have e99 := (f 101 (by omega) (by omega)).2
  have e102 := (f 104 (by omega) (by omega)).2
  have e103 := (f 105 (by omega) (by omega)).2
  unfold ModR at h ⊢
  rw [e97, e98, e99, e102, e103]
  exact h
theorem MI.kept {A : AS} {sh sh' : Nat → Shp} {c c' : Nat → Nat → Int32} (h : MI A sh c) (f : FrM sh c sh' c') : MI A sh' c' := ⟨h.1.kept f, h.2.kept f⟩
theorem isM.kept {sh sh' : Nat → Shp} {a : Nat} (h : isM sh a) (f : ∀ b, a ≤ b → b < a + 6 → sh' b = sh b) : isM sh' a := by
  refine ⟨by rw [f a (by omega) (by omega)]; exact h.1, fun w hw => ?_⟩
  rw [f (a + 1 + w) (by omega) (by omega)]
  exact h.2 w hw
theorem mAd.lt {a : Nat} (h : mAd a) : 4 ≤ a ∧ a + 6 ≤ 78 := by
  rcases h with h | h | h | h | ⟨q, h1, h2⟩ <;> omega
theorem CM.kept {c c' : Nat → Nat → Int32} {a law price : Nat} {V : MV} (h : CM c a law price V) (f : ∀ b, a ≤ b → b < a + 6 → c' b = c b) : CM c' a law price V := by
  obtain ⟨h1, h2, h3, h4, h5⟩ := h
  have e := f a (by omega) (by omega)
  refine ⟨by rw [e]; exact h1, by rw [e]; exact h2, by rw [e]; exact h3, fun i hi w hw => ?_, ?_⟩
  · rw [f (a + 1 + w) (by omega) (by omega)]
    exact h4 i hi w hw
  · rw [e]; exact h5
theorem CI.kept {n : Nat} {A : AS} {sh sh' : Nat → Shp} {c c' : Nat → Nat → Int32} {z : Nat × Nat} (hA : WFA A) (h : CI n A sh c z) (f : FrC sh c sh' c') (hW : Wz sh' z) : CI n A sh' c' z := by
  obtain ⟨y, hw, hs, hb, hc⟩ := h
  refine ⟨y, hW, ?_, hb, ?_⟩
  · obtain ⟨s0, s1, s2, s3, s4, s65, s78, s79, s80, s81, s82, s84, s85, s86, s87, s88, s89, s93, s94, s95, s96, s97, s98, hd⟩ := hs
    have g : ∀ b, b < 99 → sh' b = sh b := fun b hb => (f b (Or.inl hb)).1
    refine ⟨by rw [g 0 (by omega)]; exact s0, by rw [g 1 (by omega)]; exact s1, by rw [g 2 (by omega)]; exact s2, by rw [g 3 (by omega)]; exact s3, fun a ha => (s4 a ha).kept (fun b h1 h2 => g b (by have := ha.lt; omega)), by rw [g 65 (by omega)]; exact s65, by rw [g 78 (by omega)]; exact s78, by rw [g 79 (by omega)]; exact s79, by rw [g 80 (by omega)]; exact s80, by rw [g 81 (by omega)]; exact s81, by rw [g 82 (by omega)]; exact s82, by rw [g 84 (by omega)]; exact s84, by rw [g 85 (by omega)]; exact s85, by rw [g 86 (by omega)]; exact s86, by rw [g 87 (by omega)]; exact s87, by rw [g 88 (by omega)]; exact s88, by rw [g 89 (by omega)]; exact s89, by rw [g 93 (by omega)]; exact s93, by rw [g 94 (by omega)]; exact s94, by rw [g 95 (by omega)]; exact s95, by rw [g 96 (by omega)]; exact s96, by rw [g 97 (by omega)]; exact s97, by rw [g 98 (by omega)]; exact s98, ?_⟩
    obtain ⟨d1, d2, d3, d4, d5, d6, d7, d8, d9⟩ := hd
    exact ⟨by rw [(f _ (by omega)).1]; exact d1, by rw [(f _ (by omega)).1]; exact d2, by rw [(f _ (by omega)).1]; exact d3, by rw [(f _ (by omega)).1]; exact d4, d5, d6, d7, d8, d9⟩
  · obtain ⟨c1, c2, c3, c4, c5, c6, c7, ⟨σ, c8, c9, c10, c11⟩, c12⟩ := hc
    have g : ∀ b, b < 99 → c' b = c b := fun b hb => (f b (Or.inl hb)).2
    refine ⟨by rw [g 1 (by omega)]; exact c1, by rw [g 0 (by omega)]; exact c2, by rw [g 0 (by omega)]; exact c3, by rw [g 0 (by omega)]; exact c4, by rw [g 0 (by omega)]; exact c5, fun i hi => by rw [g 78 (by omega)]; exact c6 i hi, c7.kept (fun b h1 h2 => g b (by omega)), ⟨σ, by rw [(f 16 (by omega)).1]; exact c8, c9, c10, fun p hp => (c11 p hp).kept (fun b h1 h2 => g b ?_)⟩, fun k hk => (c12 k hk).kept (fun b h1 h2 => g b ?_)⟩
    · have := c9 p (by have := hA.2.2.2.2.1; omega); omega
    · have := hA.2.2.2.2.2.2.1; omega
theorem CI.more {n : Nat} {A : AS} {sh : Nat → Shp} {c : Nat → Nat → Int32} {z : Nat × Nat} (h : CI n A sh c z) : CI (n + 1) A sh c z := by
  obtain ⟨y, hw, hs, ⟨b1, b2, b3⟩, hc⟩ := h
  exact ⟨y, hw, hs, ⟨b1, by omega, by omega⟩, hc⟩
