/-! ===== pairs of owners: the pure side ===== -/
abbrev PS : Type := (Nat → Nat) × Nat
def itP (g : Nat → PS → PS) (a : Nat) : Nat → PS → PS
  | 0, s => s
  | n + 1, s => g (a + n) (itP g a n s)
def pUp (pr : Nat → Nat) (k v : Nat) (j : Nat) : Nat := if j = k then v else pr j
/-- the class's way through all ways: owner, pairs so far, with whom; the best and how many pairs (and one) it has -/
def chz (P : Nat → Nat → Bool) : Nat → Nat → Nat → (Nat → Nat) → PS → PS
  | 0, _, _, _, st => st
  | f + 1, o, k, pr, st =>
    if o < 5 then chz P f (o + 1) k pr (if pr o = 5 then itP (fun t st => if pr t = 5 ∧ P o t = true then chz P f (o + 1) (k + 1) (pUp (pUp pr o t) t o) st else st) (o + 1) (4 - o) st else st)
    else if k < st.2 then st else (pr, k + 1)
/-- figure k of a code -/
def dg6 (code k : Nat) : Nat := code / 6 ^ (4 - k) % 6
def okP (P : Nat → Nat → Bool) (code k : Nat) : Bool := decide (dg6 code k = 5) || (decide (dg6 code (dg6 code k) = k) && P k (dg6 code k))
def allP (P : Nat → Nat → Bool) (code : Nat) : Nat → Bool
  | 0 => true
  | k + 1 => allP P code k && okP P code k
def cnP (code : Nat) : Nat → Nat
  | 0 => 0
  | k + 1 => cnP code k + if dg6 code k < 5 then 1 else 0
def pvP (P : Nat → Nat → Bool) (code : Nat) : Nat := if allP P code 5 = true then cnP code 5 / 2 + 1 else 0
def stS (P : Nat → Nat → Bool) (s : PS) (code : Nat) : PS := if pvP P code ≤ s.2 then s else (dg6 code, pvP P code)
def scP (P : Nat → Nat → Bool) : Nat → PS
  | 0 => (fun _ => 0, 0)
  | n + 1 => stS P (scP P n) n
/-- which two can be a pair, by ten words -/
def pOf (b01 b02 b03 b04 b12 b13 b14 b23 b24 b34 : Bool) (i j : Nat) : Bool :=
  if i = 0 then (if j = 1 then b01 else if j = 2 then b02 else if j = 3 then b03 else if j = 4 then b04 else false)
  else if i = 1 then (if j = 0 then b01 else if j = 2 then b12 else if j = 3 then b13 else if j = 4 then b14 else false)
  else if i = 2 then (if j = 0 then b02 else if j = 1 then b12 else if j = 3 then b23 else if j = 4 then b24 else false)
  else if i = 3 then (if j = 0 then b03 else if j = 1 then b13 else if j = 2 then b23 else if j = 4 then b34 else false)
  else if i = 4 then (if j = 0 then b04 else if j = 1 then b14 else if j = 2 then b24 else if j = 3 then b34 else false)
  else false
/-- a code in which nobody is with himself, and each with whom he is -/
def invP (code : Nat) : Bool := allP (fun i j => decide (i ≠ j)) code 5
def lsI : List Nat := [1421, 1472, 1503, 1511, 3251, 3487, 3699, 3707, 4361, 4933, 5114, 5153, 5682, 6018, 6384, 6474, 6975, 6983, 7280, 7319, 7465, 7555, 7685, 7736, 7767, 7775]
def lsC (n : Nat) : Bool := !(invP n) || lsI.contains n
def upTo (f : Nat → Bool) : Nat → Bool
  | 0 => true
  | n + 1 => f n && upTo f n
theorem upTo_at {f : Nat → Bool} {k : Nat} : ∀ n, upTo f n = true → k < n → f k = true := by
  intro n
  induction n with
  | zero => intro _ h; omega
  | succ n ih =>
    intro h hk
    have h : (f n && upTo f n) = true := h
    rw [Bool.and_eq_true] at h
    by_cases e : k = n
    · rw [e]; exact h.1
    · exact ih h.2 (by omega)
theorem lsI_all5 : upTo (fun a => upTo (fun b => upTo (fun c => upTo (fun d => upTo (fun e => lsC (1296 * a + 216 * b + 36 * c + 6 * d + e)) 6) 6) 6) 6) 6 = true := by decide +kernel
theorem lsI_all {n : Nat} (h : n < 7776) (hi : invP n = true) : n ∈ lsI := by
  have e : 1296 * (n / 1296) + 216 * (n / 216 % 6) + 36 * (n / 36 % 6) + 6 * (n / 6 % 6) + n % 6 = n := by omega
  have h1 := upTo_at (k := n / 1296) 6 lsI_all5 (by omega)
  have h2 := upTo_at (k := n / 216 % 6) 6 h1 (by omega)
  have h3 := upTo_at (k := n / 36 % 6) 6 h2 (by omega)
  have h4 := upTo_at (k := n / 6 % 6) 6 h3 (by omega)
  have h5 := upTo_at (k := n % 6) 6 h4 (by omega)
  rw [e] at h5
  unfold lsC at h5
  rw [hi] at h5
  simpa using h5
theorem allP_inv {P : Nat → Nat → Bool} (hP : ∀ i, P i i = false) (code : Nat) : ∀ k, allP P code k = true → allP (fun i j => decide (i ≠ j)) code k = true := by
  intro k
  induction k with
  | zero => intro _; rfl
  | succ k ih =>
    intro h
    simp only [allP, Bool.and_eq_true] at h ⊢
    refine ⟨ih h.1, ?_⟩
    have h2 := h.2
    simp only [okP, Bool.or_eq_true, Bool.and_eq_true, decide_eq_true_eq] at h2 ⊢
    rcases h2 with q | ⟨q1, q2⟩
    · exact Or.inl q
    · refine Or.inr ⟨q1, fun q => ?_⟩
      rw [← q, hP] at q2
      cases q2
theorem pvP_out {P : Nat → Nat → Bool} (hP : ∀ i, P i i = false) {n : Nat} (h : n < 7776) (hn : n ∉ lsI) : pvP P n = 0 := by
  unfold pvP
  rw [if_neg]
  intro q
  exact hn (lsI_all h (allP_inv hP n 5 q))
theorem fl_in {l : List Nat} (hl : l.Pairwise (· < ·)) {n : Nat} (hn : n ∈ l) : l.filter (fun x => decide (x < n + 1)) = l.filter (fun x => decide (x < n)) ++ [n] := by
  induction l with
  | nil => cases hn
  | cons a l ih =>
    have h1 := List.pairwise_cons.mp hl
    rcases List.mem_cons.mp hn with rfl | h2
    · have e1 : l.filter (fun x => decide (x < n + 1)) = [] := List.filter_eq_nil_iff.mpr (fun x hx => by have := h1.1 x hx; simp; omega)
      have e2 : l.filter (fun x => decide (x < n)) = [] := List.filter_eq_nil_iff.mpr (fun x hx => by have := h1.1 x hx; simp; omega)
      rw [List.filter_cons_of_pos (by simp), List.filter_cons_of_neg (by simp), e1, e2]
      rfl
    · have h3 := h1.1 n h2
      rw [List.filter_cons_of_pos (by simp; omega), List.filter_cons_of_pos (by simp; exact h3), ih h1.2 h2]
      rfl
theorem fl_out {l : List Nat} {n : Nat} (hn : n ∉ l) : l.filter (fun x => decide (x < n + 1)) = l.filter (fun x => decide (x < n)) := by
  refine List.filter_congr (fun x hx => ?_)
  have : x ≠ n := fun e => hn (e ▸ hx)
  rw [decide_eq_decide]
  omega
theorem lsI_up : lsI.Pairwise (· < ·) := by decide
theorem lsI_lt : ∀ x, x ∈ lsI → x < 7776 := by decide
theorem scP_eq {P : Nat → Nat → Bool} (hP : ∀ i, P i i = false) : ∀ n, n ≤ 7776 → scP P n = (lsI.filter (fun x => decide (x < n))).foldl (stS P) (fun _ => 0, 0) := by
  intro n
  induction n with
  | zero =>
    intro _
    have e : lsI.filter (fun x => decide (x < 0)) = [] := List.filter_eq_nil_iff.mpr (fun x _ => by simp)
    rw [e]
    rfl
  | succ n ih =>
    intro h
    simp only [scP]
    rw [ih (by omega)]
    by_cases hn : n ∈ lsI
    · rw [fl_in lsI_up hn, List.foldl_append]
      rfl
    · rw [fl_out hn]
      generalize (lsI.filter (fun x => decide (x < n))).foldl (stS P) (fun _ => 0, 0) = s
      unfold stS
      rw [if_pos (by rw [pvP_out hP (by omega) hn]; exact Nat.zero_le _)]
def chk (P : Nat → Nat → Bool) : Bool :=
  let r := chz P 7 0 0 (fun _ => 5) (fun _ => 0, 0)
  let s := lsI.foldl (stS P) (fun _ => 0, 0)
  Nat.beq r.2 s.2 && (Nat.beq (r.1 0) (s.1 0) && (Nat.beq (r.1 1) (s.1 1) && (Nat.beq (r.1 2) (s.1 2) && (Nat.beq (r.1 3) (s.1 3) && (Nat.beq (r.1 4) (s.1 4) && Nat.blt 0 r.2)))))
theorem chk_all : ∀ b01 b02 b03 b04 b12 b13 b14 b23 b24 b34 : Bool, chk (pOf b01 b02 b03 b04 b12 b13 b14 b23 b24 b34) = true := by decide +kernel
theorem chz_sc (b01 b02 b03 b04 b12 b13 b14 b23 b24 b34 : Bool) : let P := pOf b01 b02 b03 b04 b12 b13 b14 b23 b24 b34
    (chz P 7 0 0 (fun _ => 5) (fun _ => 0, 0)).2 = (scP P 7776).2 ∧ (∀ j, j < 5 → (chz P 7 0 0 (fun _ => 5) (fun _ => 0, 0)).1 j = (scP P 7776).1 j) ∧ 0 < (scP P 7776).2 := by
  intro P
  have hP : ∀ i, P i i = false := by
    intro i
    show pOf b01 b02 b03 b04 b12 b13 b14 b23 b24 b34 i i = false
    unfold pOf
    by_cases h0 : i = 0
    · rw [if_pos h0, h0]; rfl
    · rw [if_neg h0]
      by_cases h1 : i = 1
      · rw [if_pos h1, h1]; rfl
      · rw [if_neg h1]
        by_cases h2 : i = 2
        · rw [if_pos h2, h2]; rfl
        · rw [if_neg h2]
          by_cases h3 : i = 3
          · rw [if_pos h3, h3]; rfl
          · rw [if_neg h3]
            by_cases h4 : i = 4
            · rw [if_pos h4, h4]; rfl
            · rw [if_neg h4]
  have hf : lsI.filter (fun x => decide (x < 7776)) = lsI := List.filter_eq_self.mpr (fun x hx => by simp; exact lsI_lt x hx)
  rw [scP_eq hP 7776 (Nat.le_refl _), hf]
  have h := chk_all b01 b02 b03 b04 b12 b13 b14 b23 b24 b34
  unfold chk at h
  simp only [Bool.and_eq_true] at h
  obtain ⟨h0, h1, h2, h3, h4, h5, h6⟩ := h
  have g0 := Nat.eq_of_beq_eq_true h0
  have g1 := Nat.eq_of_beq_eq_true h1
  have g2 := Nat.eq_of_beq_eq_true h2
  have g3 := Nat.eq_of_beq_eq_true h3
  have g4 := Nat.eq_of_beq_eq_true h4
  have g5 := Nat.eq_of_beq_eq_true h5
  have g6 := Nat.blt_eq.mp h6
  refine ⟨g0, fun j hj => ?_, by rw [← g0]; exact g6⟩
  rcases (show j = 0 ∨ j = 1 ∨ j = 2 ∨ j = 3 ∨ j = 4 by omega) with rfl | rfl | rfl | rfl | rfl
  · exact g1
  · exact g2
  · exact g3
  · exact g4
  · exact g5
