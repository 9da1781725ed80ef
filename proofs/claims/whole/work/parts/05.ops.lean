/-! ===== what the instructions do to the abstract heap ===== -/
def bnd {α β : Type} (o : Option α) (k : α → Option β) : Option β := match o with
  | some a => k a
  | none => none
def bnd2 {α γ β : Type} (o : Option (α × γ)) (k : α → γ → Option β) : Option β := match o with
  | some a => k a.1 a.2
  | none => none
def hset (h : Hp) (a : Nat) (e : HE) : Hp := (fun b => if b = a then e else h.1 b, h.2)
def hnew (h : Hp) (e : HE) (n : Nat) : Hp := (fun b => if b = h.2.1 then e else h.1 b, h.2.1 + 1, h.2.2 + n)
def gO (h : Hp) (a ci : Nat) : Option (List Value) := if a < h.2.1 then (match h.1 a with
  | .inr (c, fs) => if c = ci then some fs else none
  | _ => none) else none
def isI (v : Option Value) : Option Int32 := match v with
  | some (.int x) => some x
  | _ => none
def isR (v : Option Value) : Option Nat := match v with
  | some (.ref x) => some x
  | _ => none
def gI (h : Hp) (a ci k : Nat) : Option Int32 := bnd (gO h a ci) fun fs => isI fs[k]?
def gR (h : Hp) (a ci k : Nat) : Option Nat := bnd (gO h a ci) fun fs => isR fs[k]?
def pF (h : Hp) (a ci k : Nat) (v : Value) : Option Hp := bnd (gO h a ci) fun fs => if k < fs.length then some (hset h a (.inr (ci, fs.set k v))) else none
def arI (h : Hp) (a t : Nat) : Option (Nat × (Nat → Int32)) := if a < h.2.1 then (match h.1 a with
  | .inl (t', n, .inl f) => if t' = t then some (n, f) else none
  | _ => none) else none
def arL (h : Hp) (a : Nat) : Option (Nat × (Nat → Int64)) := if a < h.2.1 then (match h.1 a with
  | .inl (t', n, .inr (.inl f)) => if t' = 3 then some (n, f) else none
  | _ => none) else none
def arR (h : Hp) (a : Nat) : Option (Nat × (Nat → Option Nat)) := if a < h.2.1 then (match h.1 a with
  | .inl (t', n, .inr (.inr f)) => if t' = 4 then some (n, f) else none
  | _ => none) else none
def nrw (t : Nat) (x : Int32) : Int32 := match t with
  | 1 => vp_nar .byte x
  | 2 => vp_nar .boolean x
  | _ => x
def ldI (t : Nat) (h : Hp) (a : Nat) (i : Int32) : Option Int32 := bnd2 (arI h a t) fun n f => if i < 0 ∨ n ≤ i.toNatClampNeg then none else some (f i.toNatClampNeg)
def stI (t : Nat) (h : Hp) (a : Nat) (i x : Int32) : Option Hp := bnd2 (arI h a t) fun n f => if i < 0 ∨ n ≤ i.toNatClampNeg then none else some (hset h a (aI t n (upd f i.toNatClampNeg (nrw t x))))
def ldL (h : Hp) (a : Nat) (i : Int32) : Option Int64 := bnd2 (arL h a) fun n f => if i < 0 ∨ n ≤ i.toNatClampNeg then none else some (f i.toNatClampNeg)
def stL (h : Hp) (a : Nat) (i : Int32) (x : Int64) : Option Hp := bnd2 (arL h a) fun n f => if i < 0 ∨ n ≤ i.toNatClampNeg then none else some (hset h a (aL n (vp_updL f i.toNatClampNeg x)))
def ldR (h : Hp) (a : Nat) (i : Int32) : Option Nat := bnd2 (arR h a) fun n f => if i < 0 ∨ n ≤ i.toNatClampNeg then none else f i.toNatClampNeg
def stR (h : Hp) (a : Nat) (i : Int32) (v : Nat) : Option Hp := bnd2 (arR h a) fun n f => bnd (gO h v 2) fun _ => if i < 0 ∨ n ≤ i.toNatClampNeg then none else some (hset h a (aR n (va_up f i.toNatClampNeg (some v))))
def aLn (h : Hp) (a : Nat) : Option Int32 := if a < h.2.1 then (match h.1 a with
  | .inl (t, n, _) => if t < 5 then some (Int32.ofNat n) else none
  | _ => none) else none
def nwO (h : Hp) (ci : Nat) (fs : List Value) : Option (Nat × Hp) := if h.2.1 + 1 ≤ 600000 ∧ h.2.2 + fs.length ≤ rmS then some (h.2.1, hnew h (.inr (ci, fs)) fs.length) else none
def nwI (t : Nat) (h : Hp) (n : Int32) : Option (Nat × Hp) := if n < 0 then none else if h.2.1 + 1 ≤ 600000 ∧ h.2.2 + n.toNatClampNeg ≤ rmS then some (h.2.1, hnew h (aI t n.toNatClampNeg (fun _ => 0)) n.toNatClampNeg) else none
def nwL (h : Hp) (n : Int32) : Option (Nat × Hp) := if n < 0 then none else if h.2.1 + 1 ≤ 600000 ∧ h.2.2 + n.toNatClampNeg ≤ rmS then some (h.2.1, hnew h (aL n.toNatClampNeg (fun _ => 0)) n.toNatClampNeg) else none
def nwR (h : Hp) (n : Int32) : Option (Nat × Hp) := if n < 0 then none else if h.2.1 + 1 ≤ 600000 ∧ h.2.2 + n.toNatClampNeg ≤ rmS then some (h.2.1, hnew h (aR n.toNatClampNeg (fun _ => none)) n.toNatClampNeg) else none
def cpI (h : Hp) (a0 : Nat) (sp : Int32) (a : Nat) (dp n : Int32) : Option Hp := bnd2 (arI h a0 0) fun n0 f => bnd2 (arI h a 0) fun n1 g =>
  if sp < 0 ∨ dp < 0 ∨ n < 0 ∨ n0 < sp.toNatClampNeg + n.toNatClampNeg ∨ n1 < dp.toNatClampNeg + n.toNatClampNeg then none else some (hset h a (aI 0 n1 (va_cpy f g sp.toNatClampNeg dp.toNatClampNeg n.toNatClampNeg)))
/-! ===== out of a function's success ===== -/
theorem bnd_some {α β : Type} {o : Option α} {k : α → Option β} {r : β} (h : bnd o k = some r) : ∃ a, o = some a ∧ k a = some r := by
  cases o with
  | none => cases h
  | some a => exact ⟨a, rfl, h⟩
theorem bnd2_some {α γ β : Type} {o : Option (α × γ)} {k : α → γ → Option β} {r : β} (h : bnd2 o k = some r) : ∃ a c, o = some (a, c) ∧ k a c = some r := by
  cases o with
  | none => cases h
  | some a => exact ⟨a.1, a.2, rfl, h⟩
theorem if_none {c : Prop} [Decidable c] {β : Type} {u : Option β} {r : β} (h : (if c then none else u) = some r) : ¬ c ∧ u = some r := by
  by_cases hc : c
  · rw [if_pos hc] at h; cases h
  · rw [if_neg hc] at h; exact ⟨hc, h⟩
theorem if_some {c : Prop} [Decidable c] {β : Type} {u : Option β} {r : β} (h : (if c then u else none) = some r) : c ∧ u = some r := by
  by_cases hc : c
  · rw [if_pos hc] at h; exact ⟨hc, h⟩
  · rw [if_neg hc] at h; cases h
theorem gO_some {h : Hp} {a ci : Nat} {fs : List Value} (e : gO h a ci = some fs) : a < h.2.1 ∧ h.1 a = .inr (ci, fs) := by
  obtain ⟨h1, h2⟩ := if_some e
  refine ⟨h1, ?_⟩
  split at h2
  · rename_i c fs' hx
    obtain ⟨h3, h4⟩ := if_some h2
    rw [hx, h3]; cases h4; rfl
  · cases h2
theorem arI_some {h : Hp} {a t n : Nat} {f : Nat → Int32} (e : arI h a t = some (n, f)) : a < h.2.1 ∧ h.1 a = aI t n f := by
  obtain ⟨h1, h2⟩ := if_some e
  refine ⟨h1, ?_⟩
  split at h2
  · rename_i c n' fs' hx
    obtain ⟨h3, h4⟩ := if_some h2
    rw [hx, h3]; cases h4; rfl
  · cases h2
theorem arL_some {h : Hp} {a n : Nat} {f : Nat → Int64} (e : arL h a = some (n, f)) : a < h.2.1 ∧ h.1 a = aL n f := by
  obtain ⟨h1, h2⟩ := if_some e
  refine ⟨h1, ?_⟩
  split at h2
  · rename_i c n' fs' hx
    obtain ⟨h3, h4⟩ := if_some h2
    rw [hx, h3]; cases h4; rfl
  · cases h2
theorem arR_some {h : Hp} {a n : Nat} {f : Nat → Option Nat} (e : arR h a = some (n, f)) : a < h.2.1 ∧ h.1 a = aR n f := by
  obtain ⟨h1, h2⟩ := if_some e
  refine ⟨h1, ?_⟩
  split at h2
  · rename_i c n' fs' hx
    obtain ⟨h3, h4⟩ := if_some h2
    rw [hx, h3]; cases h4; rfl
  · cases h2
theorem isI_some {v : Option Value} {x : Int32} (e : isI v = some x) : v = some (.int x) := by
  unfold isI at e
  split at e
  · cases e; rfl
  · cases e
theorem isR_some {v : Option Value} {x : Nat} (e : isR v = some x) : v = some (.ref x) := by
  unfold isR at e
  split at e
  · cases e; rfl
  · cases e
/-! ===== the heap relation under a store and under a making ===== -/
theorem h_R.set {D : hD} {h : Hp} {H H' : Heap} {a : Nat} {e : HE} (hR : h_R D h H) (ha : a < h.2.1) (z : H'.size = H.size) (oq : ∀ q : Nat, q ≠ hz D + a → H'[q]? = H[q]?) (hc : h_cell D a e H') (hs : (H'[hz D + a]?).map (fun (c : Cell) => c.slots.size) = (H[hz D + a]?).map (fun (c : Cell) => c.slots.size)) : h_R D (hset h a e) H' := by
  obtain ⟨r1, r2, r3, r4, r5, r6⟩ := hR
  refine ⟨z.trans r1, ?_, r3, r4, fun q hq => ?_, fun b hb => ?_⟩
  · rw [← show htot H = htot D.2.2.2 + (hset h a e).2.2 from r2]
    refine htot_eq z fun q => ?_
    by_cases hq : q = hz D + a
    · rw [hq]; exact hs
    · rw [oq q hq]
  · rw [oq q (by omega)]; exact r5 q hq
  · by_cases hba : b = a
    · subst hba
      simp only [hset, if_true]
      exact hc
    · simp only [hset, if_neg hba]
      exact (r6 b hb).kept (oq _ (by omega))
theorem h_R.push {D : hD} {h : Hp} {H H' : Heap} {e : HE} {n : Nat} {x : Cell} (hR : h_R D h H) (z : H'.size = H.size + 1) (oq : ∀ q : Nat, q < H.size → H'[q]? = H[q]?) (hx : H'[H.size]? = some x) (hn : x.slots.size = n) (hc : h_cell D h.2.1 e H') (l1 : h.2.1 + 1 ≤ 600000) (l2 : h.2.2 + n ≤ rmS) : h_R D (hnew h e n) H' := by
  obtain ⟨r1, r2, r3, r4, r5, r6⟩ := hR
  refine ⟨?_, ?_, l1, l2, fun q hq => ?_, fun b hb => ?_⟩
  · show H'.size = hz D + (h.2.1 + 1)
    omega
  · show htot H' = htot D.2.2.2 + (h.2.2 + n)
    rw [htot_push z hx oq, hn, r2]; omega
  · rw [oq q (by omega)]; exact r5 q hq
  · by_cases hba : b = h.2.1
    · subst hba
      simp only [hnew, if_true]
      exact hc
    · simp only [hnew, if_neg hba]
      have hb' : b < h.2.1 + 1 := hb
      have hb2 : b < h.2.1 := by omega
      exact (r6 b hb2).kept (oq _ (by omega))
theorem h_R.at {D : hD} {h : Hp} {H : Heap} {a : Nat} {e : HE} (hR : h_R D h H) (ha : a < h.2.1) (he : h.1 a = e) : h_cell D a e H := by
  rw [← he]; exact hR.2.2.2.2.2 a ha
/-! ===== the classes' tables ===== -/
def h_ty (ci : Nat) : Nat → FieldType := match ci with
  | 0 => tyX0
  | 1 => tyX1
  | 2 => tyX2
  | 3 => tyX3
  | 4 => tyX4
  | 5 => tyX5
  | 6 => tyX6
  | _ => tyX7
def h_cl (ci : Nat) : vw_C := match ci with
  | 0 => (RX0, TX0, 5)
  | 1 => (RX1, TX1, 13)
  | 2 => (RX2, TX2, 12)
  | 3 => (RX3, TX3, 4)
  | 4 => (RX4, TX4, 2)
  | 5 => (RX5, TX5, 5)
  | 6 => (RX6, TX6, 15)
  | _ => (RX7, TX7, 24)
theorem h_cl_at {ci : Nat} (h : ci < 8) : vwCl[ci]? = some (h_cl ci) := by
  match ci, h with
  | 0, _ => rfl
  | 1, _ => rfl
  | 2, _ => rfl
  | 3, _ => rfl
  | 4, _ => rfl
  | 5, _ => rfl
  | 6, _ => rfl
  | 7, _ => rfl
theorem h_ty_ok {ci : Nat} (h : ci < 8) : ∀ k, k < (h_cl ci).2.2 → parseFieldDescriptor ((h_cl ci).2.1 k).2.2.1 = some (h_ty ci k) := by
  match ci, h with
  | 0, _ => exact tyX0_ok
  | 1, _ => exact tyX1_ok
  | 2, _ => exact tyX2_ok
  | 3, _ => exact tyX3_ok
  | 4, _ => exact tyX4_ok
  | 5, _ => exact tyX5_ok
  | 6, _ => exact tyX6_ok
  | 7, _ => exact tyX7_ok
theorem h_nm {ci : Nat} (h : ci < 8) : ∀ a, a < (h_cl ci).2.2 → ∀ b, b < (h_cl ci).2.2 → a ≠ b → ((h_cl ci).2.1 a).2.1 ≠ ((h_cl ci).2.1 b).2.1 := by
  match ci, h with
  | 0, _ => exact nmX0
  | 1, _ => exact nmX1
  | 2, _ => exact nmX2
  | 3, _ => exact nmX3
  | 4, _ => exact nmX4
  | 5, _ => exact nmX5
  | 6, _ => exact nmX6
  | 7, _ => exact nmX7
set_option maxRecDepth 100000 in
theorem h_in0 : (u_ws RX0 TX0 5 ++ u_ws RX1 TX1 13 ++ u_ws RX2 TX2 12 ++ u_ws RX3 TX3 4).all (fun w => decide (w ∈ lw_tbl) && goodWord w) = true := by decide +kernel
set_option maxRecDepth 100000 in
theorem h_in1 : (u_ws RX4 TX4 2 ++ u_ws RX5 TX5 5 ++ u_ws RX6 TX6 15 ++ u_ws RX7 TX7 24).all (fun w => decide (w ∈ lw_tbl) && goodWord w) = true := by decide +kernel
theorem h_in_of {ws : List Cond} (h : ws.all (fun w => decide (w ∈ lw_tbl) && goodWord w) = true) : ∀ w ∈ ws, w ∈ h_tbl := fun w hw => by
  have h1 := List.all_eq_true.mp h w hw
  simp only [Bool.and_eq_true, decide_eq_true_eq] at h1
  exact List.mem_filter.mpr h1
theorem h_in {ci : Nat} (h : ci < 8) : ∀ w ∈ u_ws (h_cl ci).1 (h_cl ci).2.1 (h_cl ci).2.2, w ∈ h_tbl := by
  have e0 := h_in_of h_in0
  have e1 := h_in_of h_in1
  match ci, h with
  | 0, _ => exact fun w hw => e0 w (List.mem_append_left _ (List.mem_append_left _ (List.mem_append_left _ hw)))
  | 1, _ => exact fun w hw => e0 w (List.mem_append_left _ (List.mem_append_left _ (List.mem_append_right _ hw)))
  | 2, _ => exact fun w hw => e0 w (List.mem_append_left _ (List.mem_append_right _ hw))
  | 3, _ => exact fun w hw => e0 w (List.mem_append_right _ hw)
  | 4, _ => exact fun w hw => e1 w (List.mem_append_left _ (List.mem_append_left _ (List.mem_append_left _ hw)))
  | 5, _ => exact fun w hw => e1 w (List.mem_append_left _ (List.mem_append_left _ (List.mem_append_right _ hw)))
  | 6, _ => exact fun w hw => e1 w (List.mem_append_left _ (List.mem_append_right _ hw))
  | 7, _ => exact fun w hw => e1 w (List.mem_append_right _ hw)
