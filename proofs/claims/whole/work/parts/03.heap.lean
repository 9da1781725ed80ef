/-! ===== the abstract heap: cells at addresses counted from the law's start ===== -/
/-- the room of the statement, in slots: it is measured anew at each turn -/
def rmS : Nat := room_1.slots
theorem rmS_ge : 7300000 ≤ rmS := by decide
theorem rmS_le : rmS ≤ 60000000 := by decide
abbrev HE : Type := (Nat × Nat × ((Nat → Int32) ⊕ (Nat → Int64) ⊕ (Nat → Option Nat))) ⊕ (Nat × List Value)
abbrev Hp : Type := (Nat → HE) × Nat × Nat
abbrev hD : Type := (Nat → ClassId) × (Nat → Nat → Nat) × (Nat → ClassId) × Heap
abbrev aI (t n : Nat) (f : Nat → Int32) : HE := .inl (t, n, .inl f)
abbrev aL (n : Nat) (f : Nat → Int64) : HE := .inl (3, n, .inr (.inl f))
abbrev aR (n : Nat) (f : Nat → Option Nat) : HE := .inl (4, n, .inr (.inr f))
abbrev oB (ci : Nat) (fs : List Value) : HE := .inr (ci, fs)
def hz (D : hD) : Nat := D.2.2.2.size
def htot (H : Heap) : Nat := (H.toList.map (fun (c : Cell) => c.slots.size)).sum
def h_sh (z : Nat) (v : Value) : Value := match v with
  | .ref a => .ref (z + a)
  | .retAddr a => .ref a
  | v => v
def h_arr (D : hD) (t n : Nat) (f : Nat → Value) : Cell := arrV (D.2.2.1 t) n f
def h_cell (D : hD) (a : Nat) (e : HE) (H : Heap) : Prop := match e with
  | .inl (t, n, .inl f) => H[hz D + a]? = some (arrV (D.2.2.1 t) n (fun j => .int (f j)))
  | .inl (t, n, .inr (.inl f)) => H[hz D + a]? = some (arrV (D.2.2.1 t) n (fun j => .long (f j)))
  | .inl (t, n, .inr (.inr f)) => H[hz D + a]? = some (arrV (D.2.2.1 t) n (fun j => va_rf ((f j).map (hz D + ·))))
  | .inr (ci, fs) => ∃ r : vw_C, vwCl[ci]? = some r ∧ fs.length = r.2.2 ∧ t_OB (hz D + a) (D.1 ci) r.2.2 (D.2.1 ci) H (vp_V (fs.map (h_sh (hz D))))
theorem h_cell.kept {D : hD} {a : Nat} {e : HE} {H H1 : Heap} (h : h_cell D a e H) (hq : H1[hz D + a]? = H[hz D + a]?) : h_cell D a e H1 := by
  rcases e with ⟨t, n, f | f | f⟩ | ⟨ci, fs⟩
  · exact hq.trans h
  · exact hq.trans h
  · exact hq.trans h
  · obtain ⟨r, h1, h2, h3⟩ := h
    exact ⟨r, h1, h2, h3.kept hq⟩
/-- the heap H holds the abstract heap h, and below the start it is what it was -/
def h_R (D : hD) (h : Hp) (H : Heap) : Prop :=
  H.size = hz D + h.2.1 ∧ htot H = htot D.2.2.2 + h.2.2 ∧ h.2.1 ≤ 600000 ∧ h.2.2 ≤ rmS ∧ (∀ q : Nat, q < hz D → H[q]? = D.2.2.2[q]?) ∧ ∀ a : Nat, a < h.2.1 → h_cell D a (h.1 a) H
def h_tys : List FieldType := [.int, .byte, .boolean, .long, .object RX2]
def h_isNest : Cond → Bool
  | .fieldLinkNest _ _ _ _ _ _ => true
  | .methodLinkNest _ _ _ _ => true
  | _ => false
def h_nest : List Cond := lw_tbl.filter h_isNest
def h_tbl : List Cond := lw_tbl.filter goodWord
theorem h_tblm {w : Cond} (i : Nat) (h : lw_tbl[i]? = some w) (hg : goodWord w = true) : w ∈ h_tbl := List.mem_filter.mpr ⟨List.mem_of_getElem? h, hg⟩
theorem h_nestm {w : Cond} (i : Nat) (h : lw_tbl[i]? = some w) (hg : h_isNest w = true) : w ∈ h_nest := List.mem_filter.mpr ⟨List.mem_of_getElem? h, hg⟩
/-- what the tables say -/
def h_K (D : hD) (U : State) : Prop :=
  (∀ (c : Nat) (q : vw_C), vwCl[c]? = some q → u_Kn U q.1 q.2.1 q.2.2 (D.1 c) (D.2.1 c)) ∧ (∀ (t : Nat) (ty : FieldType), h_tys[t]? = some ty → ArrOfT U (D.2.2.1 t) ty ∧ va_RA U (D.2.2.1 t) ty) ∧ va_AO RX2 U ∧ ∀ w ∈ h_nest, va_Nw w U
theorem h_K.warm {D : hD} {s U : State} (hW : s.WarmedH U.vm) (h : h_K D s) : h_K D U := by
  obtain ⟨h1, h2, h3, h4⟩ := h
  refine ⟨fun c q hq => u_Kn_moved hW.alike (h1 c q hq), fun t ty ht => ⟨arrOfT_moved hW.alike (h2 t ty ht).1, (h2 t ty ht).2.moved hW.alike⟩, h3.moved hW.alike, fun w hw => ?_⟩
  have h5 := h4 w hw
  have h6 := (List.mem_filter.mp hw).2
  cases w with
  | fieldLinkNest a b c d e f => exact va_Nw.warmF hW h5
  | methodLinkNest a b c d => exact va_Nw.warmM hW h5
  | _ => cases h6
theorem h_K.calling {D : hD} {U : State} {g : JFrame} {mk : MethodId} {a : Array Value} (h : h_K D U) : h_K D (U.calling g mk a) := by
  obtain ⟨h1, h2, h3, h4⟩ := h
  have hal : U.vm.Alike (U.calling g mk a).vm := Vm.Alike.refl U.vm
  refine ⟨fun c q hq => u_Kn_moved hal (h1 c q hq), fun t ty ht => ⟨arrOfT_moved hal (h2 t ty ht).1, (h2 t ty ht).2.moved hal⟩, h3.moved hal, fun w hw => ?_⟩
  have h6 := (List.mem_filter.mp hw).2
  refine va_Nw.same (u := U) ?_ rfl (h4 w hw)
  cases w with
  | fieldLinkNest a b c d e f => rfl
  | methodLinkNest a b c d => rfl
  | _ => cases h6
/-! ===== counting slots ===== -/
theorem htot_eq {H H' : Heap} (hz : H'.size = H.size) (h : ∀ q : Nat, (H'[q]?).map (fun (c : Cell) => c.slots.size) = (H[q]?).map (fun (c : Cell) => c.slots.size)) : htot H' = htot H := by
  unfold htot
  congr 1
  apply List.ext_getElem?
  intro i
  simp only [List.getElem?_map, Array.getElem?_toList]
  exact h i
theorem htot_push {H H' : Heap} {x : Cell} (hz : H'.size = H.size + 1) (hx : H'[H.size]? = some x) (h : ∀ q : Nat, q < H.size → H'[q]? = H[q]?) : htot H' = htot H + x.slots.size := by
  have e : H' = H.push x := by
    apply Array.ext_getElem?
    intro i
    rw [Array.getElem?_push]
    by_cases hi : i = H.size
    · rw [if_pos hi, hi]; exact hx
    · rw [if_neg hi]
      by_cases hl : i < H.size
      · exact h i hl
      · rw [Array.getElem?_eq_none (by omega), Array.getElem?_eq_none (by omega)]
  subst e
  simp [htot]
theorem htot_drop {H0 H : Heap} (hle : H0.size ≤ H.size) (h : ∀ (a : Nat) (c : Cell), H0[a]? = some c → ∃ c', H[a]? = some c' ∧ c'.slots.size = c.slots.size) :
    ((H.toList.drop H0.size).map (fun (c : Cell) => c.slots.size)).sum = htot H - htot H0 ∧ htot H0 ≤ htot H := by
  have e1 : (H.toList.take H0.size).map (fun (c : Cell) => c.slots.size) = H0.toList.map (fun (c : Cell) => c.slots.size) := by
    apply List.ext_getElem?
    intro i
    simp only [List.getElem?_map, List.getElem?_take, Array.getElem?_toList]
    by_cases hi : i < H0.size
    · rw [if_pos hi]
      obtain ⟨c', h1, h2⟩ := h i (H0[i]) (by simp [hi])
      rw [h1]
      simp [hi, h2]
    · rw [if_neg hi, Array.getElem?_eq_none (by omega)]
  have e2 : htot H = ((H.toList.take H0.size).map (fun (c : Cell) => c.slots.size)).sum + ((H.toList.drop H0.size).map (fun (c : Cell) => c.slots.size)).sum := by
    unfold htot
    rw [← List.sum_append, ← List.map_append, List.take_append_drop]
  rw [e1] at e2
  unfold htot at e2 ⊢
  omega
section TIGHT
variable {p : Program} {l : Launch} {e : Env} {R : Room} {s : State} {m : MethodId} {args : Array Value} {below : List Frame} {meth : Method} {c : Code} {H : Heap} {locs : List Loc} {cells slots : Nat} {Q : State → Prop}
theorem stand_le {T : State} (X : Stand p l e R s m args below meth c T locs cells slots) : s.heap.size ≤ T.heap.size ∧ htot s.heap ≤ htot T.heap ∧ ((T.heap.toList.drop s.heap.size).map (fun (c : Cell) => c.slots.size)).sum = htot T.heap - htot s.heap := by
  obtain ⟨h1, h2, h3, h4, h5, h6⟩ := X.same
  have h7 := htot_drop (H0 := s.heap) (H := T.heap) h2 (fun a c hc => by
    obtain ⟨c', g1, g2, g3, -⟩ := h6 a c hc
    exact ⟨c', g1, g3⟩)
  exact ⟨h2, h7.2, h7.1⟩
/-- the counts may be set to what the heap itself shows -/
theorem W.tight {g : JFrame} (kk : s.heap.size ≤ H.size → htot s.heap ≤ htot H → W p l e R s m args below meth c H locs (H.size - s.heap.size) (htot H - htot s.heap) Q g) : W p l e R s m args below meth c H locs cells slots Q g := by
  intro T hT X
  obtain ⟨a1, a2, a3⟩ := stand_le X
  subst hT
  refine kk a1 a2 T rfl { X with same := ?_ }
  obtain ⟨h1, h2, h3, h4, h5, h6⟩ := X.same
  refine ⟨h1, h2, ?_, h4, ?_, h6⟩
  · show T.heap.size ≤ s.heap.size + (T.heap.size - s.heap.size)
    omega
  · show ((T.heap.toList.drop s.heap.size).map (fun (c : Cell) => c.slots.size)).sum ≤ _
    rw [a3]
    exact Nat.le_refl _
end TIGHT
