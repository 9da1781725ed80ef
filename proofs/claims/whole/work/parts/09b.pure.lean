/-! ===== methods that leave the heap as it is ===== -/
def oIp (h : Hp) (r : Int32) : Option Value × Hp := (some (.int r), h)
def oLp (h : Hp) (r : Int64) : Option Value × Hp := (some (.long r), h)
def oRp (h : Hp) (r : Nat) : Option Value × Hp := (some (.ref r), h)
def rZp (x : Int32) : Option Int32 := if x = 0 ∨ x = 1 then some x else none
def nm {α β : Type} (x : α) (k : α → Option β) : Option β := k x
section PR
variable {ρ : Type} {B : Bx} {Qf : ρ → State → Prop} {t : Option ρ} {h : Hp} {pc pc' : Nat} {lv lv' : List (Nat × Value)} {st st' stk : List Value} {cc : ByteArray} {own : String} {ret : Option FieldType} {nL n0 s0 kF kL : Nat}
theorem j_cIp {f : Option Int32} {u : Int32 → Option ρ} {y : MethodName} {cy : ByteArray} {nLy : Nat} {rety : Option FieldType} {kF' kL' : Nat} {As : List Value} (hc : ∀ x, f = some x → Runs B y cy nLy rety kF' kL' As h pc stk st ∧ Ct (bL B) (bD B) y cy nLy rety kF' kL' As h (some (.int x)) h) (kk : ∀ r : Int32, J B Qf (u r) h (pc + 3) lv (.int r :: st)) : J B Qf (bnd f u) h pc lv stk := by
  intro r hr H locs ls hR hlo hls
  obtain ⟨a, h1, h2⟩ := bnd_some hr
  obtain ⟨R, M⟩ := hc _ h1
  exact R _ _ M H locs ls _ hR hls.1 hlo (fun H' locs' hR' hlo' => kk a r h2 H' locs' ls hR' hlo' hls)
theorem j_cLp {f : Option Int64} {u : Int64 → Option ρ} {y : MethodName} {cy : ByteArray} {nLy : Nat} {rety : Option FieldType} {kF' kL' : Nat} {As : List Value} (hc : ∀ x, f = some x → Runs B y cy nLy rety kF' kL' As h pc stk st ∧ Ct (bL B) (bD B) y cy nLy rety kF' kL' As h (some (.long x)) h) (kk : ∀ r : Int64, J B Qf (u r) h (pc + 3) lv (.long r :: st)) : J B Qf (bnd f u) h pc lv stk := by
  intro r hr H locs ls hR hlo hls
  obtain ⟨a, h1, h2⟩ := bnd_some hr
  obtain ⟨R, M⟩ := hc _ h1
  exact R _ _ M H locs ls _ hR hls.1 hlo (fun H' locs' hR' hlo' => kk a r h2 H' locs' ls hR' hlo' hls)
theorem j_iretp (C : Cx B cc own (some .int) nL n0 s0 kF kL) {x : Int32} (d : decode cc pc = .ok (.ireturn, 1)) : J B (Qm B n0 s0 (oIp h)) (some x) h pc lv [.int x] := by
  intro r hr H locs ls hR hlo hls
  cases hr
  obtain ⟨m1, m2⟩ := room_ret C hR
  refine W.widen m1 m2 ?_
  exact W.iret C.1 C.2.1 C.2.2.1 (fun t ht hW => ⟨rfl, by rw [ht]; exact hR⟩) hlo d C.2.2.2.2.2.2.1
theorem j_zretp (C : Cx B cc own (some .boolean) nL n0 s0 kF kL) {x : Int32} (d : decode cc pc = .ok (.ireturn, 1)) : J B (Qm B n0 s0 (oIp h)) (rZp x) h pc lv [.int x] := by
  intro r hr H locs ls hR hlo hls
  obtain ⟨h01, hr⟩ := if_some hr
  cases hr
  obtain ⟨m1, m2⟩ := room_ret C hR
  refine W.widen m1 m2 ?_
  exact W.zret C.1 C.2.1 C.2.2.1 (nar01 h01) (fun t ht hW => ⟨rfl, by rw [ht]; exact hR⟩) hlo d C.2.2.2.2.2.2.1
theorem j_lretp (C : Cx B cc own (some .long) nL n0 s0 kF kL) {x : Int64} (d : decode cc pc = .ok (.lreturn, 1)) : J B (Qm B n0 s0 (oLp h)) (some x) h pc lv [.long x] := by
  intro r hr H locs ls hR hlo hls
  cases hr
  obtain ⟨m1, m2⟩ := room_ret C hR
  refine W.widen m1 m2 ?_
  exact W.lret C.1 C.2.1 C.2.2.1 (fun t ht hW => ⟨rfl, by rw [ht]; exact hR⟩) hlo d C.2.2.2.2.2.2.1
theorem j_nmI {x : Int32} {u : Int32 → Option ρ} (kk : ∀ v : Int32, J B Qf (u v) h pc lv (.int v :: st)) : J B Qf (nm x u) h pc lv (.int x :: st) := kk x
theorem j_nmL {x : Int64} {u : Int64 → Option ρ} (kk : ∀ v : Int64, J B Qf (u v) h pc lv (.long v :: st)) : J B Qf (nm x u) h pc lv (.long x :: st) := kk x
end PR
