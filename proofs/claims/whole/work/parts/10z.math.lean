/-! ===== Math.max and Math.min, by the kit's rows ===== -/
def mx (x y : Int32) : Int32 := if x < y then y else x
def mn (x y : Int32) : Int32 := if y < x then y else x
section MA
variable {ρ : Type} {B : Bx} {Qf : ρ → State → Prop} {t : Option ρ} {h : Hp} {pc pc' : Nat} {lv lv' : List (Nat × Value)} {st st' stk : List Value} {cc : ByteArray} {own : String} {ret : Option FieldType} {nL n0 s0 kF kL : Nat}
theorem room_m (C : Cx B cc own ret nL n0 s0 kF kL) {H : Heap} (hR : h_R (bD B) h H) (a1 : (bS B).heap.size ≤ H.size) (a2 : htot (bS B).heap ≤ htot H) : H.size - (bS B).heap.size ≤ (bR B).cells ∧ htot H - htot (bS B).heap ≤ (bR B).slots := by
  have := room_call C hR a1 a2
  omega
theorem j_max (C : Cx B cc own ret nL n0 s0 kF kL) {idx : Nat} {x y : Int32} (hw : Cond.methodLink own idx Lib.Math.max.name ∈ h_tbl) (hs : Cond.static Lib.Math.max.name ∈ h_tbl) (hi : Cond.initialized "java/lang/Math" ∈ h_tbl) (hc : Cond.code Lib.Math.max.name Lib.Math.max.code 2 (some .int) ∈ h_tbl) (hf : Nat.ble 1 kF = true) (hl : Nat.ble 21 kL = true) (hst : Nat.ble ((st.map fun v => v.category).sum) 8 = true) (d : decode cc pc = .ok (.invokestatic idx, 3)) (kk : J B Qf t h (pc + 3) lv (.int (mx x y) :: st)) : J B Qf t h pc lv (.int y :: .int x :: st) := by
  intro r hr H locs ls hR hlo hls
  have hts := C.2.2.2.2.2.1
  obtain ⟨-, -, -, -, -, -, -, -, c1, c2, c3⟩ := id C
  have q1 := Nat.le_of_ble_eq_true hf
  have q2 := Nat.le_of_ble_eq_true hl
  have q3 : (List.map (fun v => v.category) (List.map (h_sh (hz (bD B))) st)).sum ≤ 8 := cat_room (B := B) hst
  refine W.tight fun a1 a2 => ?_
  obtain ⟨m1, m2⟩ := room_m C hR a1 a2
  exact va_mmax C.1 C.2.1 hls.1.symm C.2.2.2.2.1 (hts _ hw) (hts _ hs) (hts _ hi) (hts _ hc) (by rw [c3]; exact q1) (by
    rw [c3]
    show _ + 13 ≤ kL
    omega) m1 m2 d (kk r hr H locs ls hR hlo hls)
theorem j_min (C : Cx B cc own ret nL n0 s0 kF kL) {idx : Nat} {x y : Int32} (hw : Cond.methodLink own idx Lib.Math.min.name ∈ h_tbl) (hs : Cond.static Lib.Math.min.name ∈ h_tbl) (hi : Cond.initialized "java/lang/Math" ∈ h_tbl) (hc : Cond.code Lib.Math.min.name Lib.Math.min.code 2 (some .int) ∈ h_tbl) (hf : Nat.ble 1 kF = true) (hl : Nat.ble 21 kL = true) (hst : Nat.ble ((st.map fun v => v.category).sum) 8 = true) (d : decode cc pc = .ok (.invokestatic idx, 3)) (kk : J B Qf t h (pc + 3) lv (.int (mn x y) :: st)) : J B Qf t h pc lv (.int y :: .int x :: st) := by
  intro r hr H locs ls hR hlo hls
  have hts := C.2.2.2.2.2.1
  obtain ⟨-, -, -, -, -, -, -, -, c1, c2, c3⟩ := id C
  have q1 := Nat.le_of_ble_eq_true hf
  have q2 := Nat.le_of_ble_eq_true hl
  have q3 : (List.map (fun v => v.category) (List.map (h_sh (hz (bD B))) st)).sum ≤ 8 := cat_room (B := B) hst
  refine W.tight fun a1 a2 => ?_
  obtain ⟨m1, m2⟩ := room_m C hR a1 a2
  exact va_mmin C.1 C.2.1 hls.1.symm C.2.2.2.2.1 (hts _ hw) (hts _ hs) (hts _ hi) (hts _ hc) (by rw [c3]; exact q1) (by
    rw [c3]
    show _ + 13 ≤ kL
    omega) m1 m2 d (kk r hr H locs ls hR hlo hls)
end MA
