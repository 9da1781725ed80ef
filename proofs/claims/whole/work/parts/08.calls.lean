/-! ===== calls, returns, switches, the native copy ===== -/
def oI (r : Int32 × Hp) : Option Value × Hp := (some (.int r.1), r.2)
def oL (r : Int64 × Hp) : Option Value × Hp := (some (.long r.1), r.2)
def oR (r : Nat × Hp) : Option Value × Hp := (some (.ref r.1), r.2)
def oV (r : Hp) : Option Value × Hp := (none, r)
def Qm {σ : Type} (B : Bx) (n0 s0 : Nat) (out : σ → Option Value × Hp) (r : σ) : State → Prop :=
  MQ (bBel B) (fun _ _ o t => o = .returned ((out r).1.map (h_sh (hz (bD B)))) ∧ h_R (bD B) (out r).2 t.heap) (bA B) (bS B) (600000 - n0) (rmS - s0) (fun q => hz (bD B) ≤ q)
/-- a method's contract: from a heap that holds h, it answers out, and the heap holds h' -/
def Ct (l : Launch) (D : hD) (y : MethodName) (cy : ByteArray) (nLy : Nat) (rety : Option FieldType) (kF kL : Nat) (As : List Value) (h : Hp) (out : Option Value) (h' : Hp) : Prop :=
  Met l y (Cond.code y cy nLy rety :: h_tbl) ⟨kF, 600000 - h.2.1, rmS - h.2.2, kL⟩ (fun v U => v = (As.map (h_sh (hz D))).toArray ∧ h_R D h U.heap ∧ h_K D U) (fun _ _ o t => o = .returned (out.map (h_sh (hz D))) ∧ h_R D h' t.heap) (600000 - h.2.1) (rmS - h.2.2) (fun q => hz D ≤ q)
def rZ (x : Int32) (h : Hp) : Option (Int32 × Hp) := if x = 0 ∨ x = 1 then some (x, h) else none
def ML (own : String) (idx : Nat) (y : MethodName) : Prop := Cond.methodLink own idx y ∈ h_tbl ∨ ∃ host : String, Cond.methodLinkNest own idx y host ∈ h_nest
def CeB (y : MethodName) (cy : ByteArray) (nLy : Nat) (rety : Option FieldType) (n : Nat) : Prop := Cond.code y cy nLy rety ∈ h_tbl ∧ Cond.initialized y.cls ∈ h_tbl ∧ (y.cls ≠ "java/lang/invoke/MethodHandle" ∧ y.cls ≠ "java/lang/invoke/VarHandle" ∧ (parseMethodDescriptor y.desc).map (fun d => d.parameters.length) = some n)
def CeV (ci : Nat) (y : MethodName) (cy : ByteArray) (nLy : Nat) (rety : Option FieldType) (n : Nat) : Prop := CeB y cy nLy rety n ∧ ci < 8 ∧ y.cls = (h_cl ci).1 ∧ Cond.instanceMethod y ∈ h_tbl ∧ Cond.selects y.cls y y ∈ h_tbl
def CeS (y : MethodName) (cy : ByteArray) (nLy : Nat) (rety : Option FieldType) (n : Nat) : Prop := CeB y cy nLy rety n ∧ Cond.static y ∈ h_tbl
def CeI (y : MethodName) (cy : ByteArray) (nLy : Nat) (n : Nat) : Prop := CeB y cy nLy none n ∧ y.name = "<init>" ∧ Cond.instanceMethod y ∈ h_tbl
theorem good_tbl {w : Cond} (h : w ∈ h_tbl) : GoodIn h_tbl (w :: h_tbl) := by
  intro x hx
  have h1 : x ∈ h_tbl := by
    rcases List.mem_cons.mp hx with e | e
    · rw [e]; exact h
    · exact e
  exact ⟨h1, good_of_word (List.mem_filter.mp h1).2⟩
section CR
variable {ρ : Type} {B : Bx} {Qf : ρ → State → Prop} {t : Option ρ} {h : Hp} {pc pc' : Nat} {lv lv' : List (Nat × Value)} {st st' stk : List Value} {cc : ByteArray} {own : String} {ret : Option FieldType} {nL n0 s0 kF kL : Nat}
variable {H : Heap} {locs : List Loc} {cells slots : Nat} {Q : State → Prop} {ls : Array Slot} {rest : List Value}
/-- the call at pc, with the arguments As of which the stack stk is st and they, goes through for every outcome that the callee's contract tells -/
def Runs (B : Bx) (y : MethodName) (cy : ByteArray) (nLy : Nat) (rety : Option FieldType) (kF' kL' : Nat) (As : List Value) (h : Hp) (pc : Nat) (stk st : List Value) : Prop :=
  ∀ (out : Option Value) (h' : Hp), Ct (bL B) (bD B) y cy nLy rety kF' kL' As h out h' → ∀ (H : Heap) (locs : List Loc) (ls : Array Slot) (Q : State → Prop), h_R (bD B) h H → ls.size = (bC B).maxLocals → (∀ q ∈ locs, hz (bD B) ≤ q.base) →
    (∀ (H' : Heap) (locs' : List Loc), h_R (bD B) h' H' → (∀ q ∈ locs', hz (bD B) ≤ q.base) → WB B H' locs' (H'.size - (bS B).heap.size) (htot H' - htot (bS B).heap) Q (F0 (bM B) (pc + 3) ls ((out.map (h_sh (hz (bD B)))).toList ++ shv B st))) →
    WB B H locs (H.size - (bS B).heap.size) (htot H - htot (bS B).heap) Q (F0 (bM B) pc ls (shv B stk))
theorem w_call {out : Option Value} {h' : Hp} {mc ms : Nat} {st0 : List Value} (hlo : ∀ q ∈ locs, hz (bD B) ≤ q.base) (hrun : va_Run (bP B) (bL B) (bE B) (bR B) (bS B) (bM B) (bA B) (bBel B) (bMe B) (bC B) H locs cells slots mc ms (F0 (bM B) pc ls st0) rest (fun _ o t => o = .returned out ∧ h_R (bD B) h' t.heap) (fun q => hz (bD B) ≤ q))
    (kk : ∀ (H' : Heap) (locs' : List Loc), h_R (bD B) h' H' → (∀ q ∈ locs', hz (bD B) ≤ q.base) → WB B H' locs' (H'.size - (bS B).heap.size) (htot H' - htot (bS B).heap) Q (F0 (bM B) (pc + 3) ls (out.toList ++ rest))) : WB B H locs cells slots Q (F0 (bM B) pc ls st0) := by
  intro T hT X
  obtain ⟨v, st₀, t, T', L, h0, X', hL, e1, e2, ⟨hv, hR'⟩, go⟩ := hrun T hT X
  cases hv
  rw [← e1] at hR'
  have k2 := kk T'.heap (locs ++ L) hR' (fun q hq => by
    rcases List.mem_append.mp hq with h | h
    · exact hlo q h
    · exact hL q h)
  obtain ⟨t2, a1, b1⟩ := W.tight (fun _ _ => k2) T' rfl X'
  exact ⟨t2, go t2 a1, b1⟩
theorem room_call (C : Cx B cc own ret nL n0 s0 kF kL) (hR : h_R (bD B) h H) (a1 : (bS B).heap.size ≤ H.size) (a2 : htot (bS B).heap ≤ htot H) : H.size - (bS B).heap.size + (600000 - h.2.1) ≤ (bR B).cells ∧ htot H - htot (bS B).heap + (rmS - h.2.2) ≤ (bR B).slots := by
  obtain ⟨-, -, -, -, -, -, -, -, c1, c2, c3⟩ := C
  obtain ⟨r1, r2, r3, r4, -⟩ := hR
  rw [c3]
  constructor
  · show _ ≤ 600000 - n0
    omega
  · show _ ≤ rmS - s0
    omega
theorem room_fr (C : Cx B cc own ret nL n0 s0 kF kL) {kF' kL' nLy a b : Nat} (hf : Nat.ble (kF' + 1) kF = true) (hl : Nat.ble (8 + (nLy + 11) + kL') kL = true) : (⟨kF', a, b, kL'⟩ : Room).frames + 1 ≤ (bR B).frames ∧ 8 + (nLy + 11) + (⟨kF', a, b, kL'⟩ : Room).locals ≤ (bR B).locals := by
  obtain ⟨-, -, -, -, -, -, -, -, c1, c2, c3⟩ := C
  rw [c3]
  exact ⟨Nat.le_of_ble_eq_true hf, Nat.le_of_ble_eq_true hl⟩
theorem cat_room (hs : Nat.ble ((st.map fun v => v.category).sum) 8 = true) : ((shv B st).map fun v => v.category).sum ≤ 8 := by
  have e : (shv B st).map (fun v => v.category) = st.map (fun v => v.category) := by
    simp only [shv, List.map_map]
    congr 1
    funext v
    exact h_cat _ v
  rw [e]
  exact Nat.le_of_ble_eq_true hs
theorem pre_call {D : hD} {s : State} {y : MethodName} {As : List Value} {h : Hp} : FrameBlind (fun v U => v = (As.map (h_sh (hz D))).toArray ∧ h_R D h U.heap ∧ h_K D U) := fun _ _ _ _ q => ⟨q.1, q.2.1, q.2.2.calling⟩
theorem stk_sh {As : List Value} {b : Nat} (hstk : As.reverse ++ .ref b :: st = stk) : shv B stk = (As.map (h_sh (hz (bD B)))).reverse ++ .ref (hz (bD B) + b) :: shv B st := by
  rw [← hstk]
  simp [shv, h_sh]
theorem stk_shS {As : List Value} (hstk : As.reverse ++ st = stk) : shv B stk = (As.map (h_sh (hz (bD B)))).reverse ++ shv B st := by
  rw [← hstk]
  simp [shv]
theorem runsV (C : Cx B cc own ret nL n0 s0 kF kL) {y : MethodName} {cy : ByteArray} {nLy : Nat} {rety : Option FieldType} {kF' kL' idx ci b n : Nat} {As : List Value} (ml : ML own idx y) (ce : CeV ci y cy nLy rety n) (hrec : ∃ fs, gO h b ci = some fs) (hn : As.length = n) (hstk : As.reverse ++ .ref b :: st = stk) (hs : Nat.ble ((st.map fun v => v.category).sum) 8 = true) (hf : Nat.ble (kF' + 1) kF = true) (hl : Nat.ble (8 + (nLy + 11) + kL') kL = true) (d : decode cc pc = .ok (.invokevirtual idx, 3)) : Runs B y cy nLy rety kF' kL' (.ref b :: As) h pc stk st := by
  intro out h' M H locs ls Q hR hls hlo kk
  obtain ⟨⟨b1, b2, b3⟩, ci8, hcls, v1, v2⟩ := ce
  have hts := C.2.2.2.2.2.1
  have hK := C.2.2.2.2.2.2.2.1
  obtain ⟨fs, hrec⟩ := hrec
  obtain ⟨g1, g2⟩ := gO_some hrec
  obtain ⟨-, cell, q1, q2, q3, -⟩ := h_obj ci8 (hR.at g1 g2)
  have hpre : PreV (bS B) H y.cls (hz (bD B) + b) (fun v U => v = ((Value.ref b :: As).map (h_sh (hz (bD B)))).toArray ∧ h_R (bD B) h U.heap ∧ h_K (bD B) U) (As.map (h_sh (hz (bD B)))) :=
    ⟨pre_call (s := bS B) (y := y), ⟨cell, q1, by rw [q3]; rfl, by rw [q2, hcls]; exact (hK.cls ci8).2.1⟩, fun U hU hW => ⟨rfl, by rw [hU]; exact hR, hK.warm hW⟩⟩
  rw [stk_sh hstk]
  refine W.tight fun a1 a2 => ?_
  refine w_call (mc := 600000 - h.2.1) (ms := rmS - h.2.2) hlo ?_ kk
  have hS : CallFix (bP B) (bM B) (bC B) cc nL (bS B) (bA B) h_tbl own := ⟨C.1, C.2.1, C.2.2.2.1, C.2.2.2.2.1, hts⟩
  rcases ml with ml | ⟨host, ml⟩
  · exact va_runV (C := y.cls) hS M ⟨callB_of n hts (good_tbl b1) rfl rfl rfl (hts _ b2) (hts _ ml) b3 (room_fr C hf hl), hts _ v1, hts _ v2⟩ hpre rfl (by simpa using hn) (hls.trans C.2.2.2.1) rfl (lv_room (cat_room hs)) d (room_call C hR a1 a2)
  · exact va_runVN (C := y.cls) hS M ⟨va_cnB n hts (good_tbl b1) rfl rfl rfl (hK.2.2.2 _ ml) (hts _ b2) b3 (room_fr C hf hl), hts _ v1, hts _ v2⟩ hpre rfl (by simpa using hn) (hls.trans C.2.2.2.1) rfl (lv_room (cat_room hs)) d (room_call C hR a1 a2)
theorem runsS (C : Cx B cc own ret nL n0 s0 kF kL) {y : MethodName} {cy : ByteArray} {nLy : Nat} {rety : Option FieldType} {kF' kL' idx n : Nat} {As : List Value} (ml : ML own idx y) (ce : CeS y cy nLy rety n) (hn : As.length = n) (hstk : As.reverse ++ st = stk) (hs : Nat.ble ((st.map fun v => v.category).sum) 8 = true) (hf : Nat.ble (kF' + 1) kF = true) (hl : Nat.ble (8 + (nLy + 11) + kL') kL = true) (d : decode cc pc = .ok (.invokestatic idx, 3)) : Runs B y cy nLy rety kF' kL' As h pc stk st := by
  intro out h' M H locs ls Q hR hls hlo kk
  obtain ⟨⟨b1, b2, b3⟩, v1⟩ := ce
  have hts := C.2.2.2.2.2.1
  have hK := C.2.2.2.2.2.2.2.1
  have hpre : PreS (bS B) H (fun v U => v = (As.map (h_sh (hz (bD B)))).toArray ∧ h_R (bD B) h U.heap ∧ h_K (bD B) U) (As.map (h_sh (hz (bD B)))) :=
    ⟨pre_call (s := bS B) (y := y), fun U hU hW => ⟨rfl, by rw [hU]; exact hR, hK.warm hW⟩⟩
  rw [stk_shS hstk]
  refine W.tight fun a1 a2 => ?_
  refine w_call (mc := 600000 - h.2.1) (ms := rmS - h.2.2) hlo ?_ kk
  have hS : CallFix (bP B) (bM B) (bC B) cc nL (bS B) (bA B) h_tbl own := ⟨C.1, C.2.1, C.2.2.2.1, C.2.2.2.2.1, hts⟩
  rcases ml with ml | ⟨host, ml⟩
  · exact va_runS hS M ⟨callB_of n hts (good_tbl b1) rfl rfl rfl (hts _ b2) (hts _ ml) b3 (room_fr C hf hl), hts _ v1⟩ hpre rfl (by simpa using hn) (hls.trans C.2.2.2.1) rfl (lv_room (cat_room hs)) d (room_call C hR a1 a2)
  · exact va_runSN hS M ⟨va_cnB n hts (good_tbl b1) rfl rfl rfl (hK.2.2.2 _ ml) (hts _ b2) b3 (room_fr C hf hl), hts _ v1, trivial⟩ hpre rfl (by simpa using hn) (hls.trans C.2.2.2.1) rfl (lv_room (cat_room hs)) d (room_call C hR a1 a2)
theorem runsI (C : Cx B cc own ret nL n0 s0 kF kL) {y : MethodName} {cy : ByteArray} {nLy : Nat} {kF' kL' idx b n : Nat} {As : List Value} (ml : ML own idx y) (ce : CeI y cy nLy n) (hn : As.length = n) (hstk : As.reverse ++ .ref b :: st = stk) (hs : Nat.ble ((st.map fun v => v.category).sum) 8 = true) (hf : Nat.ble (kF' + 1) kF = true) (hl : Nat.ble (8 + (nLy + 11) + kL') kL = true) (d : decode cc pc = .ok (.invokespecial idx, 3)) : Runs B y cy nLy none kF' kL' (.ref b :: As) h pc stk st := by
  intro out h' M H locs ls Q hR hls hlo kk
  obtain ⟨⟨b1, b2, b3⟩, v1, v2⟩ := ce
  have hts := C.2.2.2.2.2.1
  have hK := C.2.2.2.2.2.2.2.1
  have hpre : PreS (bS B) H (fun v U => v = ((Value.ref b :: As).map (h_sh (hz (bD B)))).toArray ∧ h_R (bD B) h U.heap ∧ h_K (bD B) U) (.ref (hz (bD B) + b) :: As.map (h_sh (hz (bD B)))) :=
    ⟨pre_call (s := bS B) (y := y), fun U hU hW => ⟨rfl, by rw [hU]; exact hR, hK.warm hW⟩⟩
  rw [stk_sh hstk]
  refine W.tight fun a1 a2 => ?_
  refine w_call (mc := 600000 - h.2.1) (ms := rmS - h.2.2) hlo ?_ kk
  have hS : CallFix (bP B) (bM B) (bC B) cc nL (bS B) (bA B) h_tbl own := ⟨C.1, C.2.1, C.2.2.2.1, C.2.2.2.2.1, hts⟩
  rcases ml with ml | ⟨host, ml⟩
  · exact va_runI hS M ⟨callB_of n hts (good_tbl b1) rfl rfl rfl (hts _ b2) (hts _ ml) b3 (room_fr C hf hl), v1, hts _ v2⟩ hpre rfl (by simpa using hn) (hls.trans C.2.2.2.1) rfl (lv_room (cat_room hs)) d (room_call C hR a1 a2)
  · exact va_runIN hS M ⟨va_cnB n hts (good_tbl b1) rfl rfl rfl (hK.2.2.2 _ ml) (hts _ b2) b3 (room_fr C hf hl), v1, hts _ v2⟩ hpre rfl (by simpa using hn) (hls.trans C.2.2.2.1) rfl (lv_room (cat_room hs)) d (room_call C hR a1 a2)
/-! what comes back: an int, a long, a reference, nothing -/
theorem j_cI {f : Option (Int32 × Hp)} {u : Int32 → Hp → Option ρ} {y : MethodName} {cy : ByteArray} {nLy : Nat} {rety : Option FieldType} {kF' kL' : Nat} {As : List Value} (hc : ∀ x, f = some x → Runs B y cy nLy rety kF' kL' As h pc stk st ∧ Ct (bL B) (bD B) y cy nLy rety kF' kL' As h (some (.int x.1)) x.2) (kk : ∀ (r : Int32) (h' : Hp), J B Qf (u r h') h' (pc + 3) lv (.int r :: st)) : J B Qf (bnd2 f u) h pc lv stk := by
  intro r hr H locs ls hR hlo hls
  obtain ⟨a, h', h1, h2⟩ := bnd2_some hr
  obtain ⟨R, M⟩ := hc _ h1
  exact R _ _ M H locs ls _ hR hls.1 hlo (fun H' locs' hR' hlo' => kk a h' r h2 H' locs' ls hR' hlo' hls)
theorem j_cL {f : Option (Int64 × Hp)} {u : Int64 → Hp → Option ρ} {y : MethodName} {cy : ByteArray} {nLy : Nat} {rety : Option FieldType} {kF' kL' : Nat} {As : List Value} (hc : ∀ x, f = some x → Runs B y cy nLy rety kF' kL' As h pc stk st ∧ Ct (bL B) (bD B) y cy nLy rety kF' kL' As h (some (.long x.1)) x.2) (kk : ∀ (r : Int64) (h' : Hp), J B Qf (u r h') h' (pc + 3) lv (.long r :: st)) : J B Qf (bnd2 f u) h pc lv stk := by
  intro r hr H locs ls hR hlo hls
  obtain ⟨a, h', h1, h2⟩ := bnd2_some hr
  obtain ⟨R, M⟩ := hc _ h1
  exact R _ _ M H locs ls _ hR hls.1 hlo (fun H' locs' hR' hlo' => kk a h' r h2 H' locs' ls hR' hlo' hls)
theorem j_cR {f : Option (Nat × Hp)} {u : Nat → Hp → Option ρ} {y : MethodName} {cy : ByteArray} {nLy : Nat} {rety : Option FieldType} {kF' kL' : Nat} {As : List Value} (hc : ∀ x, f = some x → Runs B y cy nLy rety kF' kL' As h pc stk st ∧ Ct (bL B) (bD B) y cy nLy rety kF' kL' As h (some (.ref x.1)) x.2) (kk : ∀ (r : Nat) (h' : Hp), J B Qf (u r h') h' (pc + 3) lv (.ref r :: st)) : J B Qf (bnd2 f u) h pc lv stk := by
  intro r hr H locs ls hR hlo hls
  obtain ⟨a, h', h1, h2⟩ := bnd2_some hr
  obtain ⟨R, M⟩ := hc _ h1
  exact R _ _ M H locs ls _ hR hls.1 hlo (fun H' locs' hR' hlo' => kk a h' r h2 H' locs' ls hR' hlo' hls)
theorem j_cV {f : Option Hp} {u : Hp → Option ρ} {y : MethodName} {cy : ByteArray} {nLy : Nat} {rety : Option FieldType} {kF' kL' : Nat} {As : List Value} (hc : ∀ x, f = some x → Runs B y cy nLy rety kF' kL' As h pc stk st ∧ Ct (bL B) (bD B) y cy nLy rety kF' kL' As h none x) (kk : ∀ h' : Hp, J B Qf (u h') h' (pc + 3) lv st) : J B Qf (bnd f u) h pc lv stk := by
  intro r hr H locs ls hR hlo hls
  obtain ⟨h', h1, h2⟩ := bnd_some hr
  obtain ⟨R, M⟩ := hc _ h1
  exact R _ _ M H locs ls _ hR hls.1 hlo (fun H' locs' hR' hlo' => kk h' r h2 H' locs' ls hR' hlo' hls)
/-! returns -/
theorem room_ret (C : Cx B cc own ret nL n0 s0 kF kL) (hR : h_R (bD B) h H) : H.size - (bS B).heap.size ≤ 600000 - n0 ∧ htot H - htot (bS B).heap ≤ rmS - s0 := by
  obtain ⟨-, -, -, -, -, -, -, -, c1, c2, c3⟩ := C
  obtain ⟨r1, r2, r3, r4, -⟩ := hR
  omega
theorem j_iret (C : Cx B cc own (some .int) nL n0 s0 kF kL) {x : Int32} (d : decode cc pc = .ok (.ireturn, 1)) : J B (Qm B n0 s0 oI) (some (x, h)) h pc lv [.int x] := by
  intro r hr H locs ls hR hlo hls
  cases hr
  obtain ⟨m1, m2⟩ := room_ret C hR
  refine W.widen m1 m2 ?_
  exact W.iret C.1 C.2.1 C.2.2.1 (fun t ht hW => ⟨rfl, by rw [ht]; exact hR⟩) hlo d C.2.2.2.2.2.2.1
theorem nar01 {x : Int32} (h : x = 0 ∨ x = 1) : narrow .boolean (.int x) = .int x := by
  rcases h with rfl | rfl <;> rfl
theorem j_zret (C : Cx B cc own (some .boolean) nL n0 s0 kF kL) {x : Int32} (d : decode cc pc = .ok (.ireturn, 1)) : J B (Qm B n0 s0 oI) (rZ x h) h pc lv [.int x] := by
  intro r hr H locs ls hR hlo hls
  obtain ⟨h01, hr⟩ := if_some hr
  cases hr
  obtain ⟨m1, m2⟩ := room_ret C hR
  refine W.widen m1 m2 ?_
  exact W.zret C.1 C.2.1 C.2.2.1 (nar01 h01) (fun t ht hW => ⟨rfl, by rw [ht]; exact hR⟩) hlo d C.2.2.2.2.2.2.1
theorem j_lret (C : Cx B cc own (some .long) nL n0 s0 kF kL) {x : Int64} (d : decode cc pc = .ok (.lreturn, 1)) : J B (Qm B n0 s0 oL) (some (x, h)) h pc lv [.long x] := by
  intro r hr H locs ls hR hlo hls
  cases hr
  obtain ⟨m1, m2⟩ := room_ret C hR
  refine W.widen m1 m2 ?_
  exact W.lret C.1 C.2.1 C.2.2.1 (fun t ht hW => ⟨rfl, by rw [ht]; exact hR⟩) hlo d C.2.2.2.2.2.2.1
theorem j_aret {et : FieldType} (C : Cx B cc own (some (.array et)) nL n0 s0 kF kL) {a : Nat} (d : decode cc pc = .ok (.areturn, 1)) : J B (Qm B n0 s0 oR) (some (a, h)) h pc lv [.ref a] := by
  intro r hr H locs ls hR hlo hls
  cases hr
  obtain ⟨m1, m2⟩ := room_ret C hR
  refine W.widen m1 m2 ?_
  exact W.aret C.1 C.2.1 C.2.2.1 (Or.inr ⟨_, rfl⟩) (Or.inr ⟨_, rfl⟩) (fun t ht hW => ⟨rfl, by rw [ht]; exact hR⟩) hlo d C.2.2.2.2.2.2.1
theorem j_vret (C : Cx B cc own none nL n0 s0 kF kL) (d : decode cc pc = .ok (.return_, 1)) : J B (Qm B n0 s0 oV) (some h) h pc lv [] := by
  intro r hr H locs ls hR hlo hls
  cases hr
  obtain ⟨m1, m2⟩ := room_ret C hR
  refine W.widen m1 m2 ?_
  exact W.vret C.1 C.2.1 C.2.2.1 (fun t ht hW => ⟨rfl, by rw [ht]; exact hR⟩) hlo d C.2.2.2.2.2.2.1
theorem j_objInit (C : Cx B cc own ret nL n0 s0 kF kL) {idx a : Nat} (hw : Cond.methodLink own idx objectInit ∈ h_tbl) (hi : Cond.instanceMethod objectInit ∈ h_tbl) (hc : Cond.code objectInit ⟨#[0xb1]⟩ 1 none ∈ h_tbl) (hf : Nat.ble 1 kF = true) (hl : Nat.ble 20 kL = true) (hs : Nat.ble ((st.map fun v => v.category).sum) 8 = true) (d : decode cc pc = .ok (.invokespecial idx, 3)) (kk : J B Qf t h (pc + 3) lv st) : J B Qf t h pc lv (.ref a :: st) := by
  intro r hr H locs ls hR hlo hls
  have hts := C.2.2.2.2.2.1
  obtain ⟨-, -, -, -, -, -, -, -, c1, c2, c3⟩ := id C
  have h1 := Nat.le_of_ble_eq_true hf
  have h2 := Nat.le_of_ble_eq_true hl
  have h3 := cat_room (B := B) hs
  refine W.objInit C.1 C.2.1 C.2.2.2.2.1 (hts _ hw) (hts _ hi) (hts _ hc) rfl hls.1 (rest := shv B st) rfl d (by rw [c3]; exact h1) (by
    rw [c3]
    show 2 * 0 + _ + 12 ≤ kL
    omega) (kk r hr H locs ls hR hlo hls)
theorem j_dup2 (C : Cx B cc own ret nL n0 s0 kF kL) {v w : Value} (d : decode cc pc = .ok (.dup2, 1)) (hv : v.category = 1) (hw : w.category = 1) (kk : J B Qf t h (pc + 1) lv (v :: w :: v :: w :: st)) : J B Qf t h pc lv (v :: w :: st) :=
  J.pure (fun H locs cells slots Q ls hls k => lv_dup2_11 C.1 C.2.1 d ((h_cat _ _).trans hv) ((h_cat _ _).trans hw) k) kk
end CR
