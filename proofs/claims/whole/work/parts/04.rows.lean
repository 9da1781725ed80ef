/-! ===== the judgement J: at pc, with these locals and this stack (references relative), the function t tells what comes ===== -/
abbrev Bx : Type := Program × Launch × Env × Room × State × MethodId × Array Value × List Frame × Method × Code × hD
abbrev bP (B : Bx) : Program := B.1
abbrev bL (B : Bx) : Launch := B.2.1
abbrev bE (B : Bx) : Env := B.2.2.1
abbrev bR (B : Bx) : Room := B.2.2.2.1
abbrev bS (B : Bx) : State := B.2.2.2.2.1
abbrev bM (B : Bx) : MethodId := B.2.2.2.2.2.1
abbrev bA (B : Bx) : Array Value := B.2.2.2.2.2.2.1
abbrev bBel (B : Bx) : List Frame := B.2.2.2.2.2.2.2.1
abbrev bMe (B : Bx) : Method := B.2.2.2.2.2.2.2.2.1
abbrev bC (B : Bx) : Code := B.2.2.2.2.2.2.2.2.2.1
abbrev bD (B : Bx) : hD := B.2.2.2.2.2.2.2.2.2.2
abbrev WB (B : Bx) (H : Heap) (locs : List Loc) (cells slots : Nat) (Q : State → Prop) (g : JFrame) : Prop := W (bP B) (bL B) (bE B) (bR B) (bS B) (bM B) (bA B) (bBel B) (bMe B) (bC B) H locs cells slots Q g
abbrev shv (B : Bx) (st : List Value) : List Value := st.map (h_sh (hz (bD B)))
abbrev shl (B : Bx) (lv : List (Nat × Value)) : List (Nat × Value) := lv.map (fun q => (q.1, h_sh (hz (bD B)) q.2))
def J {ρ : Type} (B : Bx) (Qf : ρ → State → Prop) (t : Option ρ) (h : Hp) (pc : Nat) (lv : List (Nat × Value)) (st : List Value) : Prop :=
  ∀ r : ρ, t = some r → ∀ (H : Heap) (locs : List Loc) (ls : Array Slot), h_R (bD B) h H → (∀ q ∈ locs, hz (bD B) ≤ q.base) → lv_has ls (bC B).maxLocals (shl B lv) →
    WB B H locs (H.size - (bS B).heap.size) (htot H - htot (bS B).heap) (Qf r) (F0 (bM B) pc ls (shv B st))
/-- what is known in a method's body: its code, class, return type, the tables, where it began (n0 cells, s0 slots), its frames and words of stack -/
def Cx (B : Bx) (cc : ByteArray) (own : String) (ret : Option FieldType) (nL n0 s0 kF kL : Nat) : Prop :=
  (bP B).tables.exec = Jvm.exec ∧ (bC B).code = cc ∧ (bMe B).sig.returnType = ret ∧ (bC B).maxLocals = nL ∧ (bS B).vm.findClass own = some (bM B).cls ∧ (∀ w ∈ h_tbl, w.before (bA B) (bS B) = true) ∧ (bMe B).locks = false ∧ h_K (bD B) (bS B) ∧
  (bS B).heap.size = hz (bD B) + n0 ∧ htot (bS B).heap = htot (bD B).2.2.2 + s0 ∧ (bR B) = ⟨kF, 600000 - n0, rmS - s0, kL⟩
section JR
variable {ρ : Type} {B : Bx} {Qf : ρ → State → Prop} {t : Option ρ} {h : Hp} {pc pc' : Nat} {lv lv' : List (Nat × Value)} {st st' : List Value} {cc : ByteArray} {own : String} {ret : Option FieldType} {nL n0 s0 kF kL : Nat}
/-- an instruction that leaves heap and locals alone -/
theorem J.pure (hW : ∀ (H : Heap) (locs : List Loc) (cells slots : Nat) (Q : State → Prop) (ls : Array Slot), lv_has ls (bC B).maxLocals (shl B lv) → WB B H locs cells slots Q (F0 (bM B) pc' ls (shv B st')) → WB B H locs cells slots Q (F0 (bM B) pc ls (shv B st)))
    (k : J B Qf t h pc' lv st') : J B Qf t h pc lv st := fun r hr H locs ls hR hlo hls => hW H locs _ _ _ ls hls (k r hr H locs ls hR hlo hls)
theorem J.none : J B Qf none h pc lv st := fun r hr => by cases hr
theorem shl_at {lv : List (Nat × Value)} {k i : Nat} {v : Value} (hk : lv[k]? = some (i, v)) : (shl B lv)[k]? = some (i, h_sh (hz (bD B)) v) := by
  simp [shl, List.getElem?_map, hk]
theorem j_aload_n (C : Cx B cc own ret nL n0 s0 kF kL) {k : Fin 4} {i a : Nat} (d : decode cc pc = .ok (.aload_n k, 1)) (q : Nat) (hi : (k : Nat) = i) (hk : lv[q]? = some (i, .ref a)) (kk : J B Qf t h (pc + 1) lv (.ref a :: st)) : J B Qf t h pc lv st :=
  J.pure (fun H locs cells slots Q ls hls k => lv_aload_n C.1 C.2.1 d hi (lv_at hls q (shl_at hk)) k) kk
theorem j_aload (C : Cx B cc own ret nL n0 s0 kF kL) {i a : Nat} (d : decode cc pc = .ok (.aload i, 2)) (q : Nat) (hk : lv[q]? = some (i, .ref a)) (kk : J B Qf t h (pc + 2) lv (.ref a :: st)) : J B Qf t h pc lv st :=
  J.pure (fun H locs cells slots Q ls hls k => lv_aload C.1 C.2.1 d (lv_at hls q (shl_at hk)) k) kk
theorem j_iload_n (C : Cx B cc own ret nL n0 s0 kF kL) {k : Fin 4} {i : Nat} {x : Int32} (d : decode cc pc = .ok (.iload_n k, 1)) (q : Nat) (hi : (k : Nat) = i) (hk : lv[q]? = some (i, .int x)) (kk : J B Qf t h (pc + 1) lv (.int x :: st)) : J B Qf t h pc lv st :=
  J.pure (fun H locs cells slots Q ls hls k => lv_iload_n C.1 C.2.1 d hi (lv_at hls q (shl_at hk)) k) kk
theorem j_iload (C : Cx B cc own ret nL n0 s0 kF kL) {i : Nat} {x : Int32} (d : decode cc pc = .ok (.iload i, 2)) (q : Nat) (hk : lv[q]? = some (i, .int x)) (kk : J B Qf t h (pc + 2) lv (.int x :: st)) : J B Qf t h pc lv st :=
  J.pure (fun H locs cells slots Q ls hls k => lv_iload C.1 C.2.1 d (lv_at hls q (shl_at hk)) k) kk
theorem j_lload_n (C : Cx B cc own ret nL n0 s0 kF kL) {k : Fin 4} {i : Nat} {x : Int64} (d : decode cc pc = .ok (.lload_n k, 1)) (q : Nat) (hi : (k : Nat) = i) (hk : lv[q]? = some (i, .long x)) (kk : J B Qf t h (pc + 1) lv (.long x :: st)) : J B Qf t h pc lv st :=
  J.pure (fun H locs cells slots Q ls hls k => lv_lload_n C.1 C.2.1 d hi (lv_at hls q (shl_at hk)) k) kk
theorem j_lload (C : Cx B cc own ret nL n0 s0 kF kL) {i : Nat} {x : Int64} (d : decode cc pc = .ok (.lload i, 2)) (q : Nat) (hk : lv[q]? = some (i, .long x)) (kk : J B Qf t h (pc + 2) lv (.long x :: st)) : J B Qf t h pc lv st :=
  J.pure (fun H locs cells slots Q ls hls k => lv_lload C.1 C.2.1 d (lv_at hls q (shl_at hk)) k) kk
theorem j_iconst (C : Cx B cc own ret nL n0 s0 kF kL) {n : Int} (v : Int32) (d : decode cc pc = .ok (.iconst n, 1)) (hv : Int32.ofInt n = v) (kk : J B Qf t h (pc + 1) lv (.int v :: st)) : J B Qf t h pc lv st :=
  J.pure (fun H locs cells slots Q ls hls k => lv_iconst C.1 C.2.1 d hv k) kk
theorem j_bipush (C : Cx B cc own ret nL n0 s0 kF kL) {n : Int} (v : Int32) (d : decode cc pc = .ok (.bipush n, 2)) (hv : (Int8.ofInt n).toInt32 = v) (kk : J B Qf t h (pc + 2) lv (.int v :: st)) : J B Qf t h pc lv st :=
  J.pure (fun H locs cells slots Q ls hls k => lv_bipush C.1 C.2.1 d hv k) kk
theorem j_sipush (C : Cx B cc own ret nL n0 s0 kF kL) {n : Int} (v : Int32) (d : decode cc pc = .ok (.sipush n, 3)) (hv : (Int16.ofInt n).toInt32 = v) (kk : J B Qf t h (pc + 3) lv (.int v :: st)) : J B Qf t h pc lv st :=
  J.pure (fun H locs cells slots Q ls hls k => lv_sipush C.1 C.2.1 d hv k) kk
theorem j_lconst (C : Cx B cc own ret nL n0 s0 kF kL) {n : Fin 2} (v : Int64) (d : decode cc pc = .ok (.lconst n, 1)) (hv : Int64.ofNat (n : Nat) = v) (kk : J B Qf t h (pc + 1) lv (.long v :: st)) : J B Qf t h pc lv st :=
  J.pure (fun H locs cells slots Q ls hls k => lv_lconst C.1 C.2.1 d hv k) kk
theorem j_ldc (C : Cx B cc own ret nL n0 s0 kF kL) {i : Nat} {v : Int32} (d : decode cc pc = .ok (.ldc i, 2)) (hw : Cond.constant own i v ∈ h_tbl) (kk : J B Qf t h (pc + 2) lv (.int v :: st)) : J B Qf t h pc lv st :=
  J.pure (fun H locs cells slots Q ls hls k => lv_ldc C.1 C.2.1 C.2.2.2.2.1 (C.2.2.2.2.2.1 _ hw) d k) kk
theorem j_ldc_w (C : Cx B cc own ret nL n0 s0 kF kL) {i : Nat} {v : Int32} (d : decode cc pc = .ok (.ldc_w i, 3)) (hw : Cond.constant own i v ∈ h_tbl) (kk : J B Qf t h (pc + 3) lv (.int v :: st)) : J B Qf t h pc lv st :=
  J.pure (fun H locs cells slots Q ls hls k => lv_ldcw C.1 C.2.1 C.2.2.2.2.1 (C.2.2.2.2.2.1 _ hw) d k) kk
theorem j_ldc2_w (C : Cx B cc own ret nL n0 s0 kF kL) {i : Nat} {v : Int64} (d : decode cc pc = .ok (.ldc2_w i, 3)) (hw : Cond.constantLong own i v ∈ h_tbl) (kk : J B Qf t h (pc + 3) lv (.long v :: st)) : J B Qf t h pc lv st :=
  J.pure (fun H locs cells slots Q ls hls k => lv_ldc2 C.1 C.2.1 C.2.2.2.2.1 (C.2.2.2.2.2.1 _ hw) d k) kk
theorem j_iadd (C : Cx B cc own ret nL n0 s0 kF kL) {x y : Int32} (d : decode cc pc = .ok (.iadd, 1)) (kk : J B Qf t h (pc + 1) lv (.int (x + y) :: st)) : J B Qf t h pc lv (.int y :: .int x :: st) :=
  J.pure (fun H locs cells slots Q ls hls k => lv_iadd C.1 C.2.1 d k) kk
theorem j_isub (C : Cx B cc own ret nL n0 s0 kF kL) {x y : Int32} (d : decode cc pc = .ok (.isub, 1)) (kk : J B Qf t h (pc + 1) lv (.int (x - y) :: st)) : J B Qf t h pc lv (.int y :: .int x :: st) :=
  J.pure (fun H locs cells slots Q ls hls k => lv_isub C.1 C.2.1 d k) kk
theorem j_imul (C : Cx B cc own ret nL n0 s0 kF kL) {x y : Int32} (d : decode cc pc = .ok (.imul, 1)) (kk : J B Qf t h (pc + 1) lv (.int (x * y) :: st)) : J B Qf t h pc lv (.int y :: .int x :: st) :=
  J.pure (fun H locs cells slots Q ls hls k => lv_imul C.1 C.2.1 d k) kk
theorem j_iand (C : Cx B cc own ret nL n0 s0 kF kL) {x y : Int32} (d : decode cc pc = .ok (.iand, 1)) (kk : J B Qf t h (pc + 1) lv (.int (x &&& y) :: st)) : J B Qf t h pc lv (.int y :: .int x :: st) :=
  J.pure (fun H locs cells slots Q ls hls k => lv_iand C.1 C.2.1 d k) kk
theorem j_ior (C : Cx B cc own ret nL n0 s0 kF kL) {x y : Int32} (d : decode cc pc = .ok (.ior, 1)) (kk : J B Qf t h (pc + 1) lv (.int (x ||| y) :: st)) : J B Qf t h pc lv (.int y :: .int x :: st) :=
  J.pure (fun H locs cells slots Q ls hls k => lv_ior C.1 C.2.1 d k) kk
theorem j_ixor (C : Cx B cc own ret nL n0 s0 kF kL) {x y : Int32} (d : decode cc pc = .ok (.ixor, 1)) (kk : J B Qf t h (pc + 1) lv (.int (x ^^^ y) :: st)) : J B Qf t h pc lv (.int y :: .int x :: st) :=
  J.pure (fun H locs cells slots Q ls hls k => lv_ixor C.1 C.2.1 d k) kk
theorem j_ishl (C : Cx B cc own ret nL n0 s0 kF kL) {x y : Int32} (d : decode cc pc = .ok (.ishl, 1)) (kk : J B Qf t h (pc + 1) lv (.int (x <<< (y &&& 31)) :: st)) : J B Qf t h pc lv (.int y :: .int x :: st) :=
  J.pure (fun H locs cells slots Q ls hls k => lv_ishl C.1 C.2.1 d k) kk
theorem j_ishr (C : Cx B cc own ret nL n0 s0 kF kL) {x y : Int32} (d : decode cc pc = .ok (.ishr, 1)) (kk : J B Qf t h (pc + 1) lv (.int (x >>> (y &&& 31)) :: st)) : J B Qf t h pc lv (.int y :: .int x :: st) :=
  J.pure (fun H locs cells slots Q ls hls k => lv_ishr C.1 C.2.1 d k) kk
theorem j_iushr (C : Cx B cc own ret nL n0 s0 kF kL) {x y : Int32} (d : decode cc pc = .ok (.iushr, 1)) (kk : J B Qf t h (pc + 1) lv (.int (x.toUInt32 >>> (y.toUInt32 &&& Int32.toUInt32 31)).toInt32 :: st)) : J B Qf t h pc lv (.int y :: .int x :: st) :=
  J.pure (fun H locs cells slots Q ls hls k => lv_iushr C.1 C.2.1 d rfl k) kk
theorem j_ladd (C : Cx B cc own ret nL n0 s0 kF kL) {x y : Int64} (d : decode cc pc = .ok (.ladd, 1)) (kk : J B Qf t h (pc + 1) lv (.long (x + y) :: st)) : J B Qf t h pc lv (.long y :: .long x :: st) :=
  J.pure (fun H locs cells slots Q ls hls k => lv_ladd C.1 C.2.1 d k) kk
theorem j_lmul (C : Cx B cc own ret nL n0 s0 kF kL) {x y : Int64} (d : decode cc pc = .ok (.lmul, 1)) (kk : J B Qf t h (pc + 1) lv (.long (x * y) :: st)) : J B Qf t h pc lv (.long y :: .long x :: st) :=
  J.pure (fun H locs cells slots Q ls hls k => lv_lmul C.1 C.2.1 d k) kk
theorem j_land (C : Cx B cc own ret nL n0 s0 kF kL) {x y : Int64} (d : decode cc pc = .ok (.land, 1)) (kk : J B Qf t h (pc + 1) lv (.long (x &&& y) :: st)) : J B Qf t h pc lv (.long y :: .long x :: st) :=
  J.pure (fun H locs cells slots Q ls hls k => lv_land C.1 C.2.1 d k) kk
theorem j_lor (C : Cx B cc own ret nL n0 s0 kF kL) {x y : Int64} (d : decode cc pc = .ok (.lor, 1)) (kk : J B Qf t h (pc + 1) lv (.long (x ||| y) :: st)) : J B Qf t h pc lv (.long y :: .long x :: st) :=
  J.pure (fun H locs cells slots Q ls hls k => lv_lor C.1 C.2.1 d k) kk
theorem j_i2l (C : Cx B cc own ret nL n0 s0 kF kL) {x : Int32} (d : decode cc pc = .ok (.i2l, 1)) (kk : J B Qf t h (pc + 1) lv (.long x.toInt64 :: st)) : J B Qf t h pc lv (.int x :: st) :=
  J.pure (fun H locs cells slots Q ls hls k => lv_i2l C.1 C.2.1 d rfl k) kk
theorem j_l2i (C : Cx B cc own ret nL n0 s0 kF kL) {x : Int64} (d : decode cc pc = .ok (.l2i, 1)) (kk : J B Qf t h (pc + 1) lv (.int x.toInt32 :: st)) : J B Qf t h pc lv (.long x :: st) :=
  J.pure (fun H locs cells slots Q ls hls k => lv_l2i C.1 C.2.1 d rfl k) kk
theorem j_i2b (C : Cx B cc own ret nL n0 s0 kF kL) {x : Int32} (d : decode cc pc = .ok (.i2b, 1)) (kk : J B Qf t h (pc + 1) lv (.int x.toInt8.toInt32 :: st)) : J B Qf t h pc lv (.int x :: st) :=
  J.pure (fun H locs cells slots Q ls hls k => lv_i2b C.1 C.2.1 d rfl k) kk
theorem j_lshr (C : Cx B cc own ret nL n0 s0 kF kL) {x : Int64} {y : Int32} (d : decode cc pc = .ok (.lshr, 1)) (kk : J B Qf t h (pc + 1) lv (.long (x >>> (y.toInt64 &&& 63)) :: st)) : J B Qf t h pc lv (.int y :: .long x :: st) :=
  J.pure (fun H locs cells slots Q ls hls k => lv_lshr C.1 C.2.1 d rfl k) kk
theorem j_lshl (C : Cx B cc own ret nL n0 s0 kF kL) {x : Int64} {y : Int32} (d : decode cc pc = .ok (.lshl, 1)) (kk : J B Qf t h (pc + 1) lv (.long (x <<< (y.toInt64 &&& 63)) :: st)) : J B Qf t h pc lv (.int y :: .long x :: st) :=
  J.pure (fun H locs cells slots Q ls hls k => lv_lshl C.1 C.2.1 d rfl k) kk
theorem j_lcmp (C : Cx B cc own ret nL n0 s0 kF kL) {x y : Int64} (d : decode cc pc = .ok (.lcmp, 1)) (kk : J B Qf t h (pc + 1) lv (.int (lg_cmp x y) :: st)) : J B Qf t h pc lv (.long y :: .long x :: st) :=
  J.pure (fun H locs cells slots Q ls hls k => W.lcmp C.1 C.2.1 d k) kk
theorem j_dup (C : Cx B cc own ret nL n0 s0 kF kL) {v : Value} (d : decode cc pc = .ok (.dup, 1)) (hc : ∀ z, (h_sh z v).category = 1) (kk : J B Qf t h (pc + 1) lv (v :: v :: st)) : J B Qf t h pc lv (v :: st) :=
  J.pure (fun H locs cells slots Q ls hls k => lv_dup C.1 C.2.1 d (hc _) k) kk
theorem j_goto (C : Cx B cc own ret nL n0 s0 kF kL) {off : Int} (tgt : Nat) (d : decode cc pc = .ok (.goto off, 3)) (ht : (pc : Int) + off = (tgt : Int)) (kk : J B Qf t h tgt lv st) : J B Qf t h pc lv st :=
  J.pure (fun H locs cells slots Q ls hls k => lv_goto C.1 C.2.1 d ht k) kk
/-- a division: the divisor is looked at -/
theorem j_idiv (C : Cx B cc own ret nL n0 s0 kF kL) {x y : Int32} {u : Option ρ} (d : decode cc pc = .ok (.idiv, 1)) (kk : J B Qf u h (pc + 1) lv (.int (x / y) :: st)) : J B Qf (if y = 0 then none else u) h pc lv (.int y :: .int x :: st) := by
  intro r hr H locs ls hR hlo hls
  by_cases hy : y = 0
  · rw [if_pos hy] at hr; cases hr
  · rw [if_neg hy] at hr
    exact lv_idiv C.1 C.2.1 d hy (kk r hr H locs ls hR hlo hls)
theorem j_irem (C : Cx B cc own ret nL n0 s0 kF kL) {x y : Int32} {u : Option ρ} (d : decode cc pc = .ok (.irem, 1)) (kk : J B Qf u h (pc + 1) lv (.int (x - x / y * y) :: st)) : J B Qf (if y = 0 then none else u) h pc lv (.int y :: .int x :: st) := by
  intro r hr H locs ls hR hlo hls
  by_cases hy : y = 0
  · rw [if_pos hy] at hr; cases hr
  · rw [if_neg hy] at hr
    exact lv_irem C.1 C.2.1 d hy (kk r hr H locs ls hR hlo hls)
theorem j_lrem (C : Cx B cc own ret nL n0 s0 kF kL) {x y : Int64} {u : Option ρ} (d : decode cc pc = .ok (.lrem, 1)) (kk : J B Qf u h (pc + 1) lv (.long (x - x / y * y) :: st)) : J B Qf (if y = 0 then none else u) h pc lv (.long y :: .long x :: st) := by
  intro r hr H locs ls hR hlo hls
  by_cases hy : y = 0
  · rw [if_pos hy] at hr; cases hr
  · rw [if_neg hy] at hr
    exact lv_lrem C.1 C.2.1 d hy (kk r hr H locs ls hR hlo hls)
/-- the locals that are not needed any more are dropped -/
theorem J.sub (ks : List Nat) (hl : lv_pick lv ks = lv') (kk : J B Qf t h pc lv' st) : J B Qf t h pc lv st := by
  intro r hr H locs ls hR hlo hls
  refine kk r hr H locs ls hR hlo (lv_sub hls ks ?_)
  rw [← hl]
  simp only [lv_pick, shl, List.getElem?_map, List.map_filterMap]
/-! stores -/
theorem h_cat (z : Nat) (v : Value) : (h_sh z v).category = v.category := by cases v <;> rfl
theorem shl_filter {i : Nat} (f : Nat → Value → Bool) (hf : ∀ k z v, f k (h_sh z v) = f k v) : (shl B lv).filter (fun q => f q.1 q.2) = shl B (lv.filter (fun q => f q.1 q.2)) := by
  induction lv with
  | nil => rfl
  | cons x l ih =>
    simp only [shl, List.map_cons, List.filter_cons, hf] at ih ⊢
    split
    · rw [List.map_cons, ← ih]
    · rw [← ih]
theorem shl_put1 {i : Nat} {v : Value} (hl : (i, v) :: lv.filter (fun q => !(q.1 == i) && !(q.1 + 1 == i && q.2.category == 2)) = lv') : (i, h_sh (hz (bD B)) v) :: (shl B lv).filter (fun q => !(q.1 == i) && !(q.1 + 1 == i && q.2.category == 2)) = shl B lv' := by
  rw [← hl, shl_filter (i := i) (fun k v => !(k == i) && !(k + 1 == i && v.category == 2)) (fun k z v => by rw [h_cat])]
  rfl
theorem shl_put2 {i : Nat} {v : Value} (hl : (i, v) :: lv.filter (fun q => !(q.1 == i) && (!(q.1 == i + 1) && !(q.1 + 1 == i && q.2.category == 2))) = lv') : (i, h_sh (hz (bD B)) v) :: (shl B lv).filter (fun q => !(q.1 == i) && (!(q.1 == i + 1) && !(q.1 + 1 == i && q.2.category == 2))) = shl B lv' := by
  rw [← hl, shl_filter (i := i) (fun k v => !(k == i) && (!(k == i + 1) && !(k + 1 == i && v.category == 2))) (fun k z v => by rw [h_cat])]
  rfl
theorem j_istore_n (C : Cx B cc own ret nL n0 s0 kF kL) {k : Fin 4} {i : Nat} {x : Int32} (d : decode cc pc = .ok (.istore_n k, 1)) (hi : (k : Nat) = i) (hn : Nat.blt i nL = true) (hl : (i, Value.int x) :: lv.filter (fun q => !(q.1 == i) && !(q.1 + 1 == i && q.2.category == 2)) = lv') (kk : J B Qf t h (pc + 1) lv' st) : J B Qf t h pc lv (.int x :: st) :=
  fun r hr H locs ls hR hlo hls => lv_istore_n C.1 C.2.1 d hi hls (by rw [C.2.2.2.1]; simpa using hn) (shl_put1 (v := .int x) hl) (fun ls' hls' => kk r hr H locs ls' hR hlo hls')
theorem j_istore (C : Cx B cc own ret nL n0 s0 kF kL) {i : Nat} {x : Int32} (d : decode cc pc = .ok (.istore i, 2)) (hn : Nat.blt i nL = true) (hl : (i, Value.int x) :: lv.filter (fun q => !(q.1 == i) && !(q.1 + 1 == i && q.2.category == 2)) = lv') (kk : J B Qf t h (pc + 2) lv' st) : J B Qf t h pc lv (.int x :: st) :=
  fun r hr H locs ls hR hlo hls => lv_istore C.1 C.2.1 d hls (by rw [C.2.2.2.1]; simpa using hn) (shl_put1 (v := .int x) hl) (fun ls' hls' => kk r hr H locs ls' hR hlo hls')
theorem j_astore_n (C : Cx B cc own ret nL n0 s0 kF kL) {k : Fin 4} {i a : Nat} (d : decode cc pc = .ok (.astore_n k, 1)) (hi : (k : Nat) = i) (hn : Nat.blt i nL = true) (hl : (i, Value.ref a) :: lv.filter (fun q => !(q.1 == i) && !(q.1 + 1 == i && q.2.category == 2)) = lv') (kk : J B Qf t h (pc + 1) lv' st) : J B Qf t h pc lv (.ref a :: st) :=
  fun r hr H locs ls hR hlo hls => lv_astore_n C.1 C.2.1 d hi hls (by rw [C.2.2.2.1]; simpa using hn) (shl_put1 (v := .ref a) hl) (fun ls' hls' => kk r hr H locs ls' hR hlo hls')
theorem j_astore (C : Cx B cc own ret nL n0 s0 kF kL) {i a : Nat} (d : decode cc pc = .ok (.astore i, 2)) (hn : Nat.blt i nL = true) (hl : (i, Value.ref a) :: lv.filter (fun q => !(q.1 == i) && !(q.1 + 1 == i && q.2.category == 2)) = lv') (kk : J B Qf t h (pc + 2) lv' st) : J B Qf t h pc lv (.ref a :: st) :=
  fun r hr H locs ls hR hlo hls => lv_astore C.1 C.2.1 d hls (by rw [C.2.2.2.1]; simpa using hn) (shl_put1 (v := .ref a) hl) (fun ls' hls' => kk r hr H locs ls' hR hlo hls')
theorem j_lstore (C : Cx B cc own ret nL n0 s0 kF kL) {i : Nat} {x : Int64} (d : decode cc pc = .ok (.lstore i, 2)) (hn : Nat.blt (i + 1) nL = true) (hl : (i, Value.long x) :: lv.filter (fun q => !(q.1 == i) && (!(q.1 == i + 1) && !(q.1 + 1 == i && q.2.category == 2))) = lv') (kk : J B Qf t h (pc + 2) lv' st) : J B Qf t h pc lv (.long x :: st) :=
  fun r hr H locs ls hR hlo hls => lv_lstore C.1 C.2.1 d hls (by rw [C.2.2.2.1]; simpa using hn) (shl_put2 (v := .long x) hl) (fun ls' hls' => kk r hr H locs ls' hR hlo hls')
theorem j_lstore_n (C : Cx B cc own ret nL n0 s0 kF kL) {k : Fin 4} {i : Nat} {x : Int64} (d : decode cc pc = .ok (.lstore_n k, 1)) (hi : (k : Nat) = i) (hn : Nat.blt (i + 1) nL = true) (hl : (i, Value.long x) :: lv.filter (fun q => !(q.1 == i) && (!(q.1 == i + 1) && !(q.1 + 1 == i && q.2.category == 2))) = lv') (kk : J B Qf t h (pc + 1) lv' st) : J B Qf t h pc lv (.long x :: st) :=
  fun r hr H locs ls hR hlo hls => lv_lstore_n C.1 C.2.1 d hi hls (by rw [C.2.2.2.1]; simpa using hn) (shl_put2 (v := .long x) hl) (fun ls' hls' => kk r hr H locs ls' hR hlo hls')
theorem j_iinc (C : Cx B cc own ret nL n0 s0 kF kL) {i : Nat} {n : Int} {x : Int32} (y : Int32) (d : decode cc pc = .ok (.iinc i n, 3)) (q : Nat) (hk : lv[q]? = some (i, .int x)) (hy : Int32.ofInt n = y) (hn : Nat.blt i nL = true) (hl : (i, Value.int (x + y)) :: lv.filter (fun q => !(q.1 == i) && !(q.1 + 1 == i && q.2.category == 2)) = lv') (kk : J B Qf t h (pc + 3) lv' st) : J B Qf t h pc lv st :=
  fun r hr H locs ls hR hlo hls => lv_iinc (v := x + y) C.1 C.2.1 d hls (shl_at hk) (by rw [hy]) (by rw [C.2.2.2.1]; simpa using hn) (shl_put1 (v := .int (x + y)) hl) (fun ls' hls' => kk r hr H locs ls' hR hlo hls')
/-! branches -/
theorem J.ite {c : Prop} [Decidable c] {u v : Option ρ} (hW : ∀ (H : Heap) (locs : List Loc) (cells slots : Nat) (Q : State → Prop) (ls : Array Slot), lv_has ls (bC B).maxLocals (shl B lv) → (c → WB B H locs cells slots Q (F0 (bM B) pc' ls (shv B st'))) → (¬ c → WB B H locs cells slots Q (F0 (bM B) (pc + 3) ls (shv B st'))) → WB B H locs cells slots Q (F0 (bM B) pc ls (shv B st)))
    (kt : c → J B Qf u h pc' lv st') (kf : ¬ c → J B Qf v h (pc + 3) lv st') : J B Qf (if c then u else v) h pc lv st := by
  intro r hr H locs ls hR hlo hls
  refine hW H locs _ _ _ ls hls (fun hc => ?_) (fun hc => ?_)
  · rw [if_pos hc] at hr
    exact kt hc r hr H locs ls hR hlo hls
  · rw [if_neg hc] at hr
    exact kf hc r hr H locs ls hR hlo hls
theorem j_icmp_eq (C : Cx B cc own ret nL n0 s0 kF kL) {x y : Int32} {off : Int} (tgt : Nat) {u v : Option ρ} (d : decode cc pc = .ok (.if_icmp .eq off, 3)) (ht : (pc : Int) + off = (tgt : Int)) (kt : x = y → J B Qf u h tgt lv st) (kf : ¬ x = y → J B Qf v h (pc + 3) lv st) : J B Qf (if x = y then u else v) h pc lv (.int y :: .int x :: st) :=
  J.ite (fun H locs cells slots Q ls hls k1 k2 => lv_icmp_eq C.1 C.2.1 d ht k1 k2) kt kf
theorem j_icmp_ne (C : Cx B cc own ret nL n0 s0 kF kL) {x y : Int32} {off : Int} (tgt : Nat) {u v : Option ρ} (d : decode cc pc = .ok (.if_icmp .ne off, 3)) (ht : (pc : Int) + off = (tgt : Int)) (kt : ¬ x = y → J B Qf u h tgt lv st) (kf : x = y → J B Qf v h (pc + 3) lv st) : J B Qf (if x = y then v else u) h pc lv (.int y :: .int x :: st) := by
  intro r hr H locs ls hR hlo hls
  refine lv_icmp_ne C.1 C.2.1 d ht (fun hc => ?_) (fun hc => ?_)
  · rw [if_neg hc] at hr
    exact kt hc r hr H locs ls hR hlo hls
  · rw [if_pos hc] at hr
    exact kf hc r hr H locs ls hR hlo hls
theorem j_icmp_ge (C : Cx B cc own ret nL n0 s0 kF kL) {x y : Int32} {off : Int} (tgt : Nat) {u v : Option ρ} (d : decode cc pc = .ok (.if_icmp .ge off, 3)) (ht : (pc : Int) + off = (tgt : Int)) (kt : y ≤ x → J B Qf u h tgt lv st) (kf : ¬ y ≤ x → J B Qf v h (pc + 3) lv st) : J B Qf (if y ≤ x then u else v) h pc lv (.int y :: .int x :: st) :=
  J.ite (fun H locs cells slots Q ls hls k1 k2 => lv_icmp_ge C.1 C.2.1 d ht k1 k2) kt kf
theorem j_icmp_lt (C : Cx B cc own ret nL n0 s0 kF kL) {x y : Int32} {off : Int} (tgt : Nat) {u v : Option ρ} (d : decode cc pc = .ok (.if_icmp .lt off, 3)) (ht : (pc : Int) + off = (tgt : Int)) (kt : x < y → J B Qf u h tgt lv st) (kf : ¬ x < y → J B Qf v h (pc + 3) lv st) : J B Qf (if x < y then u else v) h pc lv (.int y :: .int x :: st) :=
  J.ite (fun H locs cells slots Q ls hls k1 k2 => lv_icmp_lt C.1 C.2.1 d ht k1 k2) kt kf
theorem j_icmp_gt (C : Cx B cc own ret nL n0 s0 kF kL) {x y : Int32} {off : Int} (tgt : Nat) {u v : Option ρ} (d : decode cc pc = .ok (.if_icmp .gt off, 3)) (ht : (pc : Int) + off = (tgt : Int)) (kt : y < x → J B Qf u h tgt lv st) (kf : ¬ y < x → J B Qf v h (pc + 3) lv st) : J B Qf (if y < x then u else v) h pc lv (.int y :: .int x :: st) :=
  J.ite (fun H locs cells slots Q ls hls k1 k2 => lv_icmp_gt C.1 C.2.1 d ht k1 k2) kt kf
theorem j_icmp_le (C : Cx B cc own ret nL n0 s0 kF kL) {x y : Int32} {off : Int} (tgt : Nat) {u v : Option ρ} (d : decode cc pc = .ok (.if_icmp .le off, 3)) (ht : (pc : Int) + off = (tgt : Int)) (kt : x ≤ y → J B Qf u h tgt lv st) (kf : ¬ x ≤ y → J B Qf v h (pc + 3) lv st) : J B Qf (if x ≤ y then u else v) h pc lv (.int y :: .int x :: st) :=
  J.ite (fun H locs cells slots Q ls hls k1 k2 => lv_icmp_le C.1 C.2.1 d ht k1 k2) kt kf
theorem j_if_eq (C : Cx B cc own ret nL n0 s0 kF kL) {x : Int32} {off : Int} (tgt : Nat) {u v : Option ρ} (d : decode cc pc = .ok (.ifCond .eq off, 3)) (ht : (pc : Int) + off = (tgt : Int)) (kt : x = 0 → J B Qf u h tgt lv st) (kf : ¬ x = 0 → J B Qf v h (pc + 3) lv st) : J B Qf (if x = 0 then u else v) h pc lv (.int x :: st) :=
  J.ite (fun H locs cells slots Q ls hls k1 k2 => lv_if_eq C.1 C.2.1 d ht k1 k2) kt kf
theorem j_if_ne (C : Cx B cc own ret nL n0 s0 kF kL) {x : Int32} {off : Int} (tgt : Nat) {u v : Option ρ} (d : decode cc pc = .ok (.ifCond .ne off, 3)) (ht : (pc : Int) + off = (tgt : Int)) (kt : ¬ x = 0 → J B Qf u h tgt lv st) (kf : x = 0 → J B Qf v h (pc + 3) lv st) : J B Qf (if x = 0 then v else u) h pc lv (.int x :: st) := by
  intro r hr H locs ls hR hlo hls
  refine lv_if_ne C.1 C.2.1 d ht (fun hc => ?_) (fun hc => ?_)
  · rw [if_neg hc] at hr
    exact kt hc r hr H locs ls hR hlo hls
  · rw [if_pos hc] at hr
    exact kf hc r hr H locs ls hR hlo hls
theorem j_if_ge (C : Cx B cc own ret nL n0 s0 kF kL) {x : Int32} {off : Int} (tgt : Nat) {u v : Option ρ} (d : decode cc pc = .ok (.ifCond .ge off, 3)) (ht : (pc : Int) + off = (tgt : Int)) (kt : 0 ≤ x → J B Qf u h tgt lv st) (kf : ¬ 0 ≤ x → J B Qf v h (pc + 3) lv st) : J B Qf (if 0 ≤ x then u else v) h pc lv (.int x :: st) :=
  J.ite (fun H locs cells slots Q ls hls k1 k2 => lv_if_ge C.1 C.2.1 d ht k1 k2) kt kf
theorem j_if_lt (C : Cx B cc own ret nL n0 s0 kF kL) {x : Int32} {off : Int} (tgt : Nat) {u v : Option ρ} (d : decode cc pc = .ok (.ifCond .lt off, 3)) (ht : (pc : Int) + off = (tgt : Int)) (kt : x < 0 → J B Qf u h tgt lv st) (kf : ¬ x < 0 → J B Qf v h (pc + 3) lv st) : J B Qf (if x < 0 then u else v) h pc lv (.int x :: st) :=
  J.ite (fun H locs cells slots Q ls hls k1 k2 => lv_if_lt C.1 C.2.1 d ht k1 k2) kt kf
theorem j_if_gt (C : Cx B cc own ret nL n0 s0 kF kL) {x : Int32} {off : Int} (tgt : Nat) {u v : Option ρ} (d : decode cc pc = .ok (.ifCond .gt off, 3)) (ht : (pc : Int) + off = (tgt : Int)) (kt : 0 < x → J B Qf u h tgt lv st) (kf : ¬ 0 < x → J B Qf v h (pc + 3) lv st) : J B Qf (if 0 < x then u else v) h pc lv (.int x :: st) :=
  J.ite (fun H locs cells slots Q ls hls k1 k2 => lv_if_gt C.1 C.2.1 d ht k1 k2) kt kf
theorem j_if_le (C : Cx B cc own ret nL n0 s0 kF kL) {x : Int32} {off : Int} (tgt : Nat) {u v : Option ρ} (d : decode cc pc = .ok (.ifCond .le off, 3)) (ht : (pc : Int) + off = (tgt : Int)) (kt : x ≤ 0 → J B Qf u h tgt lv st) (kf : ¬ x ≤ 0 → J B Qf v h (pc + 3) lv st) : J B Qf (if x ≤ 0 then u else v) h pc lv (.int x :: st) :=
  J.ite (fun H locs cells slots Q ls hls k1 k2 => lv_if_le C.1 C.2.1 d ht k1 k2) kt kf
end JR
