/-! ===== rows of J over arrays and makings ===== -/
section AR
variable {ρ : Type} {B : Bx} {Qf : ρ → State → Prop} {t : Option ρ} {h : Hp} {pc pc' : Nat} {lv lv' : List (Nat × Value)} {st st' : List Value} {cc : ByteArray} {own : String} {ret : Option FieldType} {nL n0 s0 kF kL : Nat}
variable {H : Heap} {locs : List Loc} {cells slots : Nat} {Q : State → Prop} {ls : Array Slot} {rest : List Value}
theorem h_K.arr {D : hD} {s : State} (hK : h_K D s) {t : Nat} {ty : FieldType} (ht : h_tys[t]? = some ty) (n : Nat) (z : Nat → Value) : s.isArrayOf (arrV (D.2.2.1 t) n z) ty := (hK.2.1 t ty ht).1 n z
theorem in_size {cA : ClassId} {n : Nat} {z : Nat → Value} {i : Int32} (hin : ¬ (i < 0 ∨ n ≤ i.toNatClampNeg)) : ¬ (i < 0 ∨ (arrV cA n z).slots.size ≤ i.toNatClampNeg) := by rw [arrV_size]; exact hin
theorem in_read {cA : ClassId} {n : Nat} {z : Nat → Value} {i : Int32} (hin : ¬ (i < 0 ∨ n ≤ i.toNatClampNeg)) : (arrV cA n z).slots[i.toNatClampNeg]? = some (z i.toNatClampNeg) := arrV_read _ _ (Nat.not_le.mp fun q => hin (Or.inr q))
theorem j_iaload (C : Cx B cc own ret nL n0 s0 kF kL) {a : Nat} {i : Int32} {u : Int32 → Option ρ} (d : decode cc pc = .ok (.iaload, 1)) (kk : ∀ x : Int32, J B Qf (u x) h (pc + 1) lv (.int x :: st)) : J B Qf (bnd (ldI 0 h a i) u) h pc lv (.int i :: .ref a :: st) := by
  intro r hr H locs ls hR hlo hls
  obtain ⟨x, h1, h2⟩ := bnd_some hr
  obtain ⟨n, f, h3, h4⟩ := bnd2_some h1
  obtain ⟨h5, h6⟩ := if_none h4
  cases h6
  obtain ⟨e1, e2⟩ := arI_some h3
  exact W.iald C.1 C.2.1 (hR.at e1 e2) (C.2.2.2.2.2.2.2.1.arr (t := 0) rfl _ _) (fun q => by cases q) (in_size h5) (in_read h5) rfl rfl d (kk _ r h2 H locs ls hR hlo hls)
theorem j_baload (C : Cx B cc own ret nL n0 s0 kF kL) {a : Nat} {i : Int32} {u : Int32 → Option ρ} (d : decode cc pc = .ok (.baload, 1)) (kk : ∀ x : Int32, J B Qf (u x) h (pc + 1) lv (.int x :: st)) : J B Qf (bnd (ldI 1 h a i) u) h pc lv (.int i :: .ref a :: st) := by
  intro r hr H locs ls hR hlo hls
  obtain ⟨x, h1, h2⟩ := bnd_some hr
  obtain ⟨n, f, h3, h4⟩ := bnd2_some h1
  obtain ⟨h5, h6⟩ := if_none h4
  cases h6
  obtain ⟨e1, e2⟩ := arI_some h3
  exact W.bald C.1 C.2.1 (hR.at e1 e2) (C.2.2.2.2.2.2.2.1.arr (t := 1) rfl _ _) (fun q => by cases q) (in_size h5) (in_read h5) rfl rfl d (kk _ r h2 H locs ls hR hlo hls)
theorem j_zaload (C : Cx B cc own ret nL n0 s0 kF kL) {a : Nat} {i : Int32} {u : Int32 → Option ρ} (d : decode cc pc = .ok (.baload, 1)) (kk : ∀ x : Int32, J B Qf (u x) h (pc + 1) lv (.int x :: st)) : J B Qf (bnd (ldI 2 h a i) u) h pc lv (.int i :: .ref a :: st) := by
  intro r hr H locs ls hR hlo hls
  obtain ⟨x, h1, h2⟩ := bnd_some hr
  obtain ⟨n, f, h3, h4⟩ := bnd2_some h1
  obtain ⟨h5, h6⟩ := if_none h4
  cases h6
  obtain ⟨e1, e2⟩ := arI_some h3
  exact W.zald C.1 C.2.1 (hR.at e1 e2) (C.2.2.2.2.2.2.2.1.arr (t := 2) rfl _ _) (fun q => by cases q) (in_size h5) (in_read h5) rfl rfl d (kk _ r h2 H locs ls hR hlo hls)
theorem j_laload (C : Cx B cc own ret nL n0 s0 kF kL) {a : Nat} {i : Int32} {u : Int64 → Option ρ} (d : decode cc pc = .ok (.laload, 1)) (kk : ∀ x : Int64, J B Qf (u x) h (pc + 1) lv (.long x :: st)) : J B Qf (bnd (ldL h a i) u) h pc lv (.int i :: .ref a :: st) := by
  intro r hr H locs ls hR hlo hls
  obtain ⟨x, h1, h2⟩ := bnd_some hr
  obtain ⟨n, f, h3, h4⟩ := bnd2_some h1
  obtain ⟨h5, h6⟩ := if_none h4
  cases h6
  obtain ⟨e1, e2⟩ := arL_some h3
  exact W.lald C.1 C.2.1 (hR.at e1 e2) (C.2.2.2.2.2.2.2.1.arr (t := 3) rfl _ _) (fun q => by cases q) (in_size h5) (in_read h5) rfl rfl d (kk _ r h2 H locs ls hR hlo hls)
theorem j_aaload (C : Cx B cc own ret nL n0 s0 kF kL) {a : Nat} {i : Int32} {u : Nat → Option ρ} (d : decode cc pc = .ok (.aaload, 1)) (kk : ∀ x : Nat, J B Qf (u x) h (pc + 1) lv (.ref x :: st)) : J B Qf (bnd (ldR h a i) u) h pc lv (.int i :: .ref a :: st) := by
  intro r hr H locs ls hR hlo hls
  obtain ⟨x, h1, h2⟩ := bnd_some hr
  obtain ⟨n, f, h3, h4⟩ := bnd2_some h1
  obtain ⟨h5, h6⟩ := if_none h4
  obtain ⟨e1, e2⟩ := arR_some h3
  have h7 := in_read (cA := (bD B).2.2.1 4) (z := fun j => va_rf ((f j).map (hz (bD B) + ·))) h5
  rw [h6] at h7
  exact W.aald (ty := .object RX2) C.1 C.2.1 (hR.at e1 e2) (C.2.2.2.2.2.2.2.1.arr (t := 4) rfl _ _) rfl (fun q => by cases q) (in_size h5) h7 rfl rfl d (kk _ r h2 H locs ls hR hlo hls)
theorem h_ast {D : hD} {s : State} {a t n : Nat} {f : Nat → Int32} {i x : Int32} {H' : Heap} (e1 : H'[hz D + a]? = some ((arrV (D.2.2.1 t) n (fun j => .int (f j))).setSlot i.toNatClampNeg (.int x))) : h_cell D a (aI t n (upd f i.toNatClampNeg x)) H' := by
  show H'[hz D + a]? = some (arrV _ _ _)
  rw [e1, arrV_store]
  congr 2
  funext q
  by_cases hq : q = i.toNatClampNeg
  · subst hq; simp [updV, upd]
  · simp [updV, upd, hq]
theorem h_astL {D : hD} {s : State} {a n : Nat} {f : Nat → Int64} {i : Int32} {x : Int64} {H' : Heap} (e1 : H'[hz D + a]? = some ((arrV (D.2.2.1 3) n (fun j => .long (f j))).setSlot i.toNatClampNeg (.long x))) : h_cell D a (aL n (vp_updL f i.toNatClampNeg x)) H' := by
  show H'[hz D + a]? = some (arrV _ _ _)
  rw [e1, arrV_store]
  congr 2
  funext q
  by_cases hq : q = i.toNatClampNeg
  · subst hq; simp [updV, vp_updL]
  · simp [updV, vp_updL, hq]
theorem h_astR {D : hD} {s : State} {a n v : Nat} {f : Nat → Option Nat} {i : Int32} {H' : Heap} (e1 : H'[hz D + a]? = some ((arrV (D.2.2.1 4) n (fun j => va_rf ((f j).map (hz D + ·)))).setSlot i.toNatClampNeg (.ref (hz D + v)))) : h_cell D a (aR n (va_up f i.toNatClampNeg (some v))) H' := by
  show H'[hz D + a]? = some (arrV _ _ _)
  rw [e1, arrV_store]
  congr 2
  funext q
  by_cases hq : q = i.toNatClampNeg
  · subst hq; simp [updV, va_up, va_rf]
  · simp [updV, va_up, hq]
theorem j_iastore (C : Cx B cc own ret nL n0 s0 kF kL) {a : Nat} {i x : Int32} {u : Hp → Option ρ} (d : decode cc pc = .ok (.iastore, 1)) (kk : ∀ h' : Hp, J B Qf (u h') h' (pc + 1) lv st) : J B Qf (bnd (stI 0 h a i x) u) h pc lv (.int x :: .int i :: .ref a :: st) := by
  intro r hr H locs ls hR hlo hls
  obtain ⟨h', h1, h2⟩ := bnd_some hr
  obtain ⟨n, f, h3, h4⟩ := bnd2_some h1
  obtain ⟨h5, h6⟩ := if_none h4
  cases h6
  obtain ⟨e1, e2⟩ := arI_some h3
  have hc := hR.at e1 e2
  refine W.iast C.1 C.2.1 hc (C.2.2.2.2.2.2.2.1.arr (t := 0) rfl _ _) (fun q => by cases q) (in_size h5) rfl rfl d fun H' g1 g2 g3 => ?_
  have hR' := hR.set e1 g2 g3 (h_ast (s := bS B) g1) (by rw [g1, show H[hz (bD B) + a]? = _ from hc]; simp [set_size])
  exact W.tight fun _ _ => kk _ r h2 H' _ ls hR' (locs_add hlo) hls
theorem nar_b (ty : FieldType) (hty : ∀ x : Int32, ∃ y : Int32, narrow ty (.int x) = .int y) (x : Int32) : narrow ty (.int x) = .int (vp_nar ty x) := by
  obtain ⟨y, hy⟩ := hty x
  unfold vp_nar
  rw [hy]
theorem j_bastore (C : Cx B cc own ret nL n0 s0 kF kL) {a : Nat} {i x : Int32} {u : Hp → Option ρ} (d : decode cc pc = .ok (.bastore, 1)) (kk : ∀ h' : Hp, J B Qf (u h') h' (pc + 1) lv st) : J B Qf (bnd (stI 1 h a i x) u) h pc lv (.int x :: .int i :: .ref a :: st) := by
  intro r hr H locs ls hR hlo hls
  obtain ⟨h', h1, h2⟩ := bnd_some hr
  obtain ⟨n, f, h3, h4⟩ := bnd2_some h1
  obtain ⟨h5, h6⟩ := if_none h4
  cases h6
  obtain ⟨e1, e2⟩ := arI_some h3
  have hc := hR.at e1 e2
  refine W.bast C.1 C.2.1 hc (C.2.2.2.2.2.2.2.1.arr (t := 1) rfl _ _) (fun q => by cases q) (in_size h5) rfl rfl d fun H' g1 g2 g3 => ?_
  rw [nar_b .byte (fun x => ⟨_, rfl⟩)] at g1
  have hR' := hR.set e1 g2 g3 (h_ast (s := bS B) g1) (by rw [g1, show H[hz (bD B) + a]? = _ from hc]; simp [set_size])
  exact W.tight fun _ _ => kk _ r h2 H' _ ls hR' (locs_add hlo) hls
theorem j_zastore (C : Cx B cc own ret nL n0 s0 kF kL) {a : Nat} {i x : Int32} {u : Hp → Option ρ} (d : decode cc pc = .ok (.bastore, 1)) (kk : ∀ h' : Hp, J B Qf (u h') h' (pc + 1) lv st) : J B Qf (bnd (stI 2 h a i x) u) h pc lv (.int x :: .int i :: .ref a :: st) := by
  intro r hr H locs ls hR hlo hls
  obtain ⟨h', h1, h2⟩ := bnd_some hr
  obtain ⟨n, f, h3, h4⟩ := bnd2_some h1
  obtain ⟨h5, h6⟩ := if_none h4
  cases h6
  obtain ⟨e1, e2⟩ := arI_some h3
  have hc := hR.at e1 e2
  refine W.zast C.1 C.2.1 hc (C.2.2.2.2.2.2.2.1.arr (t := 2) rfl _ _) (fun q => by cases q) (in_size h5) rfl rfl d fun H' g1 g2 g3 => ?_
  rw [nar_b .boolean (fun x => ⟨_, rfl⟩)] at g1
  have hR' := hR.set e1 g2 g3 (h_ast (s := bS B) g1) (by rw [g1, show H[hz (bD B) + a]? = _ from hc]; simp [set_size])
  exact W.tight fun _ _ => kk _ r h2 H' _ ls hR' (locs_add hlo) hls
theorem j_lastore (C : Cx B cc own ret nL n0 s0 kF kL) {a : Nat} {i : Int32} {x : Int64} {u : Hp → Option ρ} (d : decode cc pc = .ok (.lastore, 1)) (kk : ∀ h' : Hp, J B Qf (u h') h' (pc + 1) lv st) : J B Qf (bnd (stL h a i x) u) h pc lv (.long x :: .int i :: .ref a :: st) := by
  intro r hr H locs ls hR hlo hls
  obtain ⟨h', h1, h2⟩ := bnd_some hr
  obtain ⟨n, f, h3, h4⟩ := bnd2_some h1
  obtain ⟨h5, h6⟩ := if_none h4
  cases h6
  obtain ⟨e1, e2⟩ := arL_some h3
  have hc := hR.at e1 e2
  refine W.last C.1 C.2.1 hc (C.2.2.2.2.2.2.2.1.arr (t := 3) rfl _ _) (fun q => by cases q) (in_size h5) rfl rfl d fun H' g1 g2 g3 => ?_
  have hR' := hR.set e1 g2 g3 (h_astL (s := bS B) g1) (by rw [g1, show H[hz (bD B) + a]? = _ from hc]; simp [set_size])
  exact W.tight fun _ _ => kk _ r h2 H' _ ls hR' (locs_add hlo) hls
theorem j_aastore (C : Cx B cc own ret nL n0 s0 kF kL) {a v : Nat} {i : Int32} {u : Hp → Option ρ} (d : decode cc pc = .ok (.aastore, 1)) (kk : ∀ h' : Hp, J B Qf (u h') h' (pc + 1) lv st) : J B Qf (bnd (stR h a i v) u) h pc lv (.ref v :: .int i :: .ref a :: st) := by
  intro r hr H locs ls hR hlo hls
  obtain ⟨h', h1, h2⟩ := bnd_some hr
  obtain ⟨n, f, h3, h4⟩ := bnd2_some h1
  obtain ⟨fs, h7, h8⟩ := bnd_some h4
  obtain ⟨h5, h6⟩ := if_none h8
  cases h6
  obtain ⟨e1, e2⟩ := arR_some h3
  obtain ⟨v1, v2⟩ := gO_some h7
  have hc := hR.at e1 e2
  have hK := C.2.2.2.2.2.2.2.1
  obtain ⟨hlen, cellV, g1, g2, g3, -⟩ := h_obj (ci := 2) (by decide) (hR.at v1 v2)
  have hcls := (hK.cls (ci := 2) (by decide)).2
  obtain ⟨kA, comp, k1, k2, k3, -⟩ := (hK.2.1 4 (.object RX2) rfl).2
  have hcomp : comp = (bD B).1 2 := Option.some.inj (k3.symm.trans hcls.1)
  subst hcomp
  obtain ⟨kC, hkC, -⟩ := hcls.2
  have h0 : ¬ i < 0 := fun q => h5 (Or.inl q)
  have hlt : i.toNatClampNeg < n := Nat.not_le.mp fun q => h5 (Or.inr q)
  refine W.aast C.1 C.2.1 hc (fun q h => by cases h) (fun h => by cases h) k1 k2 rfl hkC ⟨h0, by rw [arrV_size]; exact hlt⟩ g1 (fun q h => by rw [g3] at h; cases h) (by rw [g2]; exact hkC) (by rw [g2]; exact va_assign hcls) rfl rfl d fun H' e z oq => ?_
  have hR' := hR.set e1 z oq (h_astR (s := bS B) e) (by rw [e, show H[hz (bD B) + a]? = _ from hc]; simp [set_size])
  exact W.tight fun _ _ => kk _ r h2 H' _ ls hR' (locs_add hlo) hls
theorem j_alen (C : Cx B cc own ret nL n0 s0 kF kL) {a : Nat} {u : Int32 → Option ρ} (d : decode cc pc = .ok (.arraylength, 1)) (kk : ∀ x : Int32, J B Qf (u x) h (pc + 1) lv (.int x :: st)) : J B Qf (bnd (aLn h a) u) h pc lv (.ref a :: st) := by
  intro r hr H locs ls hR hlo hls
  obtain ⟨x, h1, h2⟩ := bnd_some hr
  obtain ⟨h3, h4⟩ := if_some h1
  have hK := C.2.2.2.2.2.2.2.1
  split at h4
  · rename_i t n f hx
    obtain ⟨h5, h6⟩ := if_some h4
    cases h6
    have hc := hR.at h3 hx
    have ht : ∃ ty, h_tys[t]? = some ty := ⟨h_tys[t]'(by simpa [h_tys] using h5), by simp⟩
    obtain ⟨ty, ht⟩ := ht
    rcases f with f | f | f
    · exact W.alen C.1 C.2.1 hc (hK.arr ht _ _) (by rw [arrV_size]) rfl rfl d (kk _ r h2 H locs ls hR hlo hls)
    · exact W.alen C.1 C.2.1 hc (hK.arr ht _ _) (by rw [arrV_size]) rfl rfl d (kk _ r h2 H locs ls hR hlo hls)
    · exact W.alen C.1 C.2.1 hc (hK.arr ht _ _) (by rw [arrV_size]) rfl rfl d (kk _ r h2 H locs ls hR hlo hls)
  · cases h4
/-! makings -/
theorem room_new (C : Cx B cc own ret nL n0 s0 kF kL) (hR : h_R (bD B) h H) {n : Nat} (l1 : h.2.1 + 1 ≤ 600000) (l2 : h.2.2 + n ≤ rmS) (a1 : (bS B).heap.size ≤ H.size) (a2 : htot (bS B).heap ≤ htot H) : H.size - (bS B).heap.size + 1 ≤ (bR B).cells ∧ htot H - htot (bS B).heap + n ≤ (bR B).slots := by
  obtain ⟨-, -, -, -, -, -, -, -, c1, c2, c3⟩ := C
  obtain ⟨r1, r2, -⟩ := hR
  rw [c3]
  constructor
  · show _ ≤ 600000 - n0
    omega
  · show _ ≤ rmS - s0
    omega
theorem j_new (C : Cx B cc own ret nL n0 s0 kF kL) {idx ci : Nat} {fs : List Value} (hci : ci < 8) (hw : Cond.classLink own idx (h_cl ci).1 ∈ h_tbl) (hi : Cond.instantiable (h_cl ci).1 (h_cl ci).2.2 ∈ h_tbl) (hini : Cond.initialized (h_cl ci).1 ∈ h_tbl) (hlen : fs.length = (h_cl ci).2.2) (hfs : ∀ z j, j < (h_cl ci).2.2 → defaultValue (h_ty ci j) = vp_V (fs.map (h_sh z)) j) {u : Nat → Hp → Option ρ} (d : decode cc pc = .ok (.new idx, 3)) (kk : ∀ (a : Nat) (h' : Hp), J B Qf (u a h') h' (pc + 3) lv (.ref a :: st)) : J B Qf (bnd2 (nwO h ci fs) u) h pc lv st := by
  intro r hr H locs ls hR hlo hls
  obtain ⟨a, h', h1, h2⟩ := bnd2_some hr
  obtain ⟨⟨l1, l2⟩, h4⟩ := if_some h1
  cases h4
  have hts := C.2.2.2.2.2.1
  have hKn := C.2.2.2.2.2.2.2.1.cls hci
  refine W.tight fun a1 a2 => ?_
  obtain ⟨m1, m2⟩ := room_new C hR l1 l2 a1 a2
  rw [hlen] at m2
  refine W.newcK C.1 C.2.1 C.2.2.2.2.1 (hts _ hw) (hts _ hi) (hts _ hini) rfl d m1 m2 hKn.2.1 rfl fun H1 kC hkC e1 z1 o1 => ?_
  have hz1 : H.size = hz (bD B) + h.2.1 := hR.1
  have hns : (blank ((bD B).1 ci) kC).slots.size = fs.length := by
    obtain ⟨cC, kC', i1, i2, i3, i4⟩ := Cond.instantiable_spec (hts _ hi)
    have e2 : cC = (bD B).1 ci := Option.some.inj (i1.symm.trans hKn.2.1)
    subst e2
    have e3 : kC' = kC := Option.some.inj (i2.symm.trans hkC)
    subst e3
    rw [hlen]
    simp [blank, i4]
  have hR' : h_R (bD B) (hnew h (.inr (ci, fs)) fs.length) H1 := hR.push z1 o1 e1 hns ⟨h_cl ci, h_cl_at hci, hlen, by
    rw [← hz1]
    exact (u_born (h_ty ci) hts (h_in hci) hKn hkC e1 (h_ty_ok hci)).to (fun j hj => hfs _ j hj)⟩ l1 l2
  refine W.tight fun _ _ => ?_
  have hg := kk _ _ r h2 H1 locs ls hR' hlo hls
  rw [hz1]
  exact hg
theorem j_newI (C : Cx B cc own ret nL n0 s0 kF kL) (ty : Nat) {n : Int32} {at' : ArrayType} {fty : FieldType} (hat : newarray.typeOf at' = fty) (hty : h_tys[ty]? = some fty) (hdf : defaultValue fty = .int 0) (hcb : componentBytes fty ≤ 8) (hnn : ∀ C', fty ≠ .object C') (hw : Cond.arrayClass (newarray.typeOf at') ∈ h_tbl) {u : Nat → Hp → Option ρ} (d : decode cc pc = .ok (.newarray at', 2)) (kk : ∀ (a : Nat) (h' : Hp), J B Qf (u a h') h' (pc + 2) lv (.ref a :: st)) : J B Qf (bnd2 (nwI ty h n) u) h pc lv (.int n :: st) := by
  intro r hr H locs ls hR hlo hls
  obtain ⟨a, h', h1, h2⟩ := bnd2_some hr
  obtain ⟨hn, h3⟩ := if_none h1
  obtain ⟨⟨l1, l2⟩, h4⟩ := if_some h3
  cases h4
  subst hat
  have hts := C.2.2.2.2.2.1
  have hK := C.2.2.2.2.2.2.2.1
  refine W.tight fun a1 a2 => ?_
  obtain ⟨m1, m2⟩ := room_new C hR l1 l2 a1 a2
  refine va_newaK C.1 C.2.1 (hts _ hw) rfl d rfl hn rfl (by have := Nat.mul_le_mul_left n.toNatClampNeg hcb; have := rmS_le; omega) m1 m2 rfl fun H1 cA e1 z1 o1 hAr hNm => ?_
  have hz1 : H.size = hz (bD B) + h.2.1 := hR.1
  have hcA : cA = (bD B).2.2.1 ty := by
    have h7 := (hK.2.1 ty _ hty).2
    cases hft : newarray.typeOf at' with
    | object C' => exact absurd hft (hnn C')
    | _ =>
      rw [hft] at h7 hNm
      exact Option.some.inj (hNm.symm.trans h7)
  rw [hdf] at e1
  have hR' : h_R (bD B) (hnew h (aI ty n.toNatClampNeg (fun _ => 0)) n.toNatClampNeg) H1 := hR.push z1 o1 e1 (arrV_size _ _ _) (by
    show H1[hz (bD B) + h.2.1]? = _
    rw [← hz1, e1, hcA]) l1 l2
  refine W.tight fun _ _ => ?_
  have hg := kk _ _ r h2 H1 locs ls hR' hlo hls
  rw [hz1]
  exact hg
theorem j_newL (C : Cx B cc own ret nL n0 s0 kF kL) {n : Int32} {at' : ArrayType} (hat : newarray.typeOf at' = .long) (hw : Cond.arrayClass (newarray.typeOf at') ∈ h_tbl) {u : Nat → Hp → Option ρ} (d : decode cc pc = .ok (.newarray at', 2)) (kk : ∀ (a : Nat) (h' : Hp), J B Qf (u a h') h' (pc + 2) lv (.ref a :: st)) : J B Qf (bnd2 (nwL h n) u) h pc lv (.int n :: st) := by
  intro r hr H locs ls hR hlo hls
  obtain ⟨a, h', h1, h2⟩ := bnd2_some hr
  obtain ⟨hn, h3⟩ := if_none h1
  obtain ⟨⟨l1, l2⟩, h4⟩ := if_some h3
  cases h4
  have hts := C.2.2.2.2.2.1
  have hK := C.2.2.2.2.2.2.2.1
  refine W.tight fun a1 a2 => ?_
  obtain ⟨m1, m2⟩ := room_new C hR l1 l2 a1 a2
  refine va_newaK C.1 C.2.1 (hts _ hw) rfl d rfl hn rfl (by rw [hat]; have : componentBytes .long ≤ 8 := by decide
                                                            have := Nat.mul_le_mul_left n.toNatClampNeg this; have := rmS_le; omega) m1 m2 rfl fun H1 cA e1 z1 o1 hAr hNm => ?_
  have hz1 : H.size = hz (bD B) + h.2.1 := hR.1
  have hcA : cA = (bD B).2.2.1 3 := by
    have h7 := (hK.2.1 3 .long rfl).2
    rw [hat] at hNm
    exact Option.some.inj (hNm.symm.trans h7)
  rw [hat] at e1
  have hR' : h_R (bD B) (hnew h (aL n.toNatClampNeg (fun _ => 0)) n.toNatClampNeg) H1 := hR.push z1 o1 e1 (arrV_size _ _ _) (by
    show H1[hz (bD B) + h.2.1]? = _
    rw [← hz1, e1, hcA]
    rfl) l1 l2
  refine W.tight fun _ _ => ?_
  have hg := kk _ _ r h2 H1 locs ls hR' hlo hls
  rw [hz1]
  exact hg
theorem j_newR (C : Cx B cc own ret nL n0 s0 kF kL) {idx : Nat} {n : Int32} (hw : Cond.classLink own idx RX2 ∈ h_tbl) {u : Nat → Hp → Option ρ} (d : decode cc pc = .ok (.anewarray idx, 3)) (kk : ∀ (a : Nat) (h' : Hp), J B Qf (u a h') h' (pc + 3) lv (.ref a :: st)) : J B Qf (bnd2 (nwR h n) u) h pc lv (.int n :: st) := by
  intro r hr H locs ls hR hlo hls
  obtain ⟨a, h', h1, h2⟩ := bnd2_some hr
  obtain ⟨hn, h3⟩ := if_none h1
  obtain ⟨⟨l1, l2⟩, h4⟩ := if_some h3
  cases h4
  have hts := C.2.2.2.2.2.1
  have hK := C.2.2.2.2.2.2.2.1
  refine W.tight fun a1 a2 => ?_
  obtain ⟨m1, m2⟩ := room_new C hR l1 l2 a1 a2
  refine W.anew C.1 C.2.1 C.2.2.2.2.1 (hts _ hw) (va_AO.use hK.2.2.1) rfl d rfl hn (by have := rmS_le; omega) m1 m2 fun cA kA comp f1 f2 f3 f4 => ?_
  have hz1 : H.size = hz (bD B) + h.2.1 := hR.1
  generalize hH1 : H.push ({ cls := cA, slots := Array.replicate n.toNatClampNeg .null, vm := .none } : Cell) = H1
  have z1 : H1.size = H.size + 1 := by rw [← hH1, Array.size_push]
  have e1 : H1[H.size]? = some (arrV cA n.toNatClampNeg (fun _ => .null)) := by rw [← hH1, Array.getElem?_push_size, ← arrV_new]
  have o1 : ∀ q : Nat, q < H.size → H1[q]? = H[q]? := fun q hq => by rw [← hH1, Array.getElem?_push, if_neg (Nat.ne_of_lt hq)]
  have hcA : cA = (bD B).2.2.1 4 := by
    obtain ⟨kA', comp', k1, k2, k3, k4⟩ := (hK.2.1 4 (.object RX2) rfl).2
    exact Option.some.inj (f1.symm.trans k4)
  have hR' : h_R (bD B) (hnew h (aR n.toNatClampNeg (fun _ => none)) n.toNatClampNeg) H1 := hR.push z1 o1 e1 (arrV_size _ _ _) (by
    show H1[hz (bD B) + h.2.1]? = _
    rw [← hz1, e1, hcA]
    rfl) l1 l2
  refine W.tight fun _ _ => ?_
  have hg := kk _ _ r h2 H1 locs ls hR' hlo hls
  rw [hz1]
  exact hg
end AR
