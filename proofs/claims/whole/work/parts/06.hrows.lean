/-! ===== rows of J over the heap ===== -/
/-- the field k of class ci, as the entry idx of the class own names it -/
def FL (own : String) (idx ci k : Nat) : Prop := ci < 8 ∧ k < (h_cl ci).2.2 ∧ ((h_cl ci).2.1 k).1 = (h_cl ci).1 ∧
  (Cond.fieldLink own idx (h_cl ci).1 ((h_cl ci).2.1 k).2.1 ((h_cl ci).2.1 k).2.2.1 ∈ h_tbl ∨ ∃ host : String, Cond.fieldLinkNest own idx (h_cl ci).1 ((h_cl ci).2.1 k).2.1 ((h_cl ci).2.1 k).2.2.1 host ∈ h_nest)
def FVi (v : Value) : Prop := ∃ x : Int32, v = .int x
def FVr (v : Value) : Prop := ∃ x : Nat, v = .ref x
/-- it may be written with such values: not final -/
def FP (own : String) (idx ci k : Nat) (ok : Value → Prop) : Prop := FL own idx ci k ∧ ((h_cl ci).2.1 k).2.2.2 = false ∧ ∀ v, ok v → narrow (h_ty ci k) v = v ∧ fits (h_ty ci k) v = true
/-- final: in its own class's constructor -/
def FF (own : String) (idx ci k : Nat) (ok : Value → Prop) : Prop := ci < 8 ∧ k < (h_cl ci).2.2 ∧ ((h_cl ci).2.1 k).1 = own ∧ (h_cl ci).1 = own ∧ Cond.fieldLink own idx (h_cl ci).1 ((h_cl ci).2.1 k).2.1 ((h_cl ci).2.1 k).2.2.1 ∈ h_tbl ∧ ((h_cl ci).2.1 k).2.2.2 = true ∧ ∀ v, ok v → narrow (h_ty ci k) v = v ∧ fits (h_ty ci k) v = true
theorem FVr.sh {v : Value} (z : Nat) (h : FVr v) : FVr (h_sh z v) := by obtain ⟨x, rfl⟩ := h; exact ⟨z + x, rfl⟩
theorem FVi.sh {v : Value} (z : Nat) (h : FVi v) : FVi (h_sh z v) := by obtain ⟨x, rfl⟩ := h; exact ⟨x, rfl⟩
section HR
variable {ρ : Type} {B : Bx} {Qf : ρ → State → Prop} {t : Option ρ} {h : Hp} {pc pc' : Nat} {lv lv' : List (Nat × Value)} {st st' : List Value} {cc : ByteArray} {own : String} {ret : Option FieldType} {nL n0 s0 kF kL : Nat}
variable {H : Heap} {locs : List Loc} {cells slots : Nat} {Q : State → Prop} {ls : Array Slot} {rest : List Value}
theorem h_K.cls {D : hD} {s : State} (hK : h_K D s) {ci : Nat} (hci : ci < 8) : u_Kn s (h_cl ci).1 (h_cl ci).2.1 (h_cl ci).2.2 (D.1 ci) (D.2.1 ci) := hK.1 ci _ (h_cl_at hci)
theorem h_obj {D : hD} {a ci : Nat} {fs : List Value} (hci : ci < 8) (hc : h_cell D a (.inr (ci, fs)) H) : fs.length = (h_cl ci).2.2 ∧ t_OB (hz D + a) (D.1 ci) (h_cl ci).2.2 (D.2.1 ci) H (vp_V (fs.map (h_sh (hz D)))) := by
  obtain ⟨r, h1, h2, h3⟩ := hc
  have hr : r = h_cl ci := Option.some.inj (h1.symm.trans (h_cl_at hci))
  subst hr
  exact ⟨h2, h3⟩
theorem w_get (C : Cx B cc own ret nL n0 s0 kF kL) {idx ci k a : Nat} (F : FL own idx ci k) (hR : h_R (bD B) h H) {fs : List Value} (e : gO h a ci = some fs) {v : Value} (hv : fs[k]? = some v) (d : decode cc pc = .ok (.getfield idx, 3))
    (kk : WB B H locs cells slots Q (F0 (bM B) (pc + 3) ls (h_sh (hz (bD B)) v :: rest))) : WB B H locs cells slots Q (F0 (bM B) pc ls (.ref (hz (bD B) + a) :: rest)) := by
  obtain ⟨f1, f2, f3, f4⟩ := F
  obtain ⟨e1, e2⟩ := gO_some e
  obtain ⟨hx, hb, -, -, hown, hts, -, hK, -⟩ := C
  obtain ⟨hlen, cell, q1, q2, q3, q4⟩ := h_obj f1 (hR.at e1 e2)
  obtain ⟨hS, hfc, kC, hkC, hkind⟩ := hK.cls f1
  obtain ⟨cf, kf, fi, f, hi, hsl⟩ := hS k f2
  have hslot : cell.slots[f.slot]? = some (h_sh (hz (bD B)) v) := by
    rw [hsl, q4 k f2]
    simp [vp_V, hv]
  have hi' := hi
  rw [f3] at hi'
  have hst := (u_facts hfc hkC (u_lays hts (h_in f1) f2) hi).1
  rcases f4 with f4 | ⟨host, f4⟩
  · exact W.getf hx hb hown (hts _ f4) hi' hst q1 (by rw [q3]; exact fun h => by cases h) hslot rfl rfl d kk
  · exact va_Wgetf hx hb hown (va_Nw.use rfl (hK.2.2.2 _ f4)) hi' hst q1 (by rw [q3]; exact fun h => by cases h) hslot rfl rfl d kk
theorem j_getI (C : Cx B cc own ret nL n0 s0 kF kL) {idx ci k a : Nat} (F : FL own idx ci k) {u : Int32 → Option ρ} (d : decode cc pc = .ok (.getfield idx, 3)) (kk : ∀ x : Int32, J B Qf (u x) h (pc + 3) lv (.int x :: st)) : J B Qf (bnd (gI h a ci k) u) h pc lv (.ref a :: st) := by
  intro r hr H locs ls hR hlo hls
  obtain ⟨x, h1, h2⟩ := bnd_some hr
  obtain ⟨fs, h3, h4⟩ := bnd_some h1
  exact w_get C F hR h3 (isI_some h4) d (kk x r h2 H locs ls hR hlo hls)
theorem j_getR (C : Cx B cc own ret nL n0 s0 kF kL) {idx ci k a : Nat} (F : FL own idx ci k) {u : Nat → Option ρ} (d : decode cc pc = .ok (.getfield idx, 3)) (kk : ∀ x : Nat, J B Qf (u x) h (pc + 3) lv (.ref x :: st)) : J B Qf (bnd (gR h a ci k) u) h pc lv (.ref a :: st) := by
  intro r hr H locs ls hR hlo hls
  obtain ⟨x, h1, h2⟩ := bnd_some hr
  obtain ⟨fs, h3, h4⟩ := bnd_some h1
  exact w_get C F hR h3 (isR_some h4) d (kk x r h2 H locs ls hR hlo hls)
theorem locs_add {z a k : Nat} (hlo : ∀ q ∈ locs, z ≤ q.base) : ∀ q ∈ locs ++ [(⟨z + a, k⟩ : Loc)], z ≤ q.base := by
  intro q hq
  rcases List.mem_append.mp hq with h | h
  · exact hlo q h
  · rw [List.mem_singleton.mp h]; exact Nat.le_add_right _ _
theorem set_size {cell : Cell} {i : Nat} {v : Value} : (cell.setSlot i v).slots.size = cell.slots.size := by simp [Cell.setSlot]
theorem h_put {D : hD} {a ci k : Nat} {fs : List Value} {v : Value} {H' : Heap} {cell : Cell} (hci : ci < 8) (hk : k < (h_cl ci).2.2) (hlen : fs.length = (h_cl ci).2.2) (q2 : cell.cls = D.1 ci) (q3 : cell.vm = .none) (q4 : ∀ k, k < (h_cl ci).2.2 → cell.slots[D.2.1 ci k]? = some (vp_V (fs.map (h_sh (hz D))) k)) (hap : ∀ x y, x < (h_cl ci).2.2 → y < (h_cl ci).2.2 → x ≠ y → D.2.1 ci x ≠ D.2.1 ci y)
    (e1 : H'[hz D + a]? = some (cell.setSlot (D.2.1 ci k) (h_sh (hz D) v))) : h_cell D a (.inr (ci, fs.set k v)) H' := by
  refine ⟨h_cl ci, h_cl_at hci, by simp [hlen], ?_⟩
  refine t_OB.to (V := updV (vp_V (fs.map (h_sh (hz D)))) k (h_sh (hz D) v)) ⟨_, e1, q2, q3, t_set q4 hap hk _⟩ (fun j _ => ?_)
  rw [vp_updV_set (by simp; omega), List.map_set]
theorem h_apart {D : hD} {s : State} {args : Array Value} {ci : Nat} (hts : ∀ w ∈ h_tbl, w.before args s = true) (hK : h_K D s) (hci : ci < 8) : ∀ x y, x < (h_cl ci).2.2 → y < (h_cl ci).2.2 → x ≠ y → D.2.1 ci x ≠ D.2.1 ci y :=
  va_apart (own := "") (D := (D.1, D.2.1)) (cl := vwCl) (tys := []) hts (h_in hci) (h_ty ci) (h_ty_ok hci) (h_nm hci) ⟨hK.1, fun k q hq => by simp at hq⟩ (h_cl_at hci)
theorem j_put (C : Cx B cc own ret nL n0 s0 kF kL) {idx ci k a : Nat} {ok : Value → Prop} (F : FP own idx ci k ok) {u : Hp → Option ρ} {v : Value} (d : decode cc pc = .ok (.putfield idx, 3)) (hv : ok (h_sh (hz (bD B)) v)) (kk : ∀ h' : Hp, J B Qf (u h') h' (pc + 3) lv st) : J B Qf (bnd (pF h a ci k v) u) h pc lv (v :: .ref a :: st) := by
  intro r hr H locs ls hR hlo hls
  obtain ⟨h', h1, h2⟩ := bnd_some hr
  obtain ⟨fs, h3, h4⟩ := bnd_some h1
  obtain ⟨h5, h6⟩ := if_some h4
  cases h6
  obtain ⟨⟨f1, f2, f3, f4⟩, f5, f6⟩ := F
  obtain ⟨e1, e2⟩ := gO_some h3
  obtain ⟨hx, hb, -, -, hown, hts, -, hK, -⟩ := id C
  obtain ⟨hlen, cell, q1, q2, q3, q4⟩ := h_obj f1 (hR.at e1 e2)
  obtain ⟨hS, hfc, kC, hkC, hkind⟩ := hK.cls f1
  obtain ⟨cf, kf, fi, f, hi, hsl⟩ := hS k f2
  have hi' := hi
  rw [f3] at hi'
  have hlay := hts _ (h_in f1 _ (u_in_lay f2))
  unfold u_lay at hlay
  rw [if_neg (by rw [f5]; decide)] at hlay
  have hst := (u_facts hfc hkC (u_lays hts (h_in f1) f2) hi).1
  have h8 := u_store hfc hkC hkind hlay hi (h_ty_ok f1 k f2) (f6 _ hv).1 (f6 _ hv).2
  have fin : ∀ H' : Heap, H'[hz (bD B) + a]? = some (cell.setSlot f.slot (h_sh (hz (bD B)) v)) → H'.size = H.size → (∀ q, q ≠ hz (bD B) + a → H'[q]? = H[q]?) → WB B H' (locs ++ [⟨hz (bD B) + a, f.slot⟩]) (H.size - (bS B).heap.size) (htot H - htot (bS B).heap) (Qf r) (F0 (bM B) (pc + 3) ls (shv B st)) := by
    intro H' g1 g2 g3
    have hR' : h_R (bD B) (hset h a (.inr (ci, fs.set k v))) H' := hR.set e1 g2 g3 (h_put f1 f2 hlen q2 q3 q4 (h_apart hts hK f1) (by rw [← hsl]; exact g1)) (by rw [g1, q1]; simp [set_size])
    exact W.tight fun _ _ => kk _ r h2 H' _ ls hR' (locs_add hlo) hls
  rcases f4 with f4 | ⟨host, f4⟩
  · exact W.putK hx hb (f := f) ⟨hown, hts _ f4, ⟨_, _, _, hi'⟩, hst⟩ (by rw [q2]; exact h8) q1 q3 (by rw [hsl]; exact k2_hasslot (q4 k f2)) rfl rfl d fin
  · exact va_WputK hx hb (f := f) hown (va_Nw.use rfl (hK.2.2.2 _ f4)) hi' hst (by rw [q2]; exact h8) q1 q3 (by rw [hsl]; exact k2_hasslot (q4 k f2)) rfl rfl d fin
theorem j_putF (C : Cx B cc own ret nL n0 s0 kF kL) (hin : (bMe B).name = "<init>") {idx ci k a : Nat} {ok : Value → Prop} (F : FF own idx ci k ok) {u : Hp → Option ρ} {v : Value} (d : decode cc pc = .ok (.putfield idx, 3)) (hv : ok (h_sh (hz (bD B)) v)) (kk : ∀ h' : Hp, J B Qf (u h') h' (pc + 3) lv st) : J B Qf (bnd (pF h a ci k v) u) h pc lv (v :: .ref a :: st) := by
  intro r hr H locs ls hR hlo hls
  obtain ⟨h', h1, h2⟩ := bnd_some hr
  obtain ⟨fs, h3, h4⟩ := bnd_some h1
  obtain ⟨h5, h6⟩ := if_some h4
  cases h6
  obtain ⟨f1, f2, f3, f3', f4, f5, f6⟩ := F
  obtain ⟨e1, e2⟩ := gO_some h3
  obtain ⟨hx, hb, -, -, hown, hts, -, hK, -⟩ := id C
  obtain ⟨hlen, cell, q1, q2, q3, q4⟩ := h_obj f1 (hR.at e1 e2)
  obtain ⟨hS, hfc, kC, hkC, hkind⟩ := hK.cls f1
  obtain ⟨cf, kf, fi, f, hi, hsl⟩ := hS k f2
  have hi' := hi
  rw [f3, ← f3'] at hi'
  have hlay := hts _ (h_in f1 _ (u_in_lay f2))
  unfold u_lay at hlay
  rw [if_pos f5] at hlay
  have hst := (u_facts hfc hkC (u_lays hts (h_in f1) f2) hi).1
  have hcf : (bM B).cls = cf := by
    obtain ⟨_, _, c', _, _, _, -, -, hf', -, -, -, hown2, -⟩ := Cond.laysFinal_spec hlay
    have e1 : c' = cf := by have := hi.symm.trans hf'; simp at this; exact this.1.symm
    rw [f3] at hown2
    rw [← e1]; exact Option.some.inj (hown.symm.trans hown2)
  have h8 := u_fits hfc hkC hkind (Or.inr hlay) hi (h_ty_ok f1 k f2) (f6 _ hv).1 (f6 _ hv).2
  refine W.putFinK hx hb hown (hts _ f4) hi' hst hcf hin (by rw [q2]; exact h8) q1 q3 (by rw [hsl]; exact k2_hasslot (q4 k f2)) rfl rfl d ?_
  intro H' g1 g2 g3
  have hR' : h_R (bD B) (hset h a (.inr (ci, fs.set k v))) H' := hR.set e1 g2 g3 (h_put f1 f2 hlen q2 q3 q4 (h_apart hts hK f1) (by rw [← hsl]; exact g1)) (by rw [g1, q1]; simp [set_size])
  exact W.tight fun _ _ => kk _ r h2 H' _ ls hR' (locs_add hlo) hls
end HR
