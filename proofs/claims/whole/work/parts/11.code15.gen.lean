def f_X7_undo (a0 : Nat) (h : Hp) : Option (Int32 × Hp) :=
  bnd (gO h a0 7) fun _ => bnd (gI h a0 7 8) fun x1 => if x1 = 0 then (some ((-2 : Int32), h)) else (bnd (gI h a0 7 8) fun x3 => bnd (pF h a0 7 8 (.int (x3 - (1 : Int32)))) fun h4 => bnd (gI h4 a0 7 8) fun x5 => bnd (f_X7_copies a0 ((3 : Int32) + x5) (0 : Int32) h4) fun h6 => bnd (pF h6 a0 7 9 (.int (0 : Int32))) fun h7 => bnd (gI h7 a0 7 8) fun x8 => some (x8, h7))
set_option maxHeartbeats 4000000 in
set_option maxRecDepth 100000 in
theorem c_X7_undo (l : Launch) (D : hD) (a0 : Nat) (h : Hp) (x : (Int32 × Hp)) (e : f_X7_undo a0 h = some x) : (∃ fs, gO h a0 7 = some fs) ∧ Ct l D yX7_undo cX7_undo 1 (some .int) 1 23 [.ref a0] h (some (.int x.1)) x.2 := by
  obtain ⟨fs, g1, g2⟩ := bnd_some e
  refine ⟨⟨fs, g1⟩, ?_⟩
  refine ct_of (out := oI) g2 (by decide +kernel) rfl (fun B C hin hl hd => ?_)
  subst hl; subst hd
  show J B _ _ h 0 [(0, .ref a0)] []
  refine j_aload_n C dX7_undo_0 0 rfl rfl ?_
  refine j_getI C wfl_X7_101 dX7_undo_1 (fun x1 => ?_)
  refine j_if_ne C 10 dX7_undo_4 (by decide) (fun c2 => ?_) (fun c2 => ?_)
  · refine j_aload_n C dX7_undo_10 0 rfl rfl ?_
    refine j_dup C dX7_undo_11 (fun _ => rfl) ?_
    refine j_getI C wfl_X7_101 dX7_undo_12 (fun x3 => ?_)
    refine j_iconst C (1 : Int32) dX7_undo_15 (by decide) ?_
    refine j_isub C dX7_undo_16 ?_
    refine j_put C wfp_X7_101 dX7_undo_17 ⟨_, rfl⟩ (fun h4 => ?_)
    refine j_aload_n C dX7_undo_20 0 rfl rfl ?_
    refine j_iconst C (3 : Int32) dX7_undo_21 (by decide) ?_
    refine j_aload_n C dX7_undo_22 0 rfl rfl ?_
    refine j_getI C wfl_X7_101 dX7_undo_23 (fun x5 => ?_)
    refine j_iadd C dX7_undo_26 ?_
    refine j_iconst C (0 : Int32) dX7_undo_27 (by decide) ?_
    refine j_cV (st := []) (fun x e => ⟨runsV C wml_X7_131 wce_X7_copies (c_X7_copies (bL B) (bD B) _ _ _ _ x e).1 rfl rfl rfl rfl rfl dX7_undo_28, (c_X7_copies (bL B) (bD B) _ _ _ _ x e).2⟩) (fun h6 => ?_)
    refine j_aload_n C dX7_undo_31 0 rfl rfl ?_
    refine j_iconst C (0 : Int32) dX7_undo_32 (by decide) ?_
    refine j_put C wfp_X7_98 dX7_undo_33 ⟨_, rfl⟩ (fun h7 => ?_)
    refine j_aload_n C dX7_undo_36 0 rfl rfl ?_
    refine j_getI C wfl_X7_101 dX7_undo_37 (fun x8 => ?_)
    exact j_iret C dX7_undo_40
  · refine j_bipush C (-2 : Int32) dX7_undo_7 (by decide) ?_
    exact j_iret C dX7_undo_9
def f_X7_wipe (a0 : Nat) (h : Hp) : Option (Int32 × Hp) :=
  bnd (gO h a0 7) fun _ => bnd (gI h a0 7 0) fun x1 => bnd (pF h a0 7 0 (.int (0 : Int32))) fun h2 => some (x1, h2)
set_option maxHeartbeats 4000000 in
set_option maxRecDepth 100000 in
theorem c_X7_wipe (l : Launch) (D : hD) (a0 : Nat) (h : Hp) (x : (Int32 × Hp)) (e : f_X7_wipe a0 h = some x) : (∃ fs, gO h a0 7 = some fs) ∧ Ct l D yX7_wipe cX7_wipe 2 (some .int) 0 0 [.ref a0] h (some (.int x.1)) x.2 := by
  obtain ⟨fs, g1, g2⟩ := bnd_some e
  refine ⟨⟨fs, g1⟩, ?_⟩
  refine ct_of (out := oI) g2 (by decide +kernel) rfl (fun B C hin hl hd => ?_)
  subst hl; subst hd
  show J B _ _ h 0 [(0, .ref a0)] []
  refine j_aload_n C dX7_wipe_0 0 rfl rfl ?_
  refine j_getI C wfl_X7_73 dX7_wipe_1 (fun x1 => ?_)
  refine j_istore_n (lv' := [(1, .int x1), (0, .ref a0)]) C dX7_wipe_4 rfl rfl rfl ?_
  refine j_aload_n C dX7_wipe_5 1 rfl rfl ?_
  refine j_iconst C (0 : Int32) dX7_wipe_6 (by decide) ?_
  refine j_put C wfp_X7_73 dX7_wipe_7 ⟨_, rfl⟩ (fun h2 => ?_)
  refine j_iload_n C dX7_wipe_10 0 rfl rfl ?_
  exact j_iret C dX7_wipe_11
def f_X7_write (a0 : Nat) (p1 : Int32) (p2 : Int64) (h : Hp) : Option (Int32 × Hp) :=
  bnd (gO h a0 7) fun _ => bnd (f_X7_in p1.toInt64 (1 : Int64) (8 : Int64)) fun x1 => if x1 = 0 then (some ((-1 : Int32), h)) else (bnd (gI h a0 7 0) fun x3 => if (x3 + p1) ≤ (300 : Int32) then (nm (p1 - (1 : Int32)) fun v5 => wl2 (fun r8 (i6 : Int32) (h7 : Hp) => if i6 < 0 then (bnd (gI h7 a0 7 0) fun x10 => some (x10, h7)) else (bnd (gR h7 a0 7 1) fun a11 => bnd (gI h7 a0 7 0) fun x12 => bnd (stI 1 h7 a11 x12 ((p2 >>> (((8 : Int32) * i6).toInt64 &&& 63)).toInt32.toInt8.toInt32)) fun h13 => bnd (gI h13 a0 7 0) fun x14 => bnd (pF h13 a0 7 0 (.int (x14 + (1 : Int32)))) fun h15 => r8 (i6 + (-1 : Int32)) h15)) fuel v5 h) else (some ((-3 : Int32), h)))
set_option maxHeartbeats 4000000 in
set_option maxRecDepth 100000 in
theorem c_X7_write (l : Launch) (D : hD) (a0 : Nat) (p1 : Int32) (p2 : Int64) (h : Hp) (x : (Int32 × Hp)) (e : f_X7_write a0 p1 p2 h = some x) : (∃ fs, gO h a0 7 = some fs) ∧ Ct l D yX7_write cX7_write 5 (some .int) 1 25 [.ref a0, .int p1, .long p2] h (some (.int x.1)) x.2 := by
  obtain ⟨fs, g1, g2⟩ := bnd_some e
  refine ⟨⟨fs, g1⟩, ?_⟩
  refine ct_of (out := oI) g2 (by decide +kernel) rfl (fun B C hin hl hd => ?_)
  subst hl; subst hd
  show J B _ _ h 0 [(0, .ref a0), (1, .int p1), (2, .long p2)] []
  refine j_iload_n C dX7_write_0 1 rfl rfl ?_
  refine j_i2l C dX7_write_1 ?_
  refine j_lconst C (1 : Int64) dX7_write_2 (by decide) ?_
  refine j_ldc2_w C dX7_write_3 wcl_X7_67 ?_
  refine j_cIp (st := []) (fun x e => ⟨runsS C wml_X7_69 wce_X7_in rfl rfl rfl rfl rfl dX7_write_6, c_X7_in (bL B) (bD B) _ _ _ _ x e⟩) (fun x1 => ?_)
  refine j_if_ne C 14 dX7_write_9 (by decide) (fun c2 => ?_) (fun c2 => ?_)
  · refine j_aload_n C dX7_write_14 0 rfl rfl ?_
    refine j_getI C wfl_X7_73 dX7_write_15 (fun x3 => ?_)
    refine j_iload_n C dX7_write_18 1 rfl rfl ?_
    refine j_iadd C dX7_write_19 ?_
    refine j_sipush C (300 : Int32) dX7_write_20 (by decide) ?_
    refine j_icmp_le C 29 dX7_write_23 (by decide) (fun c4 => ?_) (fun c4 => ?_)
    · refine j_iload_n C dX7_write_29 1 rfl rfl ?_
      refine j_iconst C (1 : Int32) dX7_write_30 (by decide) ?_
      refine j_isub C dX7_write_31 ?_
      refine j_nmI (fun v5 => ?_)
      refine j_istore (lv' := [(4, .int v5), (0, .ref a0), (1, .int p1), (2, .long p2)]) C dX7_write_32 rfl rfl ?_
      refine J.sub (lv' := [(0, .ref a0), (2, .long p2), (4, .int v5)]) [1, 3, 0] rfl ?_
      refine J.wl2 34 (fun (i6 : Int32) (h7 : Hp) => h7) (fun (i6 : Int32) (h7 : Hp) => [(0, .ref a0), (2, .long p2), (4, .int i6)]) (fun (i6 : Int32) (h7 : Hp) => []) (fun r8 hr8 i6 h7 => ?_) fuel v5 h
      refine j_iload C dX7_write_34 2 rfl ?_
      refine j_if_lt C 73 dX7_write_36 (by decide) (fun c9 => ?_) (fun c9 => ?_)
      · refine j_aload_n C dX7_write_73 0 rfl rfl ?_
        refine j_getI C wfl_X7_73 dX7_write_74 (fun x10 => ?_)
        exact j_iret C dX7_write_77
      · refine j_aload_n C dX7_write_39 0 rfl rfl ?_
        refine j_getR C wfl_X7_7 dX7_write_40 (fun a11 => ?_)
        refine j_aload_n C dX7_write_43 0 rfl rfl ?_
        refine j_getI C wfl_X7_73 dX7_write_44 (fun x12 => ?_)
        refine j_lload_n C dX7_write_47 1 rfl rfl ?_
        refine j_bipush C (8 : Int32) dX7_write_48 (by decide) ?_
        refine j_iload C dX7_write_50 2 rfl ?_
        refine j_imul C dX7_write_52 ?_
        refine j_lshr C dX7_write_53 ?_
        refine j_l2i C dX7_write_54 ?_
        refine j_i2b C dX7_write_55 ?_
        refine j_bastore C dX7_write_56 (fun h13 => ?_)
        refine j_aload_n C dX7_write_57 0 rfl rfl ?_
        refine j_dup C dX7_write_58 (fun _ => rfl) ?_
        refine j_getI C wfl_X7_73 dX7_write_59 (fun x14 => ?_)
        refine j_iconst C (1 : Int32) dX7_write_62 (by decide) ?_
        refine j_iadd C dX7_write_63 ?_
        refine j_put C wfp_X7_73 dX7_write_64 ⟨_, rfl⟩ (fun h15 => ?_)
        refine j_iinc (lv' := [(4, .int (i6 + (-1 : Int32))), (0, .ref a0), (2, .long p2)]) C (-1 : Int32) dX7_write_67 2 rfl (by decide) rfl rfl ?_
        refine j_goto C 34 dX7_write_70 (by decide) ?_
        refine J.sub (lv' := [(0, .ref a0), (2, .long p2), (4, .int (i6 + (-1 : Int32)))]) [1, 2, 0] rfl ?_
        exact hr8 (i6 + (-1 : Int32)) h15
    · refine j_bipush C (-3 : Int32) dX7_write_26 (by decide) ?_
      exact j_iret C dX7_write_28
  · refine j_iconst C (-1 : Int32) dX7_write_12 (by decide) ?_
    exact j_iret C dX7_write_13
def f_X7_pours (a0 : Nat) (p1 : Int32) (h : Hp) : Option Hp :=
  bnd (gO h a0 7) fun _ => bnd (gI h a0 7 22) fun x1 => bnd (pF h a0 7 23 (.int x1)) fun h2 => bnd (pF h2 a0 7 22 (.int p1)) fun h3 => some h3
set_option maxHeartbeats 4000000 in
set_option maxRecDepth 100000 in
theorem c_X7_pours (l : Launch) (D : hD) (a0 : Nat) (p1 : Int32) (h : Hp) (x : Hp) (e : f_X7_pours a0 p1 h = some x) : (∃ fs, gO h a0 7 = some fs) ∧ Ct l D yX7_pours cX7_pours 2 none 0 0 [.ref a0, .int p1] h none x := by
  obtain ⟨fs, g1, g2⟩ := bnd_some e
  refine ⟨⟨fs, g1⟩, ?_⟩
  refine ct_of (out := oV) g2 (by decide +kernel) rfl (fun B C hin hl hd => ?_)
  subst hl; subst hd
  show J B _ _ h 0 [(0, .ref a0), (1, .int p1)] []
  refine j_aload_n C dX7_pours_0 0 rfl rfl ?_
  refine j_aload_n C dX7_pours_1 0 rfl rfl ?_
  refine j_getI C wfl_X7_196 dX7_pours_2 (fun x1 => ?_)
  refine j_put C wfp_X7_199 dX7_pours_5 ⟨_, rfl⟩ (fun h2 => ?_)
  refine j_aload_n C dX7_pours_8 0 rfl rfl ?_
  refine j_iload_n C dX7_pours_9 1 rfl rfl ?_
  refine j_put C wfp_X7_196 dX7_pours_10 ⟨_, rfl⟩ (fun h3 => ?_)
  exact j_vret C dX7_pours_13
def f_X7_waits (a0 : Nat) (h : Hp) : Option Int32 :=
  bnd (gO h a0 7) fun _ => wl1 (fun r2 (i1 : Int32) => if (5 : Int32) ≤ i1 then (some (-4 : Int32)) else (bnd (gR h a0 7 16) fun a4 => bnd (ldI 0 h a4 i1) fun x5 => jn0 (r2 (i1 + (1 : Int32))) fun k6 => if x5 ≤ 0 then k6 else (bnd (gI h a0 7 22) fun x8 => bnd (gI h a0 7 23) fun x9 => bnd (f_X7_isMixed a0 i1 x8 x9 h) fun x10 => if x10 = 0 then k6 else (some i1)))) fuel (0 : Int32)
set_option maxHeartbeats 4000000 in
set_option maxRecDepth 100000 in
theorem c_X7_waits (l : Launch) (D : hD) (a0 : Nat) (h : Hp) (x : Int32) (e : f_X7_waits a0 h = some x) : (∃ fs, gO h a0 7 = some fs) ∧ Ct l D yX7_waits cX7_waits 2 (some .int) 1 23 [.ref a0] h (some (.int x)) h := by
  obtain ⟨fs, g1, g2⟩ := bnd_some e
  refine ⟨⟨fs, g1⟩, ?_⟩
  refine ct_of (out := (oIp h)) g2 (by decide +kernel) rfl (fun B C hin hl hd => ?_)
  subst hl; subst hd
  show J B _ _ h 0 [(0, .ref a0)] []
  refine j_iconst C (0 : Int32) dX7_waits_0 (by decide) ?_
  refine j_istore_n (lv' := [(1, .int (0 : Int32)), (0, .ref a0)]) C dX7_waits_1 rfl rfl rfl ?_
  refine J.sub (lv' := [(0, .ref a0), (1, .int (0 : Int32))]) [1, 0] rfl ?_
  refine J.wl1 2 (fun (i1 : Int32) => h) (fun (i1 : Int32) => [(0, .ref a0), (1, .int i1)]) (fun (i1 : Int32) => []) (fun r2 hr2 i1 => ?_) fuel (0 : Int32)
  refine j_iload_n C dX7_waits_2 1 rfl rfl ?_
  refine j_iconst C (5 : Int32) dX7_waits_3 (by decide) ?_
  refine j_icmp_ge C 40 dX7_waits_4 (by decide) (fun c3 => ?_) (fun c3 => ?_)
  · refine j_bipush C (-4 : Int32) dX7_waits_40 (by decide) ?_
    exact j_iretp C dX7_waits_42
  · refine j_aload_n C dX7_waits_7 0 rfl rfl ?_
    refine j_getR C wfl_X7_42 dX7_waits_8 (fun a4 => ?_)
    refine j_iload_n C dX7_waits_11 1 rfl rfl ?_
    refine j_iaload C dX7_waits_12 (fun x5 => ?_)
    refine J.jn0 (h0 := h) (lv0 := [(0, .ref a0), (1, .int i1)]) (st0 := []) 34 ?_ (fun k6 hk6 => ?_)
    · refine j_iinc (lv' := [(1, .int (i1 + (1 : Int32))), (0, .ref a0)]) C (1 : Int32) dX7_waits_34 1 rfl (by decide) rfl rfl ?_
      refine j_goto C 2 dX7_waits_37 (by decide) ?_
      refine J.sub (lv' := [(0, .ref a0), (1, .int (i1 + (1 : Int32)))]) [1, 0] rfl ?_
      exact hr2 (i1 + (1 : Int32))
    refine j_if_le C 34 dX7_waits_13 (by decide) (fun c7 => ?_) (fun c7 => ?_)
    · exact hk6
    · refine j_aload_n C dX7_waits_16 0 rfl rfl ?_
      refine j_iload_n C dX7_waits_17 1 rfl rfl ?_
      refine j_aload_n C dX7_waits_18 0 rfl rfl ?_
      refine j_getI C wfl_X7_196 dX7_waits_19 (fun x8 => ?_)
      refine j_aload_n C dX7_waits_22 0 rfl rfl ?_
      refine j_getI C wfl_X7_199 dX7_waits_23 (fun x9 => ?_)
      refine j_cIp (st := []) (fun x e => ⟨runsV C wml_X7_121 wce_X7_isMixed (c_X7_isMixed (bL B) (bD B) _ _ _ _ _ x e).1 rfl rfl rfl rfl rfl dX7_waits_26, (c_X7_isMixed (bL B) (bD B) _ _ _ _ _ x e).2⟩) (fun x10 => ?_)
      refine j_if_eq C 34 dX7_waits_29 (by decide) (fun c11 => ?_) (fun c11 => ?_)
      · exact hk6
      · refine j_iload_n C dX7_waits_32 1 rfl rfl ?_
        exact j_iretp C dX7_waits_33
def f_X7_year (a0 : Nat) (p1 : Int32) (p2 : Int32) (p3 : Int32) (h : Hp) : Option (Int32 × Hp) :=
  bnd (gO h a0 7) fun _ => bnd (f_X7_in p1.toInt64 (0 : Int64) (9999 : Int64)) fun x1 => jn0 (some ((-1 : Int32), h)) fun k2 => if x1 = 0 then k2 else (bnd (f_X7_in p2.toInt64 (1 : Int64) (100 : Int64)) fun x4 => if x4 = 0 then k2 else (bnd (f_X7_in p3.toInt64 (0 : Int64) (1 : Int64)) fun x6 => if x6 = 0 then k2 else (wl2 (fun r10 (i8 : Int32) (h9 : Hp) => if (5 : Int32) ≤ i8 then (bnd (pF h9 a0 7 22 (.int (5 : Int32))) fun h12 => bnd (pF h12 a0 7 23 (.int (5 : Int32))) fun h13 => wl3 (fun r17 (i14 : Int32) (i15 : Int32) (h16 : Hp) => if p2 ≤ i15 then (jn1 (fun (w19 : Int32) => some (w19, h16)) fun k20 => if p3 = 0 then (k20 i14) else (k20 (p2 - i14))) else (nm ((((7919 : Int64) * p1.toInt64) + ((6151 : Int64) * i15.toInt64)) + (1 : Int64)) fun y22 => if (65521 : Int64) = 0 then none else if (5 : Int64) = 0 then none else nm ((((y22 * y22) - (y22 * y22) / (65521 : Int64) * (65521 : Int64)) - ((y22 * y22) - (y22 * y22) / (65521 : Int64) * (65521 : Int64)) / (5 : Int64) * (5 : Int64)).toInt32) fun v23 => bnd (gI h16 a0 7 22) fun x24 => bnd (gI h16 a0 7 23) fun x25 => bnd (f_X7_isMixed a0 v23 x24 x25 h16) fun x26 => jn2 (fun (z27 : Int32) (h28 : Hp) => r17 z27 (i15 + (1 : Int32)) h28) fun k29 => if x26 = 0 then (bnd (gR h16 a0 7 16) fun a43 => bnd (ldI 0 h16 a43 v23) fun x44 => bnd (stI 0 h16 a43 v23 (x44 + (1 : Int32))) fun h45 => k29 i14 h45) else (bnd (f_X7_pours a0 v23 h16) fun h31 => bnd (f_X7_waits a0 h31) fun x32 => wl3 (fun r36 (i33 : Int32) (i34 : Int32) (h35 : Hp) => if i34 < 0 then (k29 i33 h35) else (bnd (gR h35 a0 7 16) fun a38 => bnd (ldI 0 h35 a38 i34) fun x39 => bnd (stI 0 h35 a38 i34 (x39 - (1 : Int32))) fun h40 => bnd (f_X7_pours a0 i34 h40) fun h41 => bnd (f_X7_waits a0 h41) fun x42 => r36 (i33 + (1 : Int32)) x42 h41)) fuel (i14 + (1 : Int32)) x32 h31))) fuel (0 : Int32) (0 : Int32) h13) else (bnd (gR h9 a0 7 16) fun a46 => bnd (stI 0 h9 a46 i8 (0 : Int32)) fun h47 => r10 (i8 + (1 : Int32)) h47)) fuel (0 : Int32) h)))
set_option maxHeartbeats 4000000 in
set_option maxRecDepth 100000 in
theorem c_X7_year (l : Launch) (D : hD) (a0 : Nat) (p1 : Int32) (p2 : Int32) (p3 : Int32) (h : Hp) (x : (Int32 × Hp)) (e : f_X7_year a0 p1 p2 p3 h = some x) : (∃ fs, gO h a0 7 = some fs) ∧ Ct l D yX7_year cX7_year 10 (some .int) 2 44 [.ref a0, .int p1, .int p2, .int p3] h (some (.int x.1)) x.2 := by
  obtain ⟨fs, g1, g2⟩ := bnd_some e
  refine ⟨⟨fs, g1⟩, ?_⟩
  refine ct_of (out := oI) g2 (by decide +kernel) rfl (fun B C hin hl hd => ?_)
  subst hl; subst hd
  show J B _ _ h 0 [(0, .ref a0), (1, .int p1), (2, .int p2), (3, .int p3)] []
  refine j_iload_n C dX7_year_0 1 rfl rfl ?_
  refine j_i2l C dX7_year_1 ?_
  refine j_lconst C (0 : Int64) dX7_year_2 (by decide) ?_
  refine j_ldc2_w C dX7_year_3 wcl_X7_202 ?_
  refine j_cIp (st := []) (fun x e => ⟨runsS C wml_X7_69 wce_X7_in rfl rfl rfl rfl rfl dX7_year_6, c_X7_in (bL B) (bD B) _ _ _ _ x e⟩) (fun x1 => ?_)
  refine J.jn0 (h0 := h) (lv0 := []) (st0 := []) 34 ?_ (fun k2 hk2 => ?_)
  · refine j_iconst C (-1 : Int32) dX7_year_34 (by decide) ?_
    exact j_iret C dX7_year_35
  refine j_if_eq C 34 dX7_year_9 (by decide) (fun c3 => ?_) (fun c3 => ?_)
  · refine J.sub (lv' := []) [] rfl ?_
    exact hk2
  · refine j_iload_n C dX7_year_12 2 rfl rfl ?_
    refine j_i2l C dX7_year_13 ?_
    refine j_lconst C (1 : Int64) dX7_year_14 (by decide) ?_
    refine j_ldc2_w C dX7_year_15 wcl_X7_204 ?_
    refine j_cIp (st := []) (fun x e => ⟨runsS C wml_X7_69 wce_X7_in rfl rfl rfl rfl rfl dX7_year_18, c_X7_in (bL B) (bD B) _ _ _ _ x e⟩) (fun x4 => ?_)
    refine j_if_eq C 34 dX7_year_21 (by decide) (fun c5 => ?_) (fun c5 => ?_)
    · refine J.sub (lv' := []) [] rfl ?_
      exact hk2
    · refine j_iload_n C dX7_year_24 3 rfl rfl ?_
      refine j_i2l C dX7_year_25 ?_
      refine j_lconst C (0 : Int64) dX7_year_26 (by decide) ?_
      refine j_lconst C (1 : Int64) dX7_year_27 (by decide) ?_
      refine j_cIp (st := []) (fun x e => ⟨runsS C wml_X7_69 wce_X7_in rfl rfl rfl rfl rfl dX7_year_28, c_X7_in (bL B) (bD B) _ _ _ _ x e⟩) (fun x6 => ?_)
      refine j_if_ne C 36 dX7_year_31 (by decide) (fun c7 => ?_) (fun c7 => ?_)
      · refine j_iconst C (0 : Int32) dX7_year_36 (by decide) ?_
        refine j_istore (lv' := [(4, .int (0 : Int32)), (0, .ref a0), (1, .int p1), (2, .int p2), (3, .int p3)]) C dX7_year_37 rfl rfl ?_
        refine J.sub (lv' := [(0, .ref a0), (1, .int p1), (2, .int p2), (3, .int p3), (4, .int (0 : Int32))]) [1, 2, 3, 4, 0] rfl ?_
        refine J.wl2 39 (fun (i8 : Int32) (h9 : Hp) => h9) (fun (i8 : Int32) (h9 : Hp) => [(0, .ref a0), (1, .int p1), (2, .int p2), (3, .int p3), (4, .int i8)]) (fun (i8 : Int32) (h9 : Hp) => []) (fun r10 hr10 i8 h9 => ?_) fuel (0 : Int32) h
        refine j_iload C dX7_year_39 4 rfl ?_
        refine j_iconst C (5 : Int32) dX7_year_41 (by decide) ?_
        refine j_icmp_ge C 59 dX7_year_42 (by decide) (fun c11 => ?_) (fun c11 => ?_)
        · refine j_aload_n C dX7_year_59 0 rfl rfl ?_
          refine j_iconst C (5 : Int32) dX7_year_60 (by decide) ?_
          refine j_put C wfp_X7_196 dX7_year_61 ⟨_, rfl⟩ (fun h12 => ?_)
          refine j_aload_n C dX7_year_64 0 rfl rfl ?_
          refine j_iconst C (5 : Int32) dX7_year_65 (by decide) ?_
          refine j_put C wfp_X7_199 dX7_year_66 ⟨_, rfl⟩ (fun h13 => ?_)
          refine j_iconst C (0 : Int32) dX7_year_69 (by decide) ?_
          refine j_istore (lv' := [(4, .int (0 : Int32)), (0, .ref a0), (1, .int p1), (2, .int p2), (3, .int p3)]) C dX7_year_70 rfl rfl ?_
          refine j_iconst C (0 : Int32) dX7_year_72 (by decide) ?_
          refine j_istore (lv' := [(5, .int (0 : Int32)), (4, .int (0 : Int32)), (0, .ref a0), (1, .int p1), (2, .int p2), (3, .int p3)]) C dX7_year_73 rfl rfl ?_
          refine J.sub (lv' := [(0, .ref a0), (1, .int p1), (2, .int p2), (3, .int p3), (4, .int (0 : Int32)), (5, .int (0 : Int32))]) [2, 3, 4, 5, 1, 0] rfl ?_
          refine J.wl3 75 (fun (i14 : Int32) (i15 : Int32) (h16 : Hp) => h16) (fun (i14 : Int32) (i15 : Int32) (h16 : Hp) => [(0, .ref a0), (1, .int p1), (2, .int p2), (3, .int p3), (4, .int i14), (5, .int i15)]) (fun (i14 : Int32) (i15 : Int32) (h16 : Hp) => []) (fun r17 hr17 i14 i15 h16 => ?_) fuel (0 : Int32) (0 : Int32) h13
          refine j_iload C dX7_year_75 5 rfl ?_
          refine j_iload_n C dX7_year_77 2 rfl rfl ?_
          refine j_icmp_ge C 201 dX7_year_78 (by decide) (fun c18 => ?_) (fun c18 => ?_)
          · refine j_iload_n C dX7_year_201 3 rfl rfl ?_
            refine J.jn1 214 (fun (w19 : Int32) => h16) (fun (w19 : Int32) => []) (fun (w19 : Int32) => [.int w19]) (fun w19 => ?_) (fun k20 hk20 => ?_)
            · exact j_iret C dX7_year_214
            refine j_if_ne C 210 dX7_year_202 (by decide) (fun c21 => ?_) (fun c21 => ?_)
            · refine j_iload_n C dX7_year_210 2 rfl rfl ?_
              refine j_iload C dX7_year_211 4 rfl ?_
              refine j_isub C dX7_year_213 ?_
              refine J.sub (lv' := []) [] rfl ?_
              exact hk20 (p2 - i14)
            · refine j_iload C dX7_year_205 4 rfl ?_
              refine j_goto C 214 dX7_year_207 (by decide) ?_
              refine J.sub (lv' := []) [] rfl ?_
              exact hk20 i14
          · refine j_ldc2_w C dX7_year_81 wcl_X7_206 ?_
            refine j_iload_n C dX7_year_84 1 rfl rfl ?_
            refine j_i2l C dX7_year_85 ?_
            refine j_lmul C dX7_year_86 ?_
            refine j_ldc2_w C dX7_year_87 wcl_X7_208 ?_
            refine j_iload C dX7_year_90 5 rfl ?_
            refine j_i2l C dX7_year_92 ?_
            refine j_lmul C dX7_year_93 ?_
            refine j_ladd C dX7_year_94 ?_
            refine j_lconst C (1 : Int64) dX7_year_95 (by decide) ?_
            refine j_ladd C dX7_year_96 ?_
            refine j_nmL (fun y22 => ?_)
            refine j_lstore (lv' := [(6, .long y22), (0, .ref a0), (1, .int p1), (2, .int p2), (3, .int p3), (4, .int i14), (5, .int i15)]) C dX7_year_97 rfl rfl ?_
            refine j_lload C dX7_year_99 0 rfl ?_
            refine j_lload C dX7_year_101 0 rfl ?_
            refine j_lmul C dX7_year_103 ?_
            refine j_ldc2_w C dX7_year_104 wcl_X7_210 ?_
            refine j_lrem C dX7_year_107 ?_
            refine j_ldc2_w C dX7_year_108 wcl_X7_212 ?_
            refine j_lrem C dX7_year_111 ?_
            refine j_l2i C dX7_year_112 ?_
            refine j_nmI (fun v23 => ?_)
            refine j_istore (lv' := [(8, .int v23), (6, .long y22), (0, .ref a0), (1, .int p1), (2, .int p2), (3, .int p3), (4, .int i14), (5, .int i15)]) C dX7_year_113 rfl rfl ?_
            refine j_aload_n C dX7_year_115 2 rfl rfl ?_
            refine j_iload C dX7_year_116 0 rfl ?_
            refine j_aload_n C dX7_year_118 2 rfl rfl ?_
            refine j_getI C wfl_X7_196 dX7_year_119 (fun x24 => ?_)
            refine j_aload_n C dX7_year_122 2 rfl rfl ?_
            refine j_getI C wfl_X7_199 dX7_year_123 (fun x25 => ?_)
            refine j_cIp (st := []) (fun x e => ⟨runsV C wml_X7_121 wce_X7_isMixed (c_X7_isMixed (bL B) (bD B) _ _ _ _ _ x e).1 rfl rfl rfl rfl rfl dX7_year_126, (c_X7_isMixed (bL B) (bD B) _ _ _ _ _ x e).2⟩) (fun x26 => ?_)
            refine J.jn2 195 (fun (z27 : Int32) (h28 : Hp) => h28) (fun (z27 : Int32) (h28 : Hp) => [(0, .ref a0), (1, .int p1), (2, .int p2), (3, .int p3), (4, .int z27), (5, .int i15)]) (fun (z27 : Int32) (h28 : Hp) => []) (fun z27 h28 => ?_) (fun k29 hk29 => ?_)
            · refine j_iinc (lv' := [(5, .int (i15 + (1 : Int32))), (0, .ref a0), (1, .int p1), (2, .int p2), (3, .int p3), (4, .int z27)]) C (1 : Int32) dX7_year_195 5 rfl (by decide) rfl rfl ?_
              refine j_goto C 75 dX7_year_198 (by decide) ?_
              refine J.sub (lv' := [(0, .ref a0), (1, .int p1), (2, .int p2), (3, .int p3), (4, .int z27), (5, .int (i15 + (1 : Int32)))]) [1, 2, 3, 4, 5, 0] rfl ?_
              exact hr17 z27 (i15 + (1 : Int32)) h28
            refine j_if_ne C 146 dX7_year_129 (by decide) (fun c30 => ?_) (fun c30 => ?_)
            · refine j_aload_n C dX7_year_146 2 rfl rfl ?_
              refine j_iload C dX7_year_147 0 rfl ?_
              refine j_cV (st := []) (fun x e => ⟨runsV C wml_X7_214 wce_X7_pours (c_X7_pours (bL B) (bD B) _ _ _ x e).1 rfl rfl rfl rfl rfl dX7_year_149, (c_X7_pours (bL B) (bD B) _ _ _ x e).2⟩) (fun h31 => ?_)
              refine j_iinc (lv' := [(4, .int (i14 + (1 : Int32))), (8, .int v23), (6, .long y22), (0, .ref a0), (1, .int p1), (2, .int p2), (3, .int p3), (5, .int i15)]) C (1 : Int32) dX7_year_152 6 rfl (by decide) rfl rfl ?_
              refine j_aload_n C dX7_year_155 3 rfl rfl ?_
              refine j_cIp (st := []) (fun x e => ⟨runsV C wml_X7_217 wce_X7_waits (c_X7_waits (bL B) (bD B) _ _ x e).1 rfl rfl rfl rfl rfl dX7_year_156, (c_X7_waits (bL B) (bD B) _ _ x e).2⟩) (fun x32 => ?_)
              refine j_istore (lv' := [(9, .int x32), (4, .int (i14 + (1 : Int32))), (8, .int v23), (6, .long y22), (0, .ref a0), (1, .int p1), (2, .int p2), (3, .int p3), (5, .int i15)]) C dX7_year_159 rfl rfl ?_
              refine J.sub (lv' := [(0, .ref a0), (1, .int p1), (2, .int p2), (3, .int p3), (4, .int (i14 + (1 : Int32))), (5, .int i15), (9, .int x32)]) [4, 5, 6, 7, 1, 8, 0] rfl ?_
              refine J.wl3 161 (fun (i33 : Int32) (i34 : Int32) (h35 : Hp) => h35) (fun (i33 : Int32) (i34 : Int32) (h35 : Hp) => [(0, .ref a0), (1, .int p1), (2, .int p2), (3, .int p3), (4, .int i33), (5, .int i15), (9, .int i34)]) (fun (i33 : Int32) (i34 : Int32) (h35 : Hp) => []) (fun r36 hr36 i33 i34 h35 => ?_) fuel (i14 + (1 : Int32)) x32 h31
              refine j_iload C dX7_year_161 6 rfl ?_
              refine j_if_lt C 195 dX7_year_163 (by decide) (fun c37 => ?_) (fun c37 => ?_)
              · refine J.sub (lv' := [(0, .ref a0), (1, .int p1), (2, .int p2), (3, .int p3), (4, .int i33), (5, .int i15)]) [0, 1, 2, 3, 4, 5] rfl ?_
                exact hk29 i33 h35
              · refine j_aload_n C dX7_year_166 0 rfl rfl ?_
                refine j_getR C wfl_X7_42 dX7_year_167 (fun a38 => ?_)
                refine j_iload C dX7_year_170 6 rfl ?_
                refine j_dup2 C dX7_year_172 rfl rfl ?_
                refine j_iaload C dX7_year_173 (fun x39 => ?_)
                refine j_iconst C (1 : Int32) dX7_year_174 (by decide) ?_
                refine j_isub C dX7_year_175 ?_
                refine j_iastore C dX7_year_176 (fun h40 => ?_)
                refine j_aload_n C dX7_year_177 0 rfl rfl ?_
                refine j_iload C dX7_year_178 6 rfl ?_
                refine j_cV (st := []) (fun x e => ⟨runsV C wml_X7_214 wce_X7_pours (c_X7_pours (bL B) (bD B) _ _ _ x e).1 rfl rfl rfl rfl rfl dX7_year_180, (c_X7_pours (bL B) (bD B) _ _ _ x e).2⟩) (fun h41 => ?_)
                refine j_iinc (lv' := [(4, .int (i33 + (1 : Int32))), (0, .ref a0), (1, .int p1), (2, .int p2), (3, .int p3), (5, .int i15), (9, .int i34)]) C (1 : Int32) dX7_year_183 4 rfl (by decide) rfl rfl ?_
                refine j_aload_n C dX7_year_186 1 rfl rfl ?_
                refine j_cIp (st := []) (fun x e => ⟨runsV C wml_X7_217 wce_X7_waits (c_X7_waits (bL B) (bD B) _ _ x e).1 rfl rfl rfl rfl rfl dX7_year_187, (c_X7_waits (bL B) (bD B) _ _ x e).2⟩) (fun x42 => ?_)
                refine j_istore (lv' := [(9, .int x42), (4, .int (i33 + (1 : Int32))), (0, .ref a0), (1, .int p1), (2, .int p2), (3, .int p3), (5, .int i15)]) C dX7_year_190 rfl rfl ?_
                refine j_goto C 161 dX7_year_192 (by decide) ?_
                refine J.sub (lv' := [(0, .ref a0), (1, .int p1), (2, .int p2), (3, .int p3), (4, .int (i33 + (1 : Int32))), (5, .int i15), (9, .int x42)]) [2, 3, 4, 5, 1, 6, 0] rfl ?_
                exact hr36 (i33 + (1 : Int32)) x42 h41
            · refine j_aload_n C dX7_year_132 2 rfl rfl ?_
              refine j_getR C wfl_X7_42 dX7_year_133 (fun a43 => ?_)
              refine j_iload C dX7_year_136 0 rfl ?_
              refine j_dup2 C dX7_year_138 rfl rfl ?_
              refine j_iaload C dX7_year_139 (fun x44 => ?_)
              refine j_iconst C (1 : Int32) dX7_year_140 (by decide) ?_
              refine j_iadd C dX7_year_141 ?_
              refine j_iastore C dX7_year_142 (fun h45 => ?_)
              refine j_goto C 195 dX7_year_143 (by decide) ?_
              refine J.sub (lv' := [(0, .ref a0), (1, .int p1), (2, .int p2), (3, .int p3), (4, .int i14), (5, .int i15)]) [2, 3, 4, 5, 6, 7] rfl ?_
              exact hk29 i14 h45
        · refine j_aload_n C dX7_year_45 0 rfl rfl ?_
          refine j_getR C wfl_X7_42 dX7_year_46 (fun a46 => ?_)
          refine j_iload C dX7_year_49 4 rfl ?_
          refine j_iconst C (0 : Int32) dX7_year_51 (by decide) ?_
          refine j_iastore C dX7_year_52 (fun h47 => ?_)
          refine j_iinc (lv' := [(4, .int (i8 + (1 : Int32))), (0, .ref a0), (1, .int p1), (2, .int p2), (3, .int p3)]) C (1 : Int32) dX7_year_53 4 rfl (by decide) rfl rfl ?_
          refine j_goto C 39 dX7_year_56 (by decide) ?_
          refine J.sub (lv' := [(0, .ref a0), (1, .int p1), (2, .int p2), (3, .int p3), (4, .int (i8 + (1 : Int32)))]) [1, 2, 3, 4, 0] rfl ?_
          exact hr10 (i8 + (1 : Int32)) h47
      · refine J.sub (lv' := []) [] rfl ?_
        exact hk2
