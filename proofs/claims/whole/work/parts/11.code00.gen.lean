def f_J6_bitCount_0f7a4 (p1 : Int32) : Option Int32 :=
  nm (p1 - ((p1.toUInt32 >>> ((1 : Int32).toUInt32 &&& Int32.toUInt32 31)).toInt32 &&& (1431655765 : Int32))) fun v1 => nm ((v1 &&& (858993459 : Int32)) + ((v1.toUInt32 >>> ((2 : Int32).toUInt32 &&& Int32.toUInt32 31)).toInt32 &&& (858993459 : Int32))) fun v2 => nm ((v2 + (v2.toUInt32 >>> ((4 : Int32).toUInt32 &&& Int32.toUInt32 31)).toInt32) &&& (252645135 : Int32)) fun v3 => nm (v3 + (v3.toUInt32 >>> ((8 : Int32).toUInt32 &&& Int32.toUInt32 31)).toInt32) fun v4 => nm (v4 + (v4.toUInt32 >>> ((16 : Int32).toUInt32 &&& Int32.toUInt32 31)).toInt32) fun v5 => some (v5 &&& (63 : Int32))
set_option maxHeartbeats 4000000 in
set_option maxRecDepth 100000 in
theorem c_J6_bitCount_0f7a4 (l : Launch) (D : hD) (p1 : Int32) (h : Hp) (x : Int32) (e : f_J6_bitCount_0f7a4 p1 = some x) : Ct l D yJ6_bitCount_0f7a4 cJ6_bitCount_0f7a4 1 (some .int) 0 0 [.int p1] h (some (.int x)) h := by
  unfold f_J6_bitCount_0f7a4 at e
  refine ct_of (out := (oIp h)) e (by decide +kernel) rfl (fun B C hin hl hd => ?_)
  subst hl; subst hd
  show J B _ _ h 0 [(0, .int p1)] []
  refine j_iload_n C dJ6_bitCount_0f7a4_0 0 rfl rfl ?_
  refine j_iload_n C dJ6_bitCount_0f7a4_1 0 rfl rfl ?_
  refine j_iconst C (1 : Int32) dJ6_bitCount_0f7a4_2 (by decide) ?_
  refine j_iushr C dJ6_bitCount_0f7a4_3 ?_
  refine j_ldc_w C dJ6_bitCount_0f7a4_4 wco_J6_265 ?_
  refine j_iand C dJ6_bitCount_0f7a4_7 ?_
  refine j_isub C dJ6_bitCount_0f7a4_8 ?_
  refine j_nmI (fun v1 => ?_)
  refine j_istore_n (lv' := [(0, .int v1)]) C dJ6_bitCount_0f7a4_9 rfl rfl rfl ?_
  refine j_iload_n C dJ6_bitCount_0f7a4_10 0 rfl rfl ?_
  refine j_ldc_w C dJ6_bitCount_0f7a4_11 wco_J6_266 ?_
  refine j_iand C dJ6_bitCount_0f7a4_14 ?_
  refine j_iload_n C dJ6_bitCount_0f7a4_15 0 rfl rfl ?_
  refine j_iconst C (2 : Int32) dJ6_bitCount_0f7a4_16 (by decide) ?_
  refine j_iushr C dJ6_bitCount_0f7a4_17 ?_
  refine j_ldc_w C dJ6_bitCount_0f7a4_18 wco_J6_266 ?_
  refine j_iand C dJ6_bitCount_0f7a4_21 ?_
  refine j_iadd C dJ6_bitCount_0f7a4_22 ?_
  refine j_nmI (fun v2 => ?_)
  refine j_istore_n (lv' := [(0, .int v2)]) C dJ6_bitCount_0f7a4_23 rfl rfl rfl ?_
  refine j_iload_n C dJ6_bitCount_0f7a4_24 0 rfl rfl ?_
  refine j_iload_n C dJ6_bitCount_0f7a4_25 0 rfl rfl ?_
  refine j_iconst C (4 : Int32) dJ6_bitCount_0f7a4_26 (by decide) ?_
  refine j_iushr C dJ6_bitCount_0f7a4_27 ?_
  refine j_iadd C dJ6_bitCount_0f7a4_28 ?_
  refine j_ldc_w C dJ6_bitCount_0f7a4_29 wco_J6_267 ?_
  refine j_iand C dJ6_bitCount_0f7a4_32 ?_
  refine j_nmI (fun v3 => ?_)
  refine j_istore_n (lv' := [(0, .int v3)]) C dJ6_bitCount_0f7a4_33 rfl rfl rfl ?_
  refine j_iload_n C dJ6_bitCount_0f7a4_34 0 rfl rfl ?_
  refine j_iload_n C dJ6_bitCount_0f7a4_35 0 rfl rfl ?_
  refine j_bipush C (8 : Int32) dJ6_bitCount_0f7a4_36 (by decide) ?_
  refine j_iushr C dJ6_bitCount_0f7a4_38 ?_
  refine j_iadd C dJ6_bitCount_0f7a4_39 ?_
  refine j_nmI (fun v4 => ?_)
  refine j_istore_n (lv' := [(0, .int v4)]) C dJ6_bitCount_0f7a4_40 rfl rfl rfl ?_
  refine j_iload_n C dJ6_bitCount_0f7a4_41 0 rfl rfl ?_
  refine j_iload_n C dJ6_bitCount_0f7a4_42 0 rfl rfl ?_
  refine j_bipush C (16 : Int32) dJ6_bitCount_0f7a4_43 (by decide) ?_
  refine j_iushr C dJ6_bitCount_0f7a4_45 ?_
  refine j_iadd C dJ6_bitCount_0f7a4_46 ?_
  refine j_nmI (fun v5 => ?_)
  refine j_istore_n (lv' := [(0, .int v5)]) C dJ6_bitCount_0f7a4_47 rfl rfl rfl ?_
  refine j_iload_n C dJ6_bitCount_0f7a4_48 0 rfl rfl ?_
  refine j_bipush C (63 : Int32) dJ6_bitCount_0f7a4_49 (by decide) ?_
  refine j_iand C dJ6_bitCount_0f7a4_51 ?_
  exact j_iretp C dJ6_bitCount_0f7a4_52
def f_J7_fill_53178 (p1 : Nat) (p2 : Int32) (h : Hp) : Option Hp :=
  bnd (aLn h p1) fun x1 => wl2 (fun r4 (i2 : Int32) (h3 : Hp) => if x1 ≤ i2 then (some h3) else (bnd (stI 0 h3 p1 i2 p2) fun h6 => r4 (i2 + (1 : Int32)) h6)) fuel (0 : Int32) h
set_option maxHeartbeats 4000000 in
set_option maxRecDepth 100000 in
theorem c_J7_fill_53178 (l : Launch) (D : hD) (p1 : Nat) (p2 : Int32) (h : Hp) (x : Hp) (e : f_J7_fill_53178 p1 p2 h = some x) : Ct l D yJ7_fill_53178 cJ7_fill_53178 4 none 0 0 [.ref p1, .int p2] h none x := by
  unfold f_J7_fill_53178 at e
  refine ct_of (out := oV) e (by decide +kernel) rfl (fun B C hin hl hd => ?_)
  subst hl; subst hd
  show J B _ _ h 0 [(0, .ref p1), (1, .int p2)] []
  refine j_iconst C (0 : Int32) dJ7_fill_53178_0 (by decide) ?_
  refine j_istore_n (lv' := [(2, .int (0 : Int32)), (0, .ref p1), (1, .int p2)]) C dJ7_fill_53178_1 rfl rfl rfl ?_
  refine j_aload_n C dJ7_fill_53178_2 1 rfl rfl ?_
  refine j_alen C dJ7_fill_53178_3 (fun x1 => ?_)
  refine j_istore_n (lv' := [(3, .int x1), (2, .int (0 : Int32)), (0, .ref p1), (1, .int p2)]) C dJ7_fill_53178_4 rfl rfl rfl ?_
  refine J.sub (lv' := [(0, .ref p1), (1, .int p2), (2, .int (0 : Int32)), (3, .int x1)]) [2, 3, 1, 0] rfl ?_
  refine J.wl2 5 (fun (i2 : Int32) (h3 : Hp) => h3) (fun (i2 : Int32) (h3 : Hp) => [(0, .ref p1), (1, .int p2), (2, .int i2), (3, .int x1)]) (fun (i2 : Int32) (h3 : Hp) => []) (fun r4 hr4 i2 h3 => ?_) fuel (0 : Int32) h
  refine j_iload_n C dJ7_fill_53178_5 2 rfl rfl ?_
  refine j_iload_n C dJ7_fill_53178_6 3 rfl rfl ?_
  refine j_icmp_ge C 20 dJ7_fill_53178_7 (by decide) (fun c5 => ?_) (fun c5 => ?_)
  · exact j_vret C dJ7_fill_53178_20
  · refine j_aload_n C dJ7_fill_53178_10 0 rfl rfl ?_
    refine j_iload_n C dJ7_fill_53178_11 2 rfl rfl ?_
    refine j_iload_n C dJ7_fill_53178_12 1 rfl rfl ?_
    refine j_iastore C dJ7_fill_53178_13 (fun h6 => ?_)
    refine j_iinc (lv' := [(2, .int (i2 + (1 : Int32))), (0, .ref p1), (1, .int p2), (3, .int x1)]) C (1 : Int32) dJ7_fill_53178_14 2 rfl (by decide) rfl rfl ?_
    refine j_goto C 5 dJ7_fill_53178_17 (by decide) ?_
    refine J.sub (lv' := [(0, .ref p1), (1, .int p2), (2, .int (i2 + (1 : Int32))), (3, .int x1)]) [1, 2, 0, 3] rfl ?_
    exact hr4 (i2 + (1 : Int32)) h6
def f_X2_copyFrom (a0 : Nat) (p1 : Nat) (h : Hp) : Option Hp :=
  bnd (gO h a0 2) fun _ => bnd (gI h p1 2 0) fun x1 => bnd (pF h a0 2 0 (.int x1)) fun h2 => bnd (gI h2 p1 2 1) fun x3 => bnd (pF h2 a0 2 1 (.int x3)) fun h4 => bnd (gI h4 p1 2 2) fun x5 => bnd (pF h4 a0 2 2 (.int x5)) fun h6 => bnd (gR h6 p1 2 3) fun a7 => bnd (gR h6 a0 2 3) fun a8 => bnd (cpI h6 a7 (0 : Int32) a8 (0 : Int32) (10 : Int32)) fun h9 => bnd (gR h9 p1 2 4) fun a10 => bnd (gR h9 a0 2 4) fun a11 => bnd (cpI h9 a10 (0 : Int32) a11 (0 : Int32) (10 : Int32)) fun h12 => bnd (gR h12 p1 2 5) fun a13 => bnd (gR h12 a0 2 5) fun a14 => bnd (cpI h12 a13 (0 : Int32) a14 (0 : Int32) (10 : Int32)) fun h15 => bnd (gR h15 p1 2 6) fun a16 => bnd (gR h15 a0 2 6) fun a17 => bnd (cpI h15 a16 (0 : Int32) a17 (0 : Int32) (10 : Int32)) fun h18 => bnd (gR h18 p1 2 7) fun a19 => bnd (gR h18 a0 2 7) fun a20 => bnd (cpI h18 a19 (0 : Int32) a20 (0 : Int32) (10 : Int32)) fun h21 => bnd (gI h21 p1 2 8) fun x22 => bnd (pF h21 a0 2 8 (.int x22)) fun h23 => bnd (gI h23 p1 2 9) fun x24 => bnd (pF h23 a0 2 9 (.int x24)) fun h25 => bnd (gI h25 p1 2 10) fun x26 => bnd (pF h25 a0 2 10 (.int x26)) fun h27 => bnd (gI h27 p1 2 11) fun x28 => bnd (pF h27 a0 2 11 (.int x28)) fun h29 => some h29
set_option maxHeartbeats 4000000 in
set_option maxRecDepth 100000 in
theorem c_X2_copyFrom (l : Launch) (D : hD) (a0 : Nat) (p1 : Nat) (h : Hp) (x : Hp) (e : f_X2_copyFrom a0 p1 h = some x) : (∃ fs, gO h a0 2 = some fs) ∧ Ct l D yX2_copyFrom cX2_copyFrom 2 none 1 26 [.ref a0, .ref p1] h none x := by
  obtain ⟨fs, g1, g2⟩ := bnd_some e
  refine ⟨⟨fs, g1⟩, ?_⟩
  refine ct_of (out := oV) g2 (by decide +kernel) rfl (fun B C hin hl hd => ?_)
  subst hl; subst hd
  show J B _ _ h 0 [(0, .ref a0), (1, .ref p1)] []
  refine j_aload_n C dX2_copyFrom_0 0 rfl rfl ?_
  refine j_aload_n C dX2_copyFrom_1 1 rfl rfl ?_
  refine j_getI C wfl_X2_30 dX2_copyFrom_2 (fun x1 => ?_)
  refine j_put C wfp_X2_30 dX2_copyFrom_5 ⟨_, rfl⟩ (fun h2 => ?_)
  refine j_aload_n C dX2_copyFrom_8 0 rfl rfl ?_
  refine j_aload_n C dX2_copyFrom_9 1 rfl rfl ?_
  refine j_getI C wfl_X2_34 dX2_copyFrom_10 (fun x3 => ?_)
  refine j_put C wfp_X2_34 dX2_copyFrom_13 ⟨_, rfl⟩ (fun h4 => ?_)
  refine j_aload_n C dX2_copyFrom_16 0 rfl rfl ?_
  refine j_aload_n C dX2_copyFrom_17 1 rfl rfl ?_
  refine j_getI C wfl_X2_37 dX2_copyFrom_18 (fun x5 => ?_)
  refine j_put C wfp_X2_37 dX2_copyFrom_21 ⟨_, rfl⟩ (fun h6 => ?_)
  refine j_aload_n C dX2_copyFrom_24 1 rfl rfl ?_
  refine j_getR C wfl_X2_9 dX2_copyFrom_25 (fun a7 => ?_)
  refine j_iconst C (0 : Int32) dX2_copyFrom_28 (by decide) ?_
  refine j_aload_n C dX2_copyFrom_29 0 rfl rfl ?_
  refine j_getR C wfl_X2_9 dX2_copyFrom_30 (fun a8 => ?_)
  refine j_iconst C (0 : Int32) dX2_copyFrom_33 (by decide) ?_
  refine j_bipush C (10 : Int32) dX2_copyFrom_34 (by decide) ?_
  refine j_copy C wob_X2_52 wcp_n wcp_s wcp_i rfl rfl rfl dX2_copyFrom_36 (fun h9 => ?_)
  refine j_aload_n C dX2_copyFrom_39 1 rfl rfl ?_
  refine j_getR C wfl_X2_15 dX2_copyFrom_40 (fun a10 => ?_)
  refine j_iconst C (0 : Int32) dX2_copyFrom_43 (by decide) ?_
  refine j_aload_n C dX2_copyFrom_44 0 rfl rfl ?_
  refine j_getR C wfl_X2_15 dX2_copyFrom_45 (fun a11 => ?_)
  refine j_iconst C (0 : Int32) dX2_copyFrom_48 (by decide) ?_
  refine j_bipush C (10 : Int32) dX2_copyFrom_49 (by decide) ?_
  refine j_copy C wob_X2_52 wcp_n wcp_s wcp_i rfl rfl rfl dX2_copyFrom_51 (fun h12 => ?_)
  refine j_aload_n C dX2_copyFrom_54 1 rfl rfl ?_
  refine j_getR C wfl_X2_18 dX2_copyFrom_55 (fun a13 => ?_)
  refine j_iconst C (0 : Int32) dX2_copyFrom_58 (by decide) ?_
  refine j_aload_n C dX2_copyFrom_59 0 rfl rfl ?_
  refine j_getR C wfl_X2_18 dX2_copyFrom_60 (fun a14 => ?_)
  refine j_iconst C (0 : Int32) dX2_copyFrom_63 (by decide) ?_
  refine j_bipush C (10 : Int32) dX2_copyFrom_64 (by decide) ?_
  refine j_copy C wob_X2_52 wcp_n wcp_s wcp_i rfl rfl rfl dX2_copyFrom_66 (fun h15 => ?_)
  refine j_aload_n C dX2_copyFrom_69 1 rfl rfl ?_
  refine j_getR C wfl_X2_21 dX2_copyFrom_70 (fun a16 => ?_)
  refine j_iconst C (0 : Int32) dX2_copyFrom_73 (by decide) ?_
  refine j_aload_n C dX2_copyFrom_74 0 rfl rfl ?_
  refine j_getR C wfl_X2_21 dX2_copyFrom_75 (fun a17 => ?_)
  refine j_iconst C (0 : Int32) dX2_copyFrom_78 (by decide) ?_
  refine j_bipush C (10 : Int32) dX2_copyFrom_79 (by decide) ?_
  refine j_copy C wob_X2_52 wcp_n wcp_s wcp_i rfl rfl rfl dX2_copyFrom_81 (fun h18 => ?_)
  refine j_aload_n C dX2_copyFrom_84 1 rfl rfl ?_
  refine j_getR C wfl_X2_24 dX2_copyFrom_85 (fun a19 => ?_)
  refine j_iconst C (0 : Int32) dX2_copyFrom_88 (by decide) ?_
  refine j_aload_n C dX2_copyFrom_89 0 rfl rfl ?_
  refine j_getR C wfl_X2_24 dX2_copyFrom_90 (fun a20 => ?_)
  refine j_iconst C (0 : Int32) dX2_copyFrom_93 (by decide) ?_
  refine j_bipush C (10 : Int32) dX2_copyFrom_94 (by decide) ?_
  refine j_copy C wob_X2_52 wcp_n wcp_s wcp_i rfl rfl rfl dX2_copyFrom_96 (fun h21 => ?_)
  refine j_aload_n C dX2_copyFrom_99 0 rfl rfl ?_
  refine j_aload_n C dX2_copyFrom_100 1 rfl rfl ?_
  refine j_getI C wfl_X2_40 dX2_copyFrom_101 (fun x22 => ?_)
  refine j_put C wfp_X2_40 dX2_copyFrom_104 ⟨_, rfl⟩ (fun h23 => ?_)
  refine j_aload_n C dX2_copyFrom_107 0 rfl rfl ?_
  refine j_aload_n C dX2_copyFrom_108 1 rfl rfl ?_
  refine j_getI C wfl_X2_43 dX2_copyFrom_109 (fun x24 => ?_)
  refine j_put C wfp_X2_43 dX2_copyFrom_112 ⟨_, rfl⟩ (fun h25 => ?_)
  refine j_aload_n C dX2_copyFrom_115 0 rfl rfl ?_
  refine j_aload_n C dX2_copyFrom_116 1 rfl rfl ?_
  refine j_getI C wfl_X2_46 dX2_copyFrom_117 (fun x26 => ?_)
  refine j_put C wfp_X2_46 dX2_copyFrom_120 ⟨_, rfl⟩ (fun h27 => ?_)
  refine j_aload_n C dX2_copyFrom_123 0 rfl rfl ?_
  refine j_aload_n C dX2_copyFrom_124 1 rfl rfl ?_
  refine j_getI C wfl_X2_49 dX2_copyFrom_125 (fun x28 => ?_)
  refine j_put C wfp_X2_49 dX2_copyFrom_128 ⟨_, rfl⟩ (fun h29 => ?_)
  exact j_vret C dX2_copyFrom_131
def f_X6_back (a0 : Nat) (h : Hp) : Option (Int32 × Hp) :=
  bnd (gO h a0 6) fun _ => bnd (gI h a0 6 8) fun x1 => if 0 < x1 then (bnd (gI h a0 6 8) fun x3 => bnd (pF h a0 6 8 (.int (x3 - (1 : Int32)))) fun h4 => bnd (gR h4 a0 6 4) fun a5 => bnd (gR h4 a0 6 7) fun a6 => bnd (gI h4 a0 6 8) fun x7 => bnd (ldR h4 a6 x7) fun a8 => bnd (f_X2_copyFrom a5 a8 h4) fun h9 => bnd (pF h9 a0 6 10 (.int (0 : Int32))) fun h10 => bnd (pF h10 a0 6 6 (.int (0 : Int32))) fun h11 => bnd (gI h11 a0 6 8) fun x12 => some (x12, h11)) else (some ((-2 : Int32), h))
set_option maxHeartbeats 4000000 in
set_option maxRecDepth 100000 in
theorem c_X6_back (l : Launch) (D : hD) (a0 : Nat) (h : Hp) (x : (Int32 × Hp)) (e : f_X6_back a0 h = some x) : (∃ fs, gO h a0 6 = some fs) ∧ Ct l D yX6_back cX6_back 1 (some .int) 2 47 [.ref a0] h (some (.int x.1)) x.2 := by
  obtain ⟨fs, g1, g2⟩ := bnd_some e
  refine ⟨⟨fs, g1⟩, ?_⟩
  refine ct_of (out := oI) g2 (by decide +kernel) rfl (fun B C hin hl hd => ?_)
  subst hl; subst hd
  show J B _ _ h 0 [(0, .ref a0)] []
  refine j_aload_n C dX6_back_0 0 rfl rfl ?_
  refine j_getI C wfl_X6_94 dX6_back_1 (fun x1 => ?_)
  refine j_if_gt C 10 dX6_back_4 (by decide) (fun c2 => ?_) (fun c2 => ?_)
  · refine j_aload_n C dX6_back_10 0 rfl rfl ?_
    refine j_dup C dX6_back_11 (fun _ => rfl) ?_
    refine j_getI C wfl_X6_94 dX6_back_12 (fun x3 => ?_)
    refine j_iconst C (1 : Int32) dX6_back_15 (by decide) ?_
    refine j_isub C dX6_back_16 ?_
    refine j_put C wfp_X6_94 dX6_back_17 ⟨_, rfl⟩ (fun h4 => ?_)
    refine j_aload_n C dX6_back_20 0 rfl rfl ?_
    refine j_getR C wfl_X6_27 dX6_back_21 (fun a5 => ?_)
    refine j_aload_n C dX6_back_24 0 rfl rfl ?_
    refine j_getR C wfl_X6_34 dX6_back_25 (fun a6 => ?_)
    refine j_aload_n C dX6_back_28 0 rfl rfl ?_
    refine j_getI C wfl_X6_94 dX6_back_29 (fun x7 => ?_)
    refine j_aaload C dX6_back_32 (fun a8 => ?_)
    refine j_cV (st := []) (fun x e => ⟨runsV C wml_X6_84 wce_X2_copyFrom (c_X2_copyFrom (bL B) (bD B) _ _ _ x e).1 rfl rfl rfl rfl rfl dX6_back_33, (c_X2_copyFrom (bL B) (bD B) _ _ _ x e).2⟩) (fun h9 => ?_)
    refine j_aload_n C dX6_back_36 0 rfl rfl ?_
    refine j_iconst C (0 : Int32) dX6_back_37 (by decide) ?_
    refine j_put C wfp_X6_88 dX6_back_38 ⟨_, rfl⟩ (fun h10 => ?_)
    refine j_aload_n C dX6_back_41 0 rfl rfl ?_
    refine j_iconst C (0 : Int32) dX6_back_42 (by decide) ?_
    refine j_put C wfp_X6_91 dX6_back_43 ⟨_, rfl⟩ (fun h11 => ?_)
    refine j_aload_n C dX6_back_46 0 rfl rfl ?_
    refine j_getI C wfl_X6_94 dX6_back_47 (fun x12 => ?_)
    exact j_iret C dX6_back_50
  · refine j_bipush C (-2 : Int32) dX6_back_7 (by decide) ?_
    exact j_iret C dX6_back_9
def f_X6_cost (a0 : Nat) (h : Hp) : Option Int32 :=
  bnd (gO h a0 6) fun _ => bnd (gR h a0 6 4) fun a1 => bnd (gI h a1 2 11) fun x2 => some x2
set_option maxHeartbeats 4000000 in
set_option maxRecDepth 100000 in
theorem c_X6_cost (l : Launch) (D : hD) (a0 : Nat) (h : Hp) (x : Int32) (e : f_X6_cost a0 h = some x) : (∃ fs, gO h a0 6 = some fs) ∧ Ct l D yX6_cost cX6_cost 1 (some .int) 0 0 [.ref a0] h (some (.int x)) h := by
  obtain ⟨fs, g1, g2⟩ := bnd_some e
  refine ⟨⟨fs, g1⟩, ?_⟩
  refine ct_of (out := (oIp h)) g2 (by decide +kernel) rfl (fun B C hin hl hd => ?_)
  subst hl; subst hd
  show J B _ _ h 0 [(0, .ref a0)] []
  refine j_aload_n C dX6_cost_0 0 rfl rfl ?_
  refine j_getR C wfl_X6_27 dX6_cost_1 (fun a1 => ?_)
  refine j_getI C wfl_X6_136 dX6_cost_4 (fun x2 => ?_)
  exact j_iretp C dX6_cost_7
def f_X2_has (a0 : Nat) (p1 : Int32) (h : Hp) : Option Int32 :=
  bnd (gO h a0 2) fun _ => jn1 (fun (w1 : Int32) => rZp w1) fun k2 => jn0 (k2 (0 : Int32)) fun k3 => if p1 < 0 then k3 else (bnd (gI h a0 2 2) fun x5 => if x5 ≤ p1 then k3 else (if (10 : Int32) ≤ p1 then k3 else (k2 (1 : Int32))))
set_option maxHeartbeats 4000000 in
set_option maxRecDepth 100000 in
theorem c_X2_has (l : Launch) (D : hD) (a0 : Nat) (p1 : Int32) (h : Hp) (x : Int32) (e : f_X2_has a0 p1 h = some x) : (∃ fs, gO h a0 2 = some fs) ∧ Ct l D yX2_has cX2_has 2 (some .boolean) 0 0 [.ref a0, .int p1] h (some (.int x)) h := by
  obtain ⟨fs, g1, g2⟩ := bnd_some e
  refine ⟨⟨fs, g1⟩, ?_⟩
  refine ct_of (out := (oIp h)) g2 (by decide +kernel) rfl (fun B C hin hl hd => ?_)
  subst hl; subst hd
  show J B _ _ h 0 [(0, .ref a0), (1, .int p1)] []
  refine j_iload_n C dX2_has_0 1 rfl rfl ?_
  refine J.jn1 23 (fun (w1 : Int32) => h) (fun (w1 : Int32) => []) (fun (w1 : Int32) => [.int w1]) (fun w1 => ?_) (fun k2 hk2 => ?_)
  · exact j_zretp C dX2_has_23
  refine J.jn0 (h0 := h) (lv0 := []) (st0 := []) 22 ?_ (fun k3 hk3 => ?_)
  · refine j_iconst C (0 : Int32) dX2_has_22 (by decide) ?_
    exact hk2 (0 : Int32)
  refine j_if_lt C 22 dX2_has_1 (by decide) (fun c4 => ?_) (fun c4 => ?_)
  · refine J.sub (lv' := []) [] rfl ?_
    exact hk3
  · refine j_iload_n C dX2_has_4 1 rfl rfl ?_
    refine j_aload_n C dX2_has_5 0 rfl rfl ?_
    refine j_getI C wfl_X2_37 dX2_has_6 (fun x5 => ?_)
    refine j_icmp_ge C 22 dX2_has_9 (by decide) (fun c6 => ?_) (fun c6 => ?_)
    · refine J.sub (lv' := []) [] rfl ?_
      exact hk3
    · refine j_iload_n C dX2_has_12 1 rfl rfl ?_
      refine j_bipush C (10 : Int32) dX2_has_13 (by decide) ?_
      refine j_icmp_ge C 22 dX2_has_15 (by decide) (fun c7 => ?_) (fun c7 => ?_)
      · refine J.sub (lv' := []) [] rfl ?_
        exact hk3
      · refine j_iconst C (1 : Int32) dX2_has_18 (by decide) ?_
        refine j_goto C 23 dX2_has_19 (by decide) ?_
        refine J.sub (lv' := []) [] rfl ?_
        exact hk2 (1 : Int32)
def f_X2_howMany (a0 : Nat) (p1 : Int32) (h : Hp) : Option Int32 :=
  bnd (gO h a0 2) fun _ => wl2 (fun r3 (i1 : Int32) (i2 : Int32) => if (10 : Int32) ≤ i2 then (some i1) else (bnd (f_X2_has a0 i2 h) fun x5 => jn1 (fun (z6 : Int32) => r3 z6 (i2 + (1 : Int32))) fun k7 => if x5 = 0 then (k7 i1) else (bnd (gR h a0 2 7) fun a9 => bnd (ldI 0 h a9 i2) fun x10 => if x10 = p1 then (k7 (i1 + (1 : Int32))) else (k7 i1)))) fuel (0 : Int32) (0 : Int32)
set_option maxHeartbeats 4000000 in
set_option maxRecDepth 100000 in
theorem c_X2_howMany (l : Launch) (D : hD) (a0 : Nat) (p1 : Int32) (h : Hp) (x : Int32) (e : f_X2_howMany a0 p1 h = some x) : (∃ fs, gO h a0 2 = some fs) ∧ Ct l D yX2_howMany cX2_howMany 4 (some .int) 1 21 [.ref a0, .int p1] h (some (.int x)) h := by
  obtain ⟨fs, g1, g2⟩ := bnd_some e
  refine ⟨⟨fs, g1⟩, ?_⟩
  refine ct_of (out := (oIp h)) g2 (by decide +kernel) rfl (fun B C hin hl hd => ?_)
  subst hl; subst hd
  show J B _ _ h 0 [(0, .ref a0), (1, .int p1)] []
  refine j_iconst C (0 : Int32) dX2_howMany_0 (by decide) ?_
  refine j_istore_n (lv' := [(2, .int (0 : Int32)), (0, .ref a0), (1, .int p1)]) C dX2_howMany_1 rfl rfl rfl ?_
  refine j_iconst C (0 : Int32) dX2_howMany_2 (by decide) ?_
  refine j_istore_n (lv' := [(3, .int (0 : Int32)), (2, .int (0 : Int32)), (0, .ref a0), (1, .int p1)]) C dX2_howMany_3 rfl rfl rfl ?_
  refine J.sub (lv' := [(0, .ref a0), (1, .int p1), (2, .int (0 : Int32)), (3, .int (0 : Int32))]) [2, 3, 1, 0] rfl ?_
  refine J.wl2 4 (fun (i1 : Int32) (i2 : Int32) => h) (fun (i1 : Int32) (i2 : Int32) => [(0, .ref a0), (1, .int p1), (2, .int i1), (3, .int i2)]) (fun (i1 : Int32) (i2 : Int32) => []) (fun r3 hr3 i1 i2 => ?_) fuel (0 : Int32) (0 : Int32)
  refine j_iload_n C dX2_howMany_4 3 rfl rfl ?_
  refine j_bipush C (10 : Int32) dX2_howMany_5 (by decide) ?_
  refine j_icmp_ge C 37 dX2_howMany_7 (by decide) (fun c4 => ?_) (fun c4 => ?_)
  · refine j_iload_n C dX2_howMany_37 2 rfl rfl ?_
    exact j_iretp C dX2_howMany_38
  · refine j_aload_n C dX2_howMany_10 0 rfl rfl ?_
    refine j_iload_n C dX2_howMany_11 3 rfl rfl ?_
    refine j_cIp (st := []) (fun x e => ⟨runsV C wml_X2_58 wce_X2_has (c_X2_has (bL B) (bD B) _ _ _ x e).1 rfl rfl rfl rfl rfl dX2_howMany_12, (c_X2_has (bL B) (bD B) _ _ _ x e).2⟩) (fun x5 => ?_)
    refine J.jn1 31 (fun (z6 : Int32) => h) (fun (z6 : Int32) => [(0, .ref a0), (1, .int p1), (2, .int z6), (3, .int i2)]) (fun (z6 : Int32) => []) (fun z6 => ?_) (fun k7 hk7 => ?_)
    · refine j_iinc (lv' := [(3, .int (i2 + (1 : Int32))), (0, .ref a0), (1, .int p1), (2, .int z6)]) C (1 : Int32) dX2_howMany_31 3 rfl (by decide) rfl rfl ?_
      refine j_goto C 4 dX2_howMany_34 (by decide) ?_
      refine J.sub (lv' := [(0, .ref a0), (1, .int p1), (2, .int z6), (3, .int (i2 + (1 : Int32)))]) [1, 2, 3, 0] rfl ?_
      exact hr3 z6 (i2 + (1 : Int32))
    refine j_if_eq C 31 dX2_howMany_15 (by decide) (fun c8 => ?_) (fun c8 => ?_)
    · exact hk7 i1
    · refine j_aload_n C dX2_howMany_18 0 rfl rfl ?_
      refine j_getR C wfl_X2_24 dX2_howMany_19 (fun a9 => ?_)
      refine j_iload_n C dX2_howMany_22 3 rfl rfl ?_
      refine j_iaload C dX2_howMany_23 (fun x10 => ?_)
      refine j_iload_n C dX2_howMany_24 1 rfl rfl ?_
      refine j_icmp_ne C 31 dX2_howMany_25 (by decide) (fun c11 => ?_) (fun c11 => ?_)
      · exact hk7 i1
      · refine j_iinc (lv' := [(2, .int (i1 + (1 : Int32))), (0, .ref a0), (1, .int p1), (3, .int i2)]) C (1 : Int32) dX2_howMany_28 2 rfl (by decide) rfl rfl ?_
        refine J.sub (lv' := [(0, .ref a0), (1, .int p1), (2, .int (i1 + (1 : Int32))), (3, .int i2)]) [1, 2, 0, 3] rfl ?_
        exact hk7 (i1 + (1 : Int32))
def f_X6_count (a0 : Nat) (p1 : Int32) (h : Hp) : Option Int32 :=
  bnd (gO h a0 6) fun _ => sw p1 [(0, 48, bnd (gR h a0 6 4) fun a2 => bnd (gI h a2 2 2) fun x3 => some x3), (1, 56, bnd (gR h a0 6 4) fun a4 => bnd (f_X2_howMany a4 (0 : Int32) h) fun x5 => some x5), (2, 65, bnd (gR h a0 6 4) fun a6 => bnd (f_X2_howMany a6 (1 : Int32) h) fun x7 => some x7), (3, 74, bnd (gR h a0 6 4) fun a8 => bnd (gI h a8 2 8) fun x9 => some x9), (4, 82, bnd (gI h a0 6 10) fun x10 => some x10), (5, 87, bnd (gI h a0 6 6) fun x11 => some x11), (6, 92, bnd (gI h a0 6 8) fun x12 => some x12), (7, 97, bnd (gI h a0 6 1) fun x13 => some x13)] (some (-1 : Int32))
set_option maxHeartbeats 4000000 in
set_option maxRecDepth 100000 in
theorem c_X6_count (l : Launch) (D : hD) (a0 : Nat) (p1 : Int32) (h : Hp) (x : Int32) (e : f_X6_count a0 p1 h = some x) : (∃ fs, gO h a0 6 = some fs) ∧ Ct l D yX6_count cX6_count 2 (some .int) 2 44 [.ref a0, .int p1] h (some (.int x)) h := by
  obtain ⟨fs, g1, g2⟩ := bnd_some e
  refine ⟨⟨fs, g1⟩, ?_⟩
  refine ct_of (out := (oIp h)) g2 (by decide +kernel) rfl (fun B C hin hl hd => ?_)
  subst hl; subst hd
  show J B _ _ h 0 [(0, .ref a0), (1, .int p1)] []
  refine j_iload_n C dX6_count_0 1 rfl rfl ?_
  refine j_table C 102 [(0, 48), (1, 56), (2, 65), (3, 74), (4, 82), (5, 87), (6, 92), (7, 97)] dX6_count_1 rfl (by decide) (by decide) (by decide) ?_ ?_
  · refine ⟨fun c1 => ?_, fun c1 => ?_, fun c1 => ?_, fun c1 => ?_, fun c1 => ?_, fun c1 => ?_, fun c1 => ?_, fun c1 => ?_, trivial⟩
    · dsimp only
      refine j_aload_n C dX6_count_48 0 rfl rfl ?_
      refine j_getR C wfl_X6_27 dX6_count_49 (fun a2 => ?_)
      refine j_getI C wfl_X6_81 dX6_count_52 (fun x3 => ?_)
      exact j_iretp C dX6_count_55
    · dsimp only
      refine j_aload_n C dX6_count_56 0 rfl rfl ?_
      refine j_getR C wfl_X6_27 dX6_count_57 (fun a4 => ?_)
      refine j_iconst C (0 : Int32) dX6_count_60 (by decide) ?_
      refine j_cIp (st := []) (fun x e => ⟨runsV C wml_X6_251 wce_X2_howMany (c_X2_howMany (bL B) (bD B) _ _ _ x e).1 rfl rfl rfl rfl rfl dX6_count_61, (c_X2_howMany (bL B) (bD B) _ _ _ x e).2⟩) (fun x5 => ?_)
      exact j_iretp C dX6_count_64
    · dsimp only
      refine j_aload_n C dX6_count_65 0 rfl rfl ?_
      refine j_getR C wfl_X6_27 dX6_count_66 (fun a6 => ?_)
      refine j_iconst C (1 : Int32) dX6_count_69 (by decide) ?_
      refine j_cIp (st := []) (fun x e => ⟨runsV C wml_X6_251 wce_X2_howMany (c_X2_howMany (bL B) (bD B) _ _ _ x e).1 rfl rfl rfl rfl rfl dX6_count_70, (c_X2_howMany (bL B) (bD B) _ _ _ x e).2⟩) (fun x7 => ?_)
      exact j_iretp C dX6_count_73
    · dsimp only
      refine j_aload_n C dX6_count_74 0 rfl rfl ?_
      refine j_getR C wfl_X6_27 dX6_count_75 (fun a8 => ?_)
      refine j_getI C wfl_X6_129 dX6_count_78 (fun x9 => ?_)
      exact j_iretp C dX6_count_81
    · dsimp only
      refine j_aload_n C dX6_count_82 0 rfl rfl ?_
      refine j_getI C wfl_X6_88 dX6_count_83 (fun x10 => ?_)
      exact j_iretp C dX6_count_86
    · dsimp only
      refine j_aload_n C dX6_count_87 0 rfl rfl ?_
      refine j_getI C wfl_X6_91 dX6_count_88 (fun x11 => ?_)
      exact j_iretp C dX6_count_91
    · dsimp only
      refine j_aload_n C dX6_count_92 0 rfl rfl ?_
      refine j_getI C wfl_X6_94 dX6_count_93 (fun x12 => ?_)
      exact j_iretp C dX6_count_96
    · dsimp only
      refine j_aload_n C dX6_count_97 0 rfl rfl ?_
      refine j_getI C wfl_X6_73 dX6_count_98 (fun x13 => ?_)
      exact j_iretp C dX6_count_101
  · refine j_iconst C (-1 : Int32) dX6_count_102 (by decide) ?_
    exact j_iretp C dX6_count_103
def f_X2_clear (a0 : Nat) (h : Hp) : Option Hp :=
  bnd (gO h a0 2) fun _ => bnd (pF h a0 2 0 (.int (0 : Int32))) fun h1 => bnd (pF h1 a0 2 1 (.int (5 : Int32))) fun h2 => bnd (pF h2 a0 2 2 (.int (0 : Int32))) fun h3 => bnd (pF h3 a0 2 8 (.int (0 : Int32))) fun h4 => bnd (pF h4 a0 2 9 (.int (5 : Int32))) fun h5 => bnd (pF h5 a0 2 10 (.int (5 : Int32))) fun h6 => bnd (pF h6 a0 2 11 (.int (0 : Int32))) fun h7 => some h7
set_option maxHeartbeats 4000000 in
set_option maxRecDepth 100000 in
theorem c_X2_clear (l : Launch) (D : hD) (a0 : Nat) (h : Hp) (x : Hp) (e : f_X2_clear a0 h = some x) : (∃ fs, gO h a0 2 = some fs) ∧ Ct l D yX2_clear cX2_clear 1 none 0 0 [.ref a0] h none x := by
  obtain ⟨fs, g1, g2⟩ := bnd_some e
  refine ⟨⟨fs, g1⟩, ?_⟩
  refine ct_of (out := oV) g2 (by decide +kernel) rfl (fun B C hin hl hd => ?_)
  subst hl; subst hd
  show J B _ _ h 0 [(0, .ref a0)] []
  refine j_aload_n C dX2_clear_0 0 rfl rfl ?_
  refine j_iconst C (0 : Int32) dX2_clear_1 (by decide) ?_
  refine j_put C wfp_X2_30 dX2_clear_2 ⟨_, rfl⟩ (fun h1 => ?_)
  refine j_aload_n C dX2_clear_5 0 rfl rfl ?_
  refine j_iconst C (5 : Int32) dX2_clear_6 (by decide) ?_
  refine j_put C wfp_X2_34 dX2_clear_7 ⟨_, rfl⟩ (fun h2 => ?_)
  refine j_aload_n C dX2_clear_10 0 rfl rfl ?_
  refine j_iconst C (0 : Int32) dX2_clear_11 (by decide) ?_
  refine j_put C wfp_X2_37 dX2_clear_12 ⟨_, rfl⟩ (fun h3 => ?_)
  refine j_aload_n C dX2_clear_15 0 rfl rfl ?_
  refine j_iconst C (0 : Int32) dX2_clear_16 (by decide) ?_
  refine j_put C wfp_X2_40 dX2_clear_17 ⟨_, rfl⟩ (fun h4 => ?_)
  refine j_aload_n C dX2_clear_20 0 rfl rfl ?_
  refine j_iconst C (5 : Int32) dX2_clear_21 (by decide) ?_
  refine j_put C wfp_X2_43 dX2_clear_22 ⟨_, rfl⟩ (fun h5 => ?_)
  refine j_aload_n C dX2_clear_25 0 rfl rfl ?_
  refine j_iconst C (5 : Int32) dX2_clear_26 (by decide) ?_
  refine j_put C wfp_X2_46 dX2_clear_27 ⟨_, rfl⟩ (fun h6 => ?_)
  refine j_aload_n C dX2_clear_30 0 rfl rfl ?_
  refine j_iconst C (0 : Int32) dX2_clear_31 (by decide) ?_
  refine j_put C wfp_X2_49 dX2_clear_32 ⟨_, rfl⟩ (fun h7 => ?_)
  exact j_vret C dX2_clear_35
def f_X4_isSign (a0 : Nat) (p1 : Nat) (p2 : Int32) (p3 : Int32) (h : Hp) : Option Int32 :=
  bnd (gO h a0 4) fun _ => bnd (gI h a0 4 1) fun x1 => jn1 (fun (w2 : Int32) => rZp w2) fun k3 => jn0 (k3 (0 : Int32)) fun k4 => if p2 ≤ x1 then k4 else (bnd (gI h a0 4 1) fun x6 => bnd (aLn h p1) fun x7 => if x7 ≤ x6 then k4 else (bnd (gI h a0 4 1) fun x9 => bnd (ldI 1 h p1 x9) fun x10 => if x10 = p3 then (k3 (1 : Int32)) else k4))
set_option maxHeartbeats 4000000 in
set_option maxRecDepth 100000 in
theorem c_X4_isSign (l : Launch) (D : hD) (a0 : Nat) (p1 : Nat) (p2 : Int32) (p3 : Int32) (h : Hp) (x : Int32) (e : f_X4_isSign a0 p1 p2 p3 h = some x) : (∃ fs, gO h a0 4 = some fs) ∧ Ct l D yX4_isSign cX4_isSign 4 (some .boolean) 0 0 [.ref a0, .ref p1, .int p2, .int p3] h (some (.int x)) h := by
  obtain ⟨fs, g1, g2⟩ := bnd_some e
  refine ⟨⟨fs, g1⟩, ?_⟩
  refine ct_of (out := (oIp h)) g2 (by decide +kernel) rfl (fun B C hin hl hd => ?_)
  subst hl; subst hd
  show J B _ _ h 0 [(0, .ref a0), (1, .ref p1), (2, .int p2), (3, .int p3)] []
  refine j_aload_n C dX4_isSign_0 0 rfl rfl ?_
  refine j_getI C wfl_X4_20 dX4_isSign_1 (fun x1 => ?_)
  refine j_iload_n C dX4_isSign_4 2 rfl rfl ?_
  refine J.jn1 32 (fun (w2 : Int32) => h) (fun (w2 : Int32) => []) (fun (w2 : Int32) => [.int w2]) (fun w2 => ?_) (fun k3 hk3 => ?_)
  · exact j_zretp C dX4_isSign_32
  refine J.jn0 (h0 := h) (lv0 := []) (st0 := []) 31 ?_ (fun k4 hk4 => ?_)
  · refine j_iconst C (0 : Int32) dX4_isSign_31 (by decide) ?_
    exact hk3 (0 : Int32)
  refine j_icmp_ge C 31 dX4_isSign_5 (by decide) (fun c5 => ?_) (fun c5 => ?_)
  · refine J.sub (lv' := []) [] rfl ?_
    exact hk4
  · refine j_aload_n C dX4_isSign_8 0 rfl rfl ?_
    refine j_getI C wfl_X4_20 dX4_isSign_9 (fun x6 => ?_)
    refine j_aload_n C dX4_isSign_12 1 rfl rfl ?_
    refine j_alen C dX4_isSign_13 (fun x7 => ?_)
    refine j_icmp_ge C 31 dX4_isSign_14 (by decide) (fun c8 => ?_) (fun c8 => ?_)
    · refine J.sub (lv' := []) [] rfl ?_
      exact hk4
    · refine j_aload_n C dX4_isSign_17 1 rfl rfl ?_
      refine j_aload_n C dX4_isSign_18 0 rfl rfl ?_
      refine j_getI C wfl_X4_20 dX4_isSign_19 (fun x9 => ?_)
      refine j_baload C dX4_isSign_22 (fun x10 => ?_)
      refine j_iload_n C dX4_isSign_23 3 rfl rfl ?_
      refine j_icmp_ne C 31 dX4_isSign_24 (by decide) (fun c11 => ?_) (fun c11 => ?_)
      · refine J.sub (lv' := []) [] rfl ?_
        exact hk4
      · refine j_iconst C (1 : Int32) dX4_isSign_27 (by decide) ?_
        refine j_goto C 32 dX4_isSign_28 (by decide) ?_
        refine J.sub (lv' := []) [] rfl ?_
        exact hk3 (1 : Int32)
def f_X4_isFigure (a0 : Nat) (p1 : Nat) (p2 : Int32) (h : Hp) : Option Int32 :=
  bnd (gO h a0 4) fun _ => bnd (gI h a0 4 1) fun x1 => jn1 (fun (w2 : Int32) => rZp w2) fun k3 => jn0 (k3 (0 : Int32)) fun k4 => if p2 ≤ x1 then k4 else (bnd (gI h a0 4 1) fun x6 => bnd (aLn h p1) fun x7 => if x7 ≤ x6 then k4 else (bnd (gI h a0 4 1) fun x9 => bnd (ldI 1 h p1 x9) fun x10 => if x10 < (48 : Int32) then k4 else (bnd (gI h a0 4 1) fun x12 => bnd (ldI 1 h p1 x12) fun x13 => if (57 : Int32) < x13 then k4 else (k3 (1 : Int32)))))
set_option maxHeartbeats 4000000 in
set_option maxRecDepth 100000 in
theorem c_X4_isFigure (l : Launch) (D : hD) (a0 : Nat) (p1 : Nat) (p2 : Int32) (h : Hp) (x : Int32) (e : f_X4_isFigure a0 p1 p2 h = some x) : (∃ fs, gO h a0 4 = some fs) ∧ Ct l D yX4_isFigure cX4_isFigure 3 (some .boolean) 0 0 [.ref a0, .ref p1, .int p2] h (some (.int x)) h := by
  obtain ⟨fs, g1, g2⟩ := bnd_some e
  refine ⟨⟨fs, g1⟩, ?_⟩
  refine ct_of (out := (oIp h)) g2 (by decide +kernel) rfl (fun B C hin hl hd => ?_)
  subst hl; subst hd
  show J B _ _ h 0 [(0, .ref a0), (1, .ref p1), (2, .int p2)] []
  refine j_aload_n C dX4_isFigure_0 0 rfl rfl ?_
  refine j_getI C wfl_X4_20 dX4_isFigure_1 (fun x1 => ?_)
  refine j_iload_n C dX4_isFigure_4 2 rfl rfl ?_
  refine J.jn1 44 (fun (w2 : Int32) => h) (fun (w2 : Int32) => []) (fun (w2 : Int32) => [.int w2]) (fun w2 => ?_) (fun k3 hk3 => ?_)
  · exact j_zretp C dX4_isFigure_44
  refine J.jn0 (h0 := h) (lv0 := []) (st0 := []) 43 ?_ (fun k4 hk4 => ?_)
  · refine j_iconst C (0 : Int32) dX4_isFigure_43 (by decide) ?_
    exact hk3 (0 : Int32)
  refine j_icmp_ge C 43 dX4_isFigure_5 (by decide) (fun c5 => ?_) (fun c5 => ?_)
  · refine J.sub (lv' := []) [] rfl ?_
    exact hk4
  · refine j_aload_n C dX4_isFigure_8 0 rfl rfl ?_
    refine j_getI C wfl_X4_20 dX4_isFigure_9 (fun x6 => ?_)
    refine j_aload_n C dX4_isFigure_12 1 rfl rfl ?_
    refine j_alen C dX4_isFigure_13 (fun x7 => ?_)
    refine j_icmp_ge C 43 dX4_isFigure_14 (by decide) (fun c8 => ?_) (fun c8 => ?_)
    · refine J.sub (lv' := []) [] rfl ?_
      exact hk4
    · refine j_aload_n C dX4_isFigure_17 1 rfl rfl ?_
      refine j_aload_n C dX4_isFigure_18 0 rfl rfl ?_
      refine j_getI C wfl_X4_20 dX4_isFigure_19 (fun x9 => ?_)
      refine j_baload C dX4_isFigure_22 (fun x10 => ?_)
      refine j_bipush C (48 : Int32) dX4_isFigure_23 (by decide) ?_
      refine j_icmp_lt C 43 dX4_isFigure_25 (by decide) (fun c11 => ?_) (fun c11 => ?_)
      · refine J.sub (lv' := []) [] rfl ?_
        exact hk4
      · refine j_aload_n C dX4_isFigure_28 1 rfl rfl ?_
        refine j_aload_n C dX4_isFigure_29 0 rfl rfl ?_
        refine j_getI C wfl_X4_20 dX4_isFigure_30 (fun x12 => ?_)
        refine j_baload C dX4_isFigure_33 (fun x13 => ?_)
        refine j_bipush C (57 : Int32) dX4_isFigure_34 (by decide) ?_
        refine j_icmp_gt C 43 dX4_isFigure_36 (by decide) (fun c14 => ?_) (fun c14 => ?_)
        · refine J.sub (lv' := []) [] rfl ?_
          exact hk4
        · refine j_iconst C (1 : Int32) dX4_isFigure_39 (by decide) ?_
          refine j_goto C 44 dX4_isFigure_40 (by decide) ?_
          refine J.sub (lv' := []) [] rfl ?_
          exact hk3 (1 : Int32)
def f_X4_readNumber (a0 : Nat) (p1 : Nat) (p2 : Int32) (h : Hp) : Option (Int32 × Hp) :=
  bnd (gO h a0 4) fun _ => wl3 (fun r4 (i1 : Int32) (i2 : Int32) (h3 : Hp) => jn0 (some (i1, h3)) fun k5 => if (2 : Int32) ≤ i2 then k5 else (bnd (f_X4_isFigure a0 p1 p2 h3) fun x7 => if x7 = 0 then k5 else (bnd (gI h3 a0 4 1) fun x9 => bnd (ldI 1 h3 p1 x9) fun x10 => nm (((mx i1 (0 : Int32)) * (10 : Int32)) + (x10 - (48 : Int32))) fun v11 => bnd (gI h3 a0 4 1) fun x12 => bnd (pF h3 a0 4 1 (.int (x12 + (1 : Int32)))) fun h13 => r4 v11 (i2 + (1 : Int32)) h13))) fuel (-1 : Int32) (0 : Int32) h
set_option maxHeartbeats 4000000 in
set_option maxRecDepth 100000 in
theorem c_X4_readNumber (l : Launch) (D : hD) (a0 : Nat) (p1 : Nat) (p2 : Int32) (h : Hp) (x : (Int32 × Hp)) (e : f_X4_readNumber a0 p1 p2 h = some x) : (∃ fs, gO h a0 4 = some fs) ∧ Ct l D yX4_readNumber cX4_readNumber 5 (some .int) 1 22 [.ref a0, .ref p1, .int p2] h (some (.int x.1)) x.2 := by
  obtain ⟨fs, g1, g2⟩ := bnd_some e
  refine ⟨⟨fs, g1⟩, ?_⟩
  refine ct_of (out := oI) g2 (by decide +kernel) rfl (fun B C hin hl hd => ?_)
  subst hl; subst hd
  show J B _ _ h 0 [(0, .ref a0), (1, .ref p1), (2, .int p2)] []
  refine j_iconst C (-1 : Int32) dX4_readNumber_0 (by decide) ?_
  refine j_istore_n (lv' := [(3, .int (-1 : Int32)), (0, .ref a0), (1, .ref p1), (2, .int p2)]) C dX4_readNumber_1 rfl rfl rfl ?_
  refine j_iconst C (0 : Int32) dX4_readNumber_2 (by decide) ?_
  refine j_istore (lv' := [(4, .int (0 : Int32)), (3, .int (-1 : Int32)), (0, .ref a0), (1, .ref p1), (2, .int p2)]) C dX4_readNumber_3 rfl rfl ?_
  refine J.sub (lv' := [(0, .ref a0), (1, .ref p1), (2, .int p2), (3, .int (-1 : Int32)), (4, .int (0 : Int32))]) [2, 3, 4, 1, 0] rfl ?_
  refine J.wl3 5 (fun (i1 : Int32) (i2 : Int32) (h3 : Hp) => h3) (fun (i1 : Int32) (i2 : Int32) (h3 : Hp) => [(0, .ref a0), (1, .ref p1), (2, .int p2), (3, .int i1), (4, .int i2)]) (fun (i1 : Int32) (i2 : Int32) (h3 : Hp) => []) (fun r4 hr4 i1 i2 h3 => ?_) fuel (-1 : Int32) (0 : Int32) h
  refine j_iload C dX4_readNumber_5 4 rfl ?_
  refine j_iconst C (2 : Int32) dX4_readNumber_7 (by decide) ?_
  refine J.jn0 (h0 := h3) (lv0 := [(3, .int i1)]) (st0 := []) 55 ?_ (fun k5 hk5 => ?_)
  · refine j_iload_n C dX4_readNumber_55 0 rfl rfl ?_
    exact j_iret C dX4_readNumber_56
  refine j_icmp_ge C 55 dX4_readNumber_8 (by decide) (fun c6 => ?_) (fun c6 => ?_)
  · refine J.sub (lv' := [(3, .int i1)]) [3] rfl ?_
    exact hk5
  · refine j_aload_n C dX4_readNumber_11 0 rfl rfl ?_
    refine j_aload_n C dX4_readNumber_12 1 rfl rfl ?_
    refine j_iload_n C dX4_readNumber_13 2 rfl rfl ?_
    refine j_cIp (st := []) (fun x e => ⟨runsV C wml_X4_49 wce_X4_isFigure (c_X4_isFigure (bL B) (bD B) _ _ _ _ x e).1 rfl rfl rfl rfl rfl dX4_readNumber_14, (c_X4_isFigure (bL B) (bD B) _ _ _ _ x e).2⟩) (fun x7 => ?_)
    refine j_if_eq C 55 dX4_readNumber_17 (by decide) (fun c8 => ?_) (fun c8 => ?_)
    · refine J.sub (lv' := [(3, .int i1)]) [3] rfl ?_
      exact hk5
    · refine j_iload_n C dX4_readNumber_20 3 rfl rfl ?_
      refine j_iconst C (0 : Int32) dX4_readNumber_21 (by decide) ?_
      refine j_max C wob_X4_53 wma_max_s wma_i wma_max_c rfl rfl rfl dX4_readNumber_22 ?_
      refine j_bipush C (10 : Int32) dX4_readNumber_25 (by decide) ?_
      refine j_imul C dX4_readNumber_27 ?_
      refine j_aload_n C dX4_readNumber_28 1 rfl rfl ?_
      refine j_aload_n C dX4_readNumber_29 0 rfl rfl ?_
      refine j_getI C wfl_X4_20 dX4_readNumber_30 (fun x9 => ?_)
      refine j_baload C dX4_readNumber_33 (fun x10 => ?_)
      refine j_bipush C (48 : Int32) dX4_readNumber_34 (by decide) ?_
      refine j_isub C dX4_readNumber_36 ?_
      refine j_iadd C dX4_readNumber_37 ?_
      refine j_nmI (fun v11 => ?_)
      refine j_istore_n (lv' := [(3, .int v11), (0, .ref a0), (1, .ref p1), (2, .int p2), (4, .int i2)]) C dX4_readNumber_38 rfl rfl rfl ?_
      refine j_aload_n C dX4_readNumber_39 1 rfl rfl ?_
      refine j_dup C dX4_readNumber_40 (fun _ => rfl) ?_
      refine j_getI C wfl_X4_20 dX4_readNumber_41 (fun x12 => ?_)
      refine j_iconst C (1 : Int32) dX4_readNumber_44 (by decide) ?_
      refine j_iadd C dX4_readNumber_45 ?_
      refine j_put C wfp_X4_20 dX4_readNumber_46 ⟨_, rfl⟩ (fun h13 => ?_)
      refine j_iinc (lv' := [(4, .int (i2 + (1 : Int32))), (3, .int v11), (0, .ref a0), (1, .ref p1), (2, .int p2)]) C (1 : Int32) dX4_readNumber_49 4 rfl (by decide) rfl rfl ?_
      refine j_goto C 5 dX4_readNumber_52 (by decide) ?_
      refine J.sub (lv' := [(0, .ref a0), (1, .ref p1), (2, .int p2), (3, .int v11), (4, .int (i2 + (1 : Int32)))]) [2, 3, 4, 1, 0] rfl ?_
      exact hr4 v11 (i2 + (1 : Int32)) h13
def f_X4_readNumbers (a0 : Nat) (p1 : Nat) (p2 : Int32) (p3 : Int32) (h : Hp) : Option (Int32 × Hp) :=
  bnd (gO h a0 4) fun _ => wl2 (fun r3 (i1 : Int32) (h2 : Hp) => jn0 (rZ (1 : Int32) h2) fun k4 => if p3 ≤ i1 then k4 else (if (4 : Int32) ≤ i1 then k4 else (bnd (gR h2 a0 4 0) fun a7 => bnd2 (f_X4_readNumber a0 p1 p2 h2) fun x8 h9 => bnd (stI 0 h9 a7 i1 x8) fun h10 => jn1 (fun (w11 : Int32) => bnd (gR h10 a0 4 0) fun a13 => bnd (ldI 0 h10 a13 i1) fun x14 => jn0 (rZ (0 : Int32) h10) fun k15 => if x14 < 0 then k15 else (bnd (f_X4_isSign a0 p1 p2 w11 h10) fun x17 => if x17 = 0 then k15 else (bnd (gI h10 a0 4 1) fun x19 => bnd (pF h10 a0 4 1 (.int (x19 + (1 : Int32)))) fun h20 => r3 (i1 + (1 : Int32)) h20))) fun k12 => if p3 ≤ (i1 + (1 : Int32)) then (k12 (59 : Int32)) else (k12 (44 : Int32))))) fuel (0 : Int32) h
set_option maxHeartbeats 4000000 in
set_option maxRecDepth 100000 in
theorem c_X4_readNumbers (l : Launch) (D : hD) (a0 : Nat) (p1 : Nat) (p2 : Int32) (p3 : Int32) (h : Hp) (x : (Int32 × Hp)) (e : f_X4_readNumbers a0 p1 p2 p3 h = some x) : (∃ fs, gO h a0 4 = some fs) ∧ Ct l D yX4_readNumbers cX4_readNumbers 6 (some .boolean) 2 46 [.ref a0, .ref p1, .int p2, .int p3] h (some (.int x.1)) x.2 := by
  obtain ⟨fs, g1, g2⟩ := bnd_some e
  refine ⟨⟨fs, g1⟩, ?_⟩
  refine ct_of (out := oI) g2 (by decide +kernel) rfl (fun B C hin hl hd => ?_)
  subst hl; subst hd
  show J B _ _ h 0 [(0, .ref a0), (1, .ref p1), (2, .int p2), (3, .int p3)] []
  refine j_iconst C (0 : Int32) dX4_readNumbers_0 (by decide) ?_
  refine j_istore (lv' := [(4, .int (0 : Int32)), (0, .ref a0), (1, .ref p1), (2, .int p2), (3, .int p3)]) C dX4_readNumbers_1 rfl rfl ?_
  refine J.sub (lv' := [(0, .ref a0), (1, .ref p1), (2, .int p2), (3, .int p3), (4, .int (0 : Int32))]) [1, 2, 3, 4, 0] rfl ?_
  refine J.wl2 3 (fun (i1 : Int32) (h2 : Hp) => h2) (fun (i1 : Int32) (h2 : Hp) => [(0, .ref a0), (1, .ref p1), (2, .int p2), (3, .int p3), (4, .int i1)]) (fun (i1 : Int32) (h2 : Hp) => []) (fun r3 hr3 i1 h2 => ?_) fuel (0 : Int32) h
  refine j_iload C dX4_readNumbers_3 4 rfl ?_
  refine j_iload_n C dX4_readNumbers_5 3 rfl rfl ?_
  refine J.jn0 (h0 := h2) (lv0 := []) (st0 := []) 84 ?_ (fun k4 hk4 => ?_)
  · refine j_iconst C (1 : Int32) dX4_readNumbers_84 (by decide) ?_
    exact j_zret C dX4_readNumbers_85
  refine j_icmp_ge C 84 dX4_readNumbers_6 (by decide) (fun c5 => ?_) (fun c5 => ?_)
  · refine J.sub (lv' := []) [] rfl ?_
    exact hk4
  · refine j_iload C dX4_readNumbers_9 4 rfl ?_
    refine j_iconst C (4 : Int32) dX4_readNumbers_11 (by decide) ?_
    refine j_icmp_ge C 84 dX4_readNumbers_12 (by decide) (fun c6 => ?_) (fun c6 => ?_)
    · refine J.sub (lv' := []) [] rfl ?_
      exact hk4
    · refine j_aload_n C dX4_readNumbers_15 0 rfl rfl ?_
      refine j_getR C wfl_X4_11 dX4_readNumbers_16 (fun a7 => ?_)
      refine j_iload C dX4_readNumbers_19 4 rfl ?_
      refine j_aload_n C dX4_readNumbers_21 0 rfl rfl ?_
      refine j_aload_n C dX4_readNumbers_22 1 rfl rfl ?_
      refine j_iload_n C dX4_readNumbers_23 2 rfl rfl ?_
      refine j_cI (st := [.int i1, .ref a7]) (fun x e => ⟨runsV C wml_X4_42 wce_X4_readNumber (c_X4_readNumber (bL B) (bD B) _ _ _ _ x e).1 rfl rfl rfl rfl rfl dX4_readNumbers_24, (c_X4_readNumber (bL B) (bD B) _ _ _ _ x e).2⟩) (fun x8 h9 => ?_)
      refine j_iastore C dX4_readNumbers_27 (fun h10 => ?_)
      refine j_iload C dX4_readNumbers_28 4 rfl ?_
      refine j_iconst C (1 : Int32) dX4_readNumbers_30 (by decide) ?_
      refine j_iadd C dX4_readNumbers_31 ?_
      refine j_iload_n C dX4_readNumbers_32 3 rfl rfl ?_
      refine J.jn1 43 (fun (w11 : Int32) => h10) (fun (w11 : Int32) => [(0, .ref a0), (1, .ref p1), (2, .int p2), (3, .int p3), (4, .int i1)]) (fun (w11 : Int32) => [.int w11]) (fun w11 => ?_) (fun k12 hk12 => ?_)
      · refine j_istore (lv' := [(5, .int w11), (0, .ref a0), (1, .ref p1), (2, .int p2), (3, .int p3), (4, .int i1)]) C dX4_readNumbers_43 rfl rfl ?_
        refine j_aload_n C dX4_readNumbers_45 1 rfl rfl ?_
        refine j_getR C wfl_X4_11 dX4_readNumbers_46 (fun a13 => ?_)
        refine j_iload C dX4_readNumbers_49 5 rfl ?_
        refine j_iaload C dX4_readNumbers_51 (fun x14 => ?_)
        refine J.jn0 (h0 := h10) (lv0 := []) (st0 := []) 66 ?_ (fun k15 hk15 => ?_)
        · refine j_iconst C (0 : Int32) dX4_readNumbers_66 (by decide) ?_
          exact j_zret C dX4_readNumbers_67
        refine j_if_lt C 66 dX4_readNumbers_52 (by decide) (fun c16 => ?_) (fun c16 => ?_)
        · refine J.sub (lv' := []) [] rfl ?_
          exact hk15
        · refine j_aload_n C dX4_readNumbers_55 1 rfl rfl ?_
          refine j_aload_n C dX4_readNumbers_56 2 rfl rfl ?_
          refine j_iload_n C dX4_readNumbers_57 3 rfl rfl ?_
          refine j_iload C dX4_readNumbers_58 0 rfl ?_
          refine j_cIp (st := []) (fun x e => ⟨runsV C wml_X4_46 wce_X4_isSign (c_X4_isSign (bL B) (bD B) _ _ _ _ _ x e).1 rfl rfl rfl rfl rfl dX4_readNumbers_60, (c_X4_isSign (bL B) (bD B) _ _ _ _ _ x e).2⟩) (fun x17 => ?_)
          refine j_if_ne C 68 dX4_readNumbers_63 (by decide) (fun c18 => ?_) (fun c18 => ?_)
          · refine j_aload_n C dX4_readNumbers_68 1 rfl rfl ?_
            refine j_dup C dX4_readNumbers_69 (fun _ => rfl) ?_
            refine j_getI C wfl_X4_20 dX4_readNumbers_70 (fun x19 => ?_)
            refine j_iconst C (1 : Int32) dX4_readNumbers_73 (by decide) ?_
            refine j_iadd C dX4_readNumbers_74 ?_
            refine j_put C wfp_X4_20 dX4_readNumbers_75 ⟨_, rfl⟩ (fun h20 => ?_)
            refine j_iinc (lv' := [(4, .int (i1 + (1 : Int32))), (5, .int w11), (0, .ref a0), (1, .ref p1), (2, .int p2), (3, .int p3)]) C (1 : Int32) dX4_readNumbers_78 5 rfl (by decide) rfl rfl ?_
            refine j_goto C 3 dX4_readNumbers_81 (by decide) ?_
            refine J.sub (lv' := [(0, .ref a0), (1, .ref p1), (2, .int p2), (3, .int p3), (4, .int (i1 + (1 : Int32)))]) [2, 3, 4, 5, 0] rfl ?_
            exact hr3 (i1 + (1 : Int32)) h20
          · refine J.sub (lv' := []) [] rfl ?_
            exact hk15
      refine j_icmp_ge C 41 dX4_readNumbers_33 (by decide) (fun c21 => ?_) (fun c21 => ?_)
      · refine j_bipush C (59 : Int32) dX4_readNumbers_41 (by decide) ?_
        exact hk12 (59 : Int32)
      · refine j_bipush C (44 : Int32) dX4_readNumbers_36 (by decide) ?_
        refine j_goto C 43 dX4_readNumbers_38 (by decide) ?_
        exact hk12 (44 : Int32)
def f_X4_takeLaw (a0 : Nat) (p1 : Nat) (h : Hp) : Option (Int32 × Hp) :=
  bnd (gO h a0 4) fun _ => bnd (gR h a0 4 0) fun a1 => bnd (ldI 0 h a1 (0 : Int32)) fun x2 => jn0 (bnd (gR h a0 4 0) fun a4 => bnd (ldI 0 h a4 (0 : Int32)) fun x5 => bnd (pF h p1 2 0 (.int x5)) fun h6 => rZ (1 : Int32) h6) fun k3 => if x2 = 0 then k3 else (bnd (gR h a0 4 0) fun a8 => bnd (ldI 0 h a8 (0 : Int32)) fun x9 => if x9 = (1 : Int32) then k3 else (rZ (0 : Int32) h))
set_option maxHeartbeats 4000000 in
set_option maxRecDepth 100000 in
theorem c_X4_takeLaw (l : Launch) (D : hD) (a0 : Nat) (p1 : Nat) (h : Hp) (x : (Int32 × Hp)) (e : f_X4_takeLaw a0 p1 h = some x) : (∃ fs, gO h a0 4 = some fs) ∧ Ct l D yX4_takeLaw cX4_takeLaw 2 (some .boolean) 0 0 [.ref a0, .ref p1] h (some (.int x.1)) x.2 := by
  obtain ⟨fs, g1, g2⟩ := bnd_some e
  refine ⟨⟨fs, g1⟩, ?_⟩
  refine ct_of (out := oI) g2 (by decide +kernel) rfl (fun B C hin hl hd => ?_)
  subst hl; subst hd
  show J B _ _ h 0 [(0, .ref a0), (1, .ref p1)] []
  refine j_aload_n C dX4_takeLaw_0 0 rfl rfl ?_
  refine j_getR C wfl_X4_11 dX4_takeLaw_1 (fun a1 => ?_)
  refine j_iconst C (0 : Int32) dX4_takeLaw_4 (by decide) ?_
  refine j_iaload C dX4_takeLaw_5 (fun x2 => ?_)
  refine J.jn0 (h0 := h) (lv0 := [(0, .ref a0), (1, .ref p1)]) (st0 := []) 21 ?_ (fun k3 hk3 => ?_)
  · refine j_aload_n C dX4_takeLaw_21 1 rfl rfl ?_
    refine j_aload_n C dX4_takeLaw_22 0 rfl rfl ?_
    refine j_getR C wfl_X4_11 dX4_takeLaw_23 (fun a4 => ?_)
    refine j_iconst C (0 : Int32) dX4_takeLaw_26 (by decide) ?_
    refine j_iaload C dX4_takeLaw_27 (fun x5 => ?_)
    refine j_put C wfp_X4_73 dX4_takeLaw_28 ⟨_, rfl⟩ (fun h6 => ?_)
    refine j_iconst C (1 : Int32) dX4_takeLaw_31 (by decide) ?_
    exact j_zret C dX4_takeLaw_32
  refine j_if_eq C 21 dX4_takeLaw_6 (by decide) (fun c7 => ?_) (fun c7 => ?_)
  · exact hk3
  · refine j_aload_n C dX4_takeLaw_9 0 rfl rfl ?_
    refine j_getR C wfl_X4_11 dX4_takeLaw_10 (fun a8 => ?_)
    refine j_iconst C (0 : Int32) dX4_takeLaw_13 (by decide) ?_
    refine j_iaload C dX4_takeLaw_14 (fun x9 => ?_)
    refine j_iconst C (1 : Int32) dX4_takeLaw_15 (by decide) ?_
    refine j_icmp_eq C 21 dX4_takeLaw_16 (by decide) (fun c10 => ?_) (fun c10 => ?_)
    · exact hk3
    · refine j_iconst C (0 : Int32) dX4_takeLaw_19 (by decide) ?_
      exact j_zret C dX4_takeLaw_20
