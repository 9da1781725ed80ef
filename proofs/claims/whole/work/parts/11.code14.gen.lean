def f_X7_stops (a0 : Nat) (p1 : Int32) (h : Hp) : Option Int32 :=
  bnd (gO h a0 7) fun _ => bnd (f_X7_in p1.toInt64 (0 : Int64) (2 : Int64)) fun x1 => if x1 = 0 then (some (-1 : Int32)) else (if p1 = (2 : Int32) then (bnd (f_X7_bread a0 h) fun x30 => some x30) else (bnd (gR h a0 7 6) fun a4 => bnd (ldI 0 h a4 (52 : Int32)) fun x5 => bnd (gR h a0 7 6) fun a6 => bnd (ldI 0 h a6 (53 : Int32)) fun x7 => bnd (gR h a0 7 6) fun a8 => bnd (ldI 0 h a8 (51 : Int32)) fun x9 => wl4 (fun r14 (i10 : Int32) (i11 : Int32) (i12 : Int32) (i13 : Int32) => bnd (gI h a0 7 9) fun x15 => if x15 ≤ i13 then (jn1 (fun (w17 : Int32) => some w17) fun k18 => if p1 = 0 then (k18 (-4 : Int32)) else (k18 i12)) else (bnd (gR h a0 7 10) fun a20 => bnd (ldI 0 h a20 i13) fun x21 => bnd (f_X7_of a0 x21 (0 : Int32) h) fun x22 => bnd (f_X7_isMixed a0 x22 i10 i11 h) fun x23 => if x23 = 0 then (jn1 (fun (w27 : Int32) => some w27) fun k28 => if p1 = 0 then (k28 i13) else (k28 i12)) else (bnd (f_X7_ends a0 i12 x21 h) fun x25 => bnd (f_X7_of a0 x21 (0 : Int32) h) fun x26 => r14 x26 i10 x25 (i13 + (1 : Int32))))) fuel x5 x7 x9 (0 : Int32)))
set_option maxHeartbeats 4000000 in
set_option maxRecDepth 100000 in
theorem c_X7_stops (l : Launch) (D : hD) (a0 : Nat) (p1 : Int32) (h : Hp) (x : Int32) (e : f_X7_stops a0 p1 h = some x) : (∃ fs, gO h a0 7 = some fs) ∧ Ct l D yX7_stops cX7_stops 7 (some .int) 2 47 [.ref a0, .int p1] h (some (.int x)) h := by
  obtain ⟨fs, g1, g2⟩ := bnd_some e
  refine ⟨⟨fs, g1⟩, ?_⟩
  refine ct_of (out := (oIp h)) g2 (by decide +kernel) rfl (fun B C hin hl hd => ?_)
  subst hl; subst hd
  show J B _ _ h 0 [(0, .ref a0), (1, .int p1)] []
  refine j_iload_n C dX7_stops_0 1 rfl rfl ?_
  refine j_i2l C dX7_stops_1 ?_
  refine j_lconst C (0 : Int64) dX7_stops_2 (by decide) ?_
  refine j_ldc2_w C dX7_stops_3 wcl_X7_84 ?_
  refine j_cIp (st := []) (fun x e => ⟨runsS C wml_X7_69 wce_X7_in rfl rfl rfl rfl rfl dX7_stops_6, c_X7_in (bL B) (bD B) _ _ _ _ x e⟩) (fun x1 => ?_)
  refine j_if_ne C 14 dX7_stops_9 (by decide) (fun c2 => ?_) (fun c2 => ?_)
  · refine j_iload_n C dX7_stops_14 1 rfl rfl ?_
    refine j_iconst C (2 : Int32) dX7_stops_15 (by decide) ?_
    refine j_icmp_ne C 24 dX7_stops_16 (by decide) (fun c3 => ?_) (fun c3 => ?_)
    · refine j_aload_n C dX7_stops_24 0 rfl rfl ?_
      refine j_getR C wfl_X7_23 dX7_stops_25 (fun a4 => ?_)
      refine j_bipush C (52 : Int32) dX7_stops_28 (by decide) ?_
      refine j_iaload C dX7_stops_30 (fun x5 => ?_)
      refine j_istore_n (lv' := [(2, .int x5), (0, .ref a0), (1, .int p1)]) C dX7_stops_31 rfl rfl rfl ?_
      refine j_aload_n C dX7_stops_32 1 rfl rfl ?_
      refine j_getR C wfl_X7_23 dX7_stops_33 (fun a6 => ?_)
      refine j_bipush C (53 : Int32) dX7_stops_36 (by decide) ?_
      refine j_iaload C dX7_stops_38 (fun x7 => ?_)
      refine j_istore_n (lv' := [(3, .int x7), (2, .int x5), (0, .ref a0), (1, .int p1)]) C dX7_stops_39 rfl rfl rfl ?_
      refine j_aload_n C dX7_stops_40 2 rfl rfl ?_
      refine j_getR C wfl_X7_23 dX7_stops_41 (fun a8 => ?_)
      refine j_bipush C (51 : Int32) dX7_stops_44 (by decide) ?_
      refine j_iaload C dX7_stops_46 (fun x9 => ?_)
      refine j_istore (lv' := [(4, .int x9), (3, .int x7), (2, .int x5), (0, .ref a0), (1, .int p1)]) C dX7_stops_47 rfl rfl ?_
      refine j_iconst C (0 : Int32) dX7_stops_49 (by decide) ?_
      refine j_istore (lv' := [(5, .int (0 : Int32)), (4, .int x9), (3, .int x7), (2, .int x5), (0, .ref a0), (1, .int p1)]) C dX7_stops_50 rfl rfl ?_
      refine J.sub (lv' := [(0, .ref a0), (1, .int p1), (2, .int x5), (3, .int x7), (4, .int x9), (5, .int (0 : Int32))]) [4, 5, 3, 2, 1, 0] rfl ?_
      refine J.wl4 52 (fun (i10 : Int32) (i11 : Int32) (i12 : Int32) (i13 : Int32) => h) (fun (i10 : Int32) (i11 : Int32) (i12 : Int32) (i13 : Int32) => [(0, .ref a0), (1, .int p1), (2, .int i10), (3, .int i11), (4, .int i12), (5, .int i13)]) (fun (i10 : Int32) (i11 : Int32) (i12 : Int32) (i13 : Int32) => []) (fun r14 hr14 i10 i11 i12 i13 => ?_) fuel x5 x7 x9 (0 : Int32)
      refine j_iload C dX7_stops_52 5 rfl ?_
      refine j_aload_n C dX7_stops_54 0 rfl rfl ?_
      refine j_getI C wfl_X7_98 dX7_stops_55 (fun x15 => ?_)
      refine j_icmp_ge C 124 dX7_stops_58 (by decide) (fun c16 => ?_) (fun c16 => ?_)
      · refine j_iload_n C dX7_stops_124 1 rfl rfl ?_
        refine J.jn1 135 (fun (w17 : Int32) => h) (fun (w17 : Int32) => []) (fun (w17 : Int32) => [.int w17]) (fun w17 => ?_) (fun k18 hk18 => ?_)
        · exact j_iretp C dX7_stops_135
        refine j_if_ne C 133 dX7_stops_125 (by decide) (fun c19 => ?_) (fun c19 => ?_)
        · refine j_iload C dX7_stops_133 4 rfl ?_
          refine J.sub (lv' := []) [] rfl ?_
          exact hk18 i12
        · refine j_bipush C (-4 : Int32) dX7_stops_128 (by decide) ?_
          refine j_goto C 135 dX7_stops_130 (by decide) ?_
          refine J.sub (lv' := []) [] rfl ?_
          exact hk18 (-4 : Int32)
      · refine j_aload_n C dX7_stops_61 0 rfl rfl ?_
        refine j_getR C wfl_X7_26 dX7_stops_62 (fun a20 => ?_)
        refine j_iload C dX7_stops_65 5 rfl ?_
        refine j_iaload C dX7_stops_67 (fun x21 => ?_)
        refine j_istore (lv' := [(6, .int x21), (0, .ref a0), (1, .int p1), (2, .int i10), (3, .int i11), (4, .int i12), (5, .int i13)]) C dX7_stops_68 rfl rfl ?_
        refine j_aload_n C dX7_stops_70 1 rfl rfl ?_
        refine j_aload_n C dX7_stops_71 1 rfl rfl ?_
        refine j_iload C dX7_stops_72 0 rfl ?_
        refine j_iconst C (0 : Int32) dX7_stops_74 (by decide) ?_
        refine j_cIp (st := [.ref a0]) (fun x e => ⟨runsV C wml_X7_114 wce_X7_of (c_X7_of (bL B) (bD B) _ _ _ _ x e).1 rfl rfl rfl rfl rfl dX7_stops_75, (c_X7_of (bL B) (bD B) _ _ _ _ x e).2⟩) (fun x22 => ?_)
        refine j_iload_n C dX7_stops_78 3 rfl rfl ?_
        refine j_iload_n C dX7_stops_79 4 rfl rfl ?_
        refine j_cIp (st := []) (fun x e => ⟨runsV C wml_X7_121 wce_X7_isMixed (c_X7_isMixed (bL B) (bD B) _ _ _ _ _ x e).1 rfl rfl rfl rfl rfl dX7_stops_80, (c_X7_isMixed (bL B) (bD B) _ _ _ _ _ x e).2⟩) (fun x23 => ?_)
        refine j_if_ne C 98 dX7_stops_83 (by decide) (fun c24 => ?_) (fun c24 => ?_)
        · refine j_aload_n C dX7_stops_98 1 rfl rfl ?_
          refine j_iload C dX7_stops_99 5 rfl ?_
          refine j_iload C dX7_stops_101 0 rfl ?_
          refine j_cIp (st := []) (fun x e => ⟨runsV C wml_X7_138 wce_X7_ends (c_X7_ends (bL B) (bD B) _ _ _ _ x e).1 rfl rfl rfl rfl rfl dX7_stops_103, (c_X7_ends (bL B) (bD B) _ _ _ _ x e).2⟩) (fun x25 => ?_)
          refine j_istore (lv' := [(4, .int x25), (6, .int x21), (0, .ref a0), (1, .int p1), (2, .int i10), (3, .int i11), (5, .int i13)]) C dX7_stops_106 rfl rfl ?_
          refine j_iload_n C dX7_stops_108 4 rfl rfl ?_
          refine j_istore_n (lv' := [(3, .int i10), (4, .int x25), (6, .int x21), (0, .ref a0), (1, .int p1), (2, .int i10), (5, .int i13)]) C dX7_stops_109 rfl rfl rfl ?_
          refine j_aload_n C dX7_stops_110 3 rfl rfl ?_
          refine j_iload C dX7_stops_111 2 rfl ?_
          refine j_iconst C (0 : Int32) dX7_stops_113 (by decide) ?_
          refine j_cIp (st := []) (fun x e => ⟨runsV C wml_X7_114 wce_X7_of (c_X7_of (bL B) (bD B) _ _ _ _ x e).1 rfl rfl rfl rfl rfl dX7_stops_114, (c_X7_of (bL B) (bD B) _ _ _ _ x e).2⟩) (fun x26 => ?_)
          refine j_istore_n (lv' := [(2, .int x26), (3, .int i10), (4, .int x25), (6, .int x21), (0, .ref a0), (1, .int p1), (5, .int i13)]) C dX7_stops_117 rfl rfl rfl ?_
          refine j_iinc (lv' := [(5, .int (i13 + (1 : Int32))), (2, .int x26), (3, .int i10), (4, .int x25), (6, .int x21), (0, .ref a0), (1, .int p1)]) C (1 : Int32) dX7_stops_118 6 rfl (by decide) rfl rfl ?_
          refine j_goto C 52 dX7_stops_121 (by decide) ?_
          refine J.sub (lv' := [(0, .ref a0), (1, .int p1), (2, .int x26), (3, .int i10), (4, .int x25), (5, .int (i13 + (1 : Int32)))]) [5, 6, 1, 2, 3, 0] rfl ?_
          exact hr14 x26 i10 x25 (i13 + (1 : Int32))
        · refine j_iload_n C dX7_stops_86 2 rfl rfl ?_
          refine J.jn1 97 (fun (w27 : Int32) => h) (fun (w27 : Int32) => []) (fun (w27 : Int32) => [.int w27]) (fun w27 => ?_) (fun k28 hk28 => ?_)
          · exact j_iretp C dX7_stops_97
          refine j_if_ne C 95 dX7_stops_87 (by decide) (fun c29 => ?_) (fun c29 => ?_)
          · refine j_iload C dX7_stops_95 5 rfl ?_
            refine J.sub (lv' := []) [] rfl ?_
            exact hk28 i12
          · refine j_iload C dX7_stops_90 6 rfl ?_
            refine j_goto C 97 dX7_stops_92 (by decide) ?_
            refine J.sub (lv' := []) [] rfl ?_
            exact hk28 i13
    · refine j_aload_n C dX7_stops_19 0 rfl rfl ?_
      refine j_cIp (st := []) (fun x e => ⟨runsV C wml_X7_141 wce_X7_bread (c_X7_bread (bL B) (bD B) _ _ x e).1 rfl rfl rfl rfl rfl dX7_stops_20, (c_X7_bread (bL B) (bD B) _ _ x e).2⟩) (fun x30 => ?_)
      exact j_iretp C dX7_stops_23
  · refine j_iconst C (-1 : Int32) dX7_stops_12 (by decide) ?_
    exact j_iretp C dX7_stops_13
def f_X7_isPair (a0 : Nat) (p1 : Int32) (p2 : Int32) (h : Hp) : Option (Int32 × Hp) :=
  bnd (gO h a0 7) fun _ => jn0 (rZ (0 : Int32) h) fun k1 => if p1 = p2 then k1 else (bnd (f_X7_hasMany a0 p1 h) fun x3 => if x3 = 0 then k1 else (bnd (f_X7_hasMany a0 p2 h) fun x5 => if x5 = 0 then k1 else (wl2 (fun r9 (i7 : Int32) (h8 : Hp) => if (5 : Int32) ≤ i7 then (wl2 (fun r13 (i11 : Int32) (h12 : Hp) => bnd (gR h12 a0 7 6) fun a14 => bnd (ldI 0 h12 a14 (50 : Int32)) fun x15 => if x15 ≤ i11 then (bnd2 (f_X7_mostOf a0 h12) fun x17 h18 => bnd (f_X7_hasMany a0 p1 h18) fun x19 => bnd (f_X7_hasMany a0 p2 h18) fun x20 => jn1 (fun (w21 : Int32) => rZ w21 h18) fun k22 => if x17 = (x19 + x20) then (k22 (1 : Int32)) else (k22 (0 : Int32))) else (bnd (gR h12 a0 7 17) fun a24 => bnd (f_X7_of a0 i11 (0 : Int32) h12) fun x25 => bnd (ldI 0 h12 a24 x25) fun x26 => bnd (f_X7_isWaiting a0 i11 h12) fun x27 => jn1 (fun (w28 : Int32) => bnd (stI 0 h12 a24 x25 (x26 + w28)) fun h30 => r13 (i11 + (1 : Int32)) h30) fun k29 => jn0 (k29 (0 : Int32)) fun k31 => if x27 = 0 then k31 else (bnd (f_X7_of a0 i11 (2 : Int32) h12) fun x33 => jn0 (k29 (1 : Int32)) fun k34 => if x33 = p1 then k34 else (bnd (f_X7_of a0 i11 (2 : Int32) h12) fun x36 => if x36 = p2 then k34 else k31)))) fuel (0 : Int32) h8) else (bnd (gR h8 a0 7 17) fun a38 => bnd (stI 0 h8 a38 i7 (0 : Int32)) fun h39 => r9 (i7 + (1 : Int32)) h39)) fuel (0 : Int32) h)))
set_option maxHeartbeats 4000000 in
set_option maxRecDepth 100000 in
theorem c_X7_isPair (l : Launch) (D : hD) (a0 : Nat) (p1 : Int32) (p2 : Int32) (h : Hp) (x : (Int32 × Hp)) (e : f_X7_isPair a0 p1 p2 h = some x) : (∃ fs, gO h a0 7 = some fs) ∧ Ct l D yX7_isPair cX7_isPair 4 (some .boolean) 3 66 [.ref a0, .int p1, .int p2] h (some (.int x.1)) x.2 := by
  obtain ⟨fs, g1, g2⟩ := bnd_some e
  refine ⟨⟨fs, g1⟩, ?_⟩
  refine ct_of (out := oI) g2 (by decide +kernel) rfl (fun B C hin hl hd => ?_)
  subst hl; subst hd
  show J B _ _ h 0 [(0, .ref a0), (1, .int p1), (2, .int p2)] []
  refine j_iload_n C dX7_isPair_0 1 rfl rfl ?_
  refine j_iload_n C dX7_isPair_1 2 rfl rfl ?_
  refine J.jn0 (h0 := h) (lv0 := []) (st0 := []) 21 ?_ (fun k1 hk1 => ?_)
  · refine j_iconst C (0 : Int32) dX7_isPair_21 (by decide) ?_
    exact j_zret C dX7_isPair_22
  refine j_icmp_eq C 21 dX7_isPair_2 (by decide) (fun c2 => ?_) (fun c2 => ?_)
  · refine J.sub (lv' := []) [] rfl ?_
    exact hk1
  · refine j_aload_n C dX7_isPair_5 0 rfl rfl ?_
    refine j_iload_n C dX7_isPair_6 1 rfl rfl ?_
    refine j_cIp (st := []) (fun x e => ⟨runsV C wml_X7_184 wce_X7_hasMany (c_X7_hasMany (bL B) (bD B) _ _ _ x e).1 rfl rfl rfl rfl rfl dX7_isPair_7, (c_X7_hasMany (bL B) (bD B) _ _ _ x e).2⟩) (fun x3 => ?_)
    refine j_if_eq C 21 dX7_isPair_10 (by decide) (fun c4 => ?_) (fun c4 => ?_)
    · refine J.sub (lv' := []) [] rfl ?_
      exact hk1
    · refine j_aload_n C dX7_isPair_13 0 rfl rfl ?_
      refine j_iload_n C dX7_isPair_14 2 rfl rfl ?_
      refine j_cIp (st := []) (fun x e => ⟨runsV C wml_X7_184 wce_X7_hasMany (c_X7_hasMany (bL B) (bD B) _ _ _ x e).1 rfl rfl rfl rfl rfl dX7_isPair_15, (c_X7_hasMany (bL B) (bD B) _ _ _ x e).2⟩) (fun x5 => ?_)
      refine j_if_ne C 23 dX7_isPair_18 (by decide) (fun c6 => ?_) (fun c6 => ?_)
      · refine j_iconst C (0 : Int32) dX7_isPair_23 (by decide) ?_
        refine j_istore_n (lv' := [(3, .int (0 : Int32)), (0, .ref a0), (1, .int p1), (2, .int p2)]) C dX7_isPair_24 rfl rfl rfl ?_
        refine J.sub (lv' := [(0, .ref a0), (1, .int p1), (2, .int p2), (3, .int (0 : Int32))]) [1, 2, 3, 0] rfl ?_
        refine J.wl2 25 (fun (i7 : Int32) (h8 : Hp) => h8) (fun (i7 : Int32) (h8 : Hp) => [(0, .ref a0), (1, .int p1), (2, .int p2), (3, .int i7)]) (fun (i7 : Int32) (h8 : Hp) => []) (fun r9 hr9 i7 h8 => ?_) fuel (0 : Int32) h
        refine j_iload_n C dX7_isPair_25 3 rfl rfl ?_
        refine j_iconst C (5 : Int32) dX7_isPair_26 (by decide) ?_
        refine j_icmp_ge C 43 dX7_isPair_27 (by decide) (fun c10 => ?_) (fun c10 => ?_)
        · refine j_iconst C (0 : Int32) dX7_isPair_43 (by decide) ?_
          refine j_istore_n (lv' := [(3, .int (0 : Int32)), (0, .ref a0), (1, .int p1), (2, .int p2)]) C dX7_isPair_44 rfl rfl rfl ?_
          refine J.sub (lv' := [(0, .ref a0), (1, .int p1), (2, .int p2), (3, .int (0 : Int32))]) [1, 2, 3, 0] rfl ?_
          refine J.wl2 45 (fun (i11 : Int32) (h12 : Hp) => h12) (fun (i11 : Int32) (h12 : Hp) => [(0, .ref a0), (1, .int p1), (2, .int p2), (3, .int i11)]) (fun (i11 : Int32) (h12 : Hp) => []) (fun r13 hr13 i11 h12 => ?_) fuel (0 : Int32) h8
          refine j_iload_n C dX7_isPair_45 3 rfl rfl ?_
          refine j_aload_n C dX7_isPair_46 0 rfl rfl ?_
          refine j_getR C wfl_X7_23 dX7_isPair_47 (fun a14 => ?_)
          refine j_bipush C (50 : Int32) dX7_isPair_50 (by decide) ?_
          refine j_iaload C dX7_isPair_52 (fun x15 => ?_)
          refine j_icmp_ge C 109 dX7_isPair_53 (by decide) (fun c16 => ?_) (fun c16 => ?_)
          · refine j_aload_n C dX7_isPair_109 0 rfl rfl ?_
            refine j_cI (st := []) (fun x e => ⟨runsV C wml_X7_159 wce_X7_mostOf (c_X7_mostOf (bL B) (bD B) _ _ x e).1 rfl rfl rfl rfl rfl dX7_isPair_110, (c_X7_mostOf (bL B) (bD B) _ _ x e).2⟩) (fun x17 h18 => ?_)
            refine j_aload_n C dX7_isPair_113 0 rfl rfl ?_
            refine j_iload_n C dX7_isPair_114 1 rfl rfl ?_
            refine j_cIp (st := [.int x17]) (fun x e => ⟨runsV C wml_X7_184 wce_X7_hasMany (c_X7_hasMany (bL B) (bD B) _ _ _ x e).1 rfl rfl rfl rfl rfl dX7_isPair_115, (c_X7_hasMany (bL B) (bD B) _ _ _ x e).2⟩) (fun x19 => ?_)
            refine j_aload_n C dX7_isPair_118 0 rfl rfl ?_
            refine j_iload_n C dX7_isPair_119 2 rfl rfl ?_
            refine j_cIp (st := [.int x19, .int x17]) (fun x e => ⟨runsV C wml_X7_184 wce_X7_hasMany (c_X7_hasMany (bL B) (bD B) _ _ _ x e).1 rfl rfl rfl rfl rfl dX7_isPair_120, (c_X7_hasMany (bL B) (bD B) _ _ _ x e).2⟩) (fun x20 => ?_)
            refine j_iadd C dX7_isPair_123 ?_
            refine J.jn1 132 (fun (w21 : Int32) => h18) (fun (w21 : Int32) => []) (fun (w21 : Int32) => [.int w21]) (fun w21 => ?_) (fun k22 hk22 => ?_)
            · exact j_zret C dX7_isPair_132
            refine j_icmp_ne C 131 dX7_isPair_124 (by decide) (fun c23 => ?_) (fun c23 => ?_)
            · refine j_iconst C (0 : Int32) dX7_isPair_131 (by decide) ?_
              refine J.sub (lv' := []) [] rfl ?_
              exact hk22 (0 : Int32)
            · refine j_iconst C (1 : Int32) dX7_isPair_127 (by decide) ?_
              refine j_goto C 132 dX7_isPair_128 (by decide) ?_
              refine J.sub (lv' := []) [] rfl ?_
              exact hk22 (1 : Int32)
          · refine j_aload_n C dX7_isPair_56 0 rfl rfl ?_
            refine j_getR C wfl_X7_45 dX7_isPair_57 (fun a24 => ?_)
            refine j_aload_n C dX7_isPair_60 0 rfl rfl ?_
            refine j_iload_n C dX7_isPair_61 3 rfl rfl ?_
            refine j_iconst C (0 : Int32) dX7_isPair_62 (by decide) ?_
            refine j_cIp (st := [.ref a24]) (fun x e => ⟨runsV C wml_X7_114 wce_X7_of (c_X7_of (bL B) (bD B) _ _ _ _ x e).1 rfl rfl rfl rfl rfl dX7_isPair_63, (c_X7_of (bL B) (bD B) _ _ _ _ x e).2⟩) (fun x25 => ?_)
            refine j_dup2 C dX7_isPair_66 rfl rfl ?_
            refine j_iaload C dX7_isPair_67 (fun x26 => ?_)
            refine j_aload_n C dX7_isPair_68 0 rfl rfl ?_
            refine j_iload_n C dX7_isPair_69 3 rfl rfl ?_
            refine j_cIp (st := [.int x26, .int x25, .ref a24]) (fun x e => ⟨runsV C wml_X7_125 wce_X7_isWaiting (c_X7_isWaiting (bL B) (bD B) _ _ _ x e).1 rfl rfl rfl rfl rfl dX7_isPair_70, (c_X7_isWaiting (bL B) (bD B) _ _ _ x e).2⟩) (fun x27 => ?_)
            refine J.jn1 101 (fun (w28 : Int32) => h12) (fun (w28 : Int32) => [(0, .ref a0), (1, .int p1), (2, .int p2), (3, .int i11)]) (fun (w28 : Int32) => [.int w28, .int x26, .int x25, .ref a24]) (fun w28 => ?_) (fun k29 hk29 => ?_)
            · refine j_iadd C dX7_isPair_101 ?_
              refine j_iastore C dX7_isPair_102 (fun h30 => ?_)
              refine j_iinc (lv' := [(3, .int (i11 + (1 : Int32))), (0, .ref a0), (1, .int p1), (2, .int p2)]) C (1 : Int32) dX7_isPair_103 3 rfl (by decide) rfl rfl ?_
              refine j_goto C 45 dX7_isPair_106 (by decide) ?_
              refine J.sub (lv' := [(0, .ref a0), (1, .int p1), (2, .int p2), (3, .int (i11 + (1 : Int32)))]) [1, 2, 3, 0] rfl ?_
              exact hr13 (i11 + (1 : Int32)) h30
            refine J.jn0 (h0 := h12) (lv0 := [(0, .ref a0), (1, .int p1), (2, .int p2), (3, .int i11)]) (st0 := [.int x26, .int x25, .ref a24]) 100 ?_ (fun k31 hk31 => ?_)
            · refine j_iconst C (0 : Int32) dX7_isPair_100 (by decide) ?_
              exact hk29 (0 : Int32)
            refine j_if_eq C 100 dX7_isPair_73 (by decide) (fun c32 => ?_) (fun c32 => ?_)
            · exact hk31
            · refine j_aload_n C dX7_isPair_76 0 rfl rfl ?_
              refine j_iload_n C dX7_isPair_77 3 rfl rfl ?_
              refine j_iconst C (2 : Int32) dX7_isPair_78 (by decide) ?_
              refine j_cIp (st := [.int x26, .int x25, .ref a24]) (fun x e => ⟨runsV C wml_X7_114 wce_X7_of (c_X7_of (bL B) (bD B) _ _ _ _ x e).1 rfl rfl rfl rfl rfl dX7_isPair_79, (c_X7_of (bL B) (bD B) _ _ _ _ x e).2⟩) (fun x33 => ?_)
              refine j_iload_n C dX7_isPair_82 1 rfl rfl ?_
              refine J.jn0 (h0 := h12) (lv0 := [(0, .ref a0), (1, .int p1), (2, .int p2), (3, .int i11)]) (st0 := [.int x26, .int x25, .ref a24]) 96 ?_ (fun k34 hk34 => ?_)
              · refine j_iconst C (1 : Int32) dX7_isPair_96 (by decide) ?_
                refine j_goto C 101 dX7_isPair_97 (by decide) ?_
                exact hk29 (1 : Int32)
              refine j_icmp_eq C 96 dX7_isPair_83 (by decide) (fun c35 => ?_) (fun c35 => ?_)
              · exact hk34
              · refine j_aload_n C dX7_isPair_86 0 rfl rfl ?_
                refine j_iload_n C dX7_isPair_87 3 rfl rfl ?_
                refine j_iconst C (2 : Int32) dX7_isPair_88 (by decide) ?_
                refine j_cIp (st := [.int x26, .int x25, .ref a24]) (fun x e => ⟨runsV C wml_X7_114 wce_X7_of (c_X7_of (bL B) (bD B) _ _ _ _ x e).1 rfl rfl rfl rfl rfl dX7_isPair_89, (c_X7_of (bL B) (bD B) _ _ _ _ x e).2⟩) (fun x36 => ?_)
                refine j_iload_n C dX7_isPair_92 2 rfl rfl ?_
                refine j_icmp_ne C 100 dX7_isPair_93 (by decide) (fun c37 => ?_) (fun c37 => ?_)
                · exact hk31
                · exact hk34
        · refine j_aload_n C dX7_isPair_30 0 rfl rfl ?_
          refine j_getR C wfl_X7_45 dX7_isPair_31 (fun a38 => ?_)
          refine j_iload_n C dX7_isPair_34 3 rfl rfl ?_
          refine j_iconst C (0 : Int32) dX7_isPair_35 (by decide) ?_
          refine j_iastore C dX7_isPair_36 (fun h39 => ?_)
          refine j_iinc (lv' := [(3, .int (i7 + (1 : Int32))), (0, .ref a0), (1, .int p1), (2, .int p2)]) C (1 : Int32) dX7_isPair_37 3 rfl (by decide) rfl rfl ?_
          refine j_goto C 25 dX7_isPair_40 (by decide) ?_
          refine J.sub (lv' := [(0, .ref a0), (1, .int p1), (2, .int p2), (3, .int (i7 + (1 : Int32)))]) [1, 2, 3, 0] rfl ?_
          exact hr9 (i7 + (1 : Int32)) h39
      · refine J.sub (lv' := []) [] rfl ?_
        exact hk1
def f_X7_paired (a0 : Nat) (p1 : Int32) (p2 : Int32) (h : Hp) : Option (Int32 × Hp) :=
  bnd (gO h a0 7) fun _ => wl3 (fun r4 (i1 : Int32) (i2 : Int32) (h3 : Hp) => if i2 < 0 then (wl2 (fun r8 (i6 : Int32) (i7 : Int32) => if (5 : Int32) ≤ i7 then (if (2 : Int32) = 0 then none else some ((i6 / (2 : Int32)), h3)) else (bnd (gR h3 a0 7 18) fun a10 => bnd (ldI 0 h3 a10 i7) fun x11 => jn1 (fun (z12 : Int32) => r8 z12 (i7 + (1 : Int32))) fun k13 => if (5 : Int32) ≤ x11 then (k13 i6) else (bnd (gR h3 a0 7 18) fun a15 => bnd (gR h3 a0 7 18) fun a16 => bnd (ldI 0 h3 a16 i7) fun x17 => bnd (ldI 0 h3 a15 x17) fun x18 => jn0 (some ((-1 : Int32), h3)) fun k19 => if x18 = i7 then (bnd (gR h3 a0 7 18) fun a21 => bnd (ldI 0 h3 a21 i7) fun x22 => if ((p2 >>> ((((5 : Int32) * i7) + x22) &&& 31)) &&& (1 : Int32)) = 0 then k19 else (k13 (i6 + (1 : Int32)))) else k19))) fuel (0 : Int32) (0 : Int32)) else (bnd (gR h3 a0 7 18) fun a24 => if (6 : Int32) = 0 then none else bnd (stI 0 h3 a24 i2 (i1 - i1 / (6 : Int32) * (6 : Int32))) fun h25 => if (6 : Int32) = 0 then none else nm (i1 / (6 : Int32)) fun v26 => r4 v26 (i2 + (-1 : Int32)) h25)) fuel p1 (4 : Int32) h
set_option maxHeartbeats 4000000 in
set_option maxRecDepth 100000 in
theorem c_X7_paired (l : Launch) (D : hD) (a0 : Nat) (p1 : Int32) (p2 : Int32) (h : Hp) (x : (Int32 × Hp)) (e : f_X7_paired a0 p1 p2 h = some x) : (∃ fs, gO h a0 7 = some fs) ∧ Ct l D yX7_paired cX7_paired 6 (some .int) 0 0 [.ref a0, .int p1, .int p2] h (some (.int x.1)) x.2 := by
  obtain ⟨fs, g1, g2⟩ := bnd_some e
  refine ⟨⟨fs, g1⟩, ?_⟩
  refine ct_of (out := oI) g2 (by decide +kernel) rfl (fun B C hin hl hd => ?_)
  subst hl; subst hd
  show J B _ _ h 0 [(0, .ref a0), (1, .int p1), (2, .int p2)] []
  refine j_iload_n C dX7_paired_0 1 rfl rfl ?_
  refine j_istore_n (lv' := [(3, .int p1), (0, .ref a0), (1, .int p1), (2, .int p2)]) C dX7_paired_1 rfl rfl rfl ?_
  refine j_iconst C (4 : Int32) dX7_paired_2 (by decide) ?_
  refine j_istore (lv' := [(4, .int (4 : Int32)), (3, .int p1), (0, .ref a0), (1, .int p1), (2, .int p2)]) C dX7_paired_3 rfl rfl ?_
  refine J.sub (lv' := [(0, .ref a0), (2, .int p2), (3, .int p1), (4, .int (4 : Int32))]) [2, 4, 1, 0] rfl ?_
  refine J.wl3 5 (fun (i1 : Int32) (i2 : Int32) (h3 : Hp) => h3) (fun (i1 : Int32) (i2 : Int32) (h3 : Hp) => [(0, .ref a0), (2, .int p2), (3, .int i1), (4, .int i2)]) (fun (i1 : Int32) (i2 : Int32) (h3 : Hp) => []) (fun r4 hr4 i1 i2 h3 => ?_) fuel p1 (4 : Int32) h
  refine j_iload C dX7_paired_5 3 rfl ?_
  refine j_if_lt C 32 dX7_paired_7 (by decide) (fun c5 => ?_) (fun c5 => ?_)
  · refine j_iconst C (0 : Int32) dX7_paired_32 (by decide) ?_
    refine j_istore (lv' := [(4, .int (0 : Int32)), (0, .ref a0), (2, .int p2), (3, .int i1)]) C dX7_paired_33 rfl rfl ?_
    refine j_iconst C (0 : Int32) dX7_paired_35 (by decide) ?_
    refine j_istore (lv' := [(5, .int (0 : Int32)), (4, .int (0 : Int32)), (0, .ref a0), (2, .int p2), (3, .int i1)]) C dX7_paired_36 rfl rfl ?_
    refine J.sub (lv' := [(0, .ref a0), (2, .int p2), (4, .int (0 : Int32)), (5, .int (0 : Int32))]) [2, 3, 1, 0] rfl ?_
    refine J.wl2 38 (fun (i6 : Int32) (i7 : Int32) => h3) (fun (i6 : Int32) (i7 : Int32) => [(0, .ref a0), (2, .int p2), (4, .int i6), (5, .int i7)]) (fun (i6 : Int32) (i7 : Int32) => []) (fun r8 hr8 i6 i7 => ?_) fuel (0 : Int32) (0 : Int32)
    refine j_iload C dX7_paired_38 3 rfl ?_
    refine j_iconst C (5 : Int32) dX7_paired_40 (by decide) ?_
    refine j_icmp_ge C 102 dX7_paired_41 (by decide) (fun c9 => ?_) (fun c9 => ?_)
    · refine j_iload C dX7_paired_102 2 rfl ?_
      refine j_iconst C (2 : Int32) dX7_paired_104 (by decide) ?_
      refine j_idiv C dX7_paired_105 ?_
      exact j_iret C dX7_paired_106
    · refine j_aload_n C dX7_paired_44 0 rfl rfl ?_
      refine j_getR C wfl_X7_48 dX7_paired_45 (fun a10 => ?_)
      refine j_iload C dX7_paired_48 3 rfl ?_
      refine j_iaload C dX7_paired_50 (fun x11 => ?_)
      refine j_iconst C (5 : Int32) dX7_paired_51 (by decide) ?_
      refine J.jn1 96 (fun (z12 : Int32) => h3) (fun (z12 : Int32) => [(0, .ref a0), (2, .int p2), (4, .int z12), (5, .int i7)]) (fun (z12 : Int32) => []) (fun z12 => ?_) (fun k13 hk13 => ?_)
      · refine j_iinc (lv' := [(5, .int (i7 + (1 : Int32))), (0, .ref a0), (2, .int p2), (4, .int z12)]) C (1 : Int32) dX7_paired_96 3 rfl (by decide) rfl rfl ?_
        refine j_goto C 38 dX7_paired_99 (by decide) ?_
        refine J.sub (lv' := [(0, .ref a0), (2, .int p2), (4, .int z12), (5, .int (i7 + (1 : Int32)))]) [1, 2, 3, 0] rfl ?_
        exact hr8 z12 (i7 + (1 : Int32))
      refine j_icmp_ge C 96 dX7_paired_52 (by decide) (fun c14 => ?_) (fun c14 => ?_)
      · exact hk13 i6
      · refine j_aload_n C dX7_paired_55 0 rfl rfl ?_
        refine j_getR C wfl_X7_48 dX7_paired_56 (fun a15 => ?_)
        refine j_aload_n C dX7_paired_59 0 rfl rfl ?_
        refine j_getR C wfl_X7_48 dX7_paired_60 (fun a16 => ?_)
        refine j_iload C dX7_paired_63 3 rfl ?_
        refine j_iaload C dX7_paired_65 (fun x17 => ?_)
        refine j_iaload C dX7_paired_66 (fun x18 => ?_)
        refine j_iload C dX7_paired_67 3 rfl ?_
        refine J.jn0 (h0 := h3) (lv0 := []) (st0 := []) 91 ?_ (fun k19 hk19 => ?_)
        · refine j_iconst C (-1 : Int32) dX7_paired_91 (by decide) ?_
          exact j_iret C dX7_paired_92
        refine j_icmp_ne C 91 dX7_paired_69 (by decide) (fun c20 => ?_) (fun c20 => ?_)
        · refine J.sub (lv' := []) [] rfl ?_
          exact hk19
        · refine j_iload_n C dX7_paired_72 1 rfl rfl ?_
          refine j_iconst C (5 : Int32) dX7_paired_73 (by decide) ?_
          refine j_iload C dX7_paired_74 3 rfl ?_
          refine j_imul C dX7_paired_76 ?_
          refine j_aload_n C dX7_paired_77 0 rfl rfl ?_
          refine j_getR C wfl_X7_48 dX7_paired_78 (fun a21 => ?_)
          refine j_iload C dX7_paired_81 3 rfl ?_
          refine j_iaload C dX7_paired_83 (fun x22 => ?_)
          refine j_iadd C dX7_paired_84 ?_
          refine j_ishr C dX7_paired_85 ?_
          refine j_iconst C (1 : Int32) dX7_paired_86 (by decide) ?_
          refine j_iand C dX7_paired_87 ?_
          refine j_if_ne C 93 dX7_paired_88 (by decide) (fun c23 => ?_) (fun c23 => ?_)
          · refine j_iinc (lv' := [(4, .int (i6 + (1 : Int32))), (0, .ref a0), (2, .int p2), (5, .int i7)]) C (1 : Int32) dX7_paired_93 2 rfl (by decide) rfl rfl ?_
            refine J.sub (lv' := [(0, .ref a0), (2, .int p2), (4, .int (i6 + (1 : Int32))), (5, .int i7)]) [1, 2, 0, 3] rfl ?_
            exact hk13 (i6 + (1 : Int32))
          · refine J.sub (lv' := []) [] rfl ?_
            exact hk19
  · refine j_aload_n C dX7_paired_10 0 rfl rfl ?_
    refine j_getR C wfl_X7_48 dX7_paired_11 (fun a24 => ?_)
    refine j_iload C dX7_paired_14 3 rfl ?_
    refine j_iload_n C dX7_paired_16 2 rfl rfl ?_
    refine j_bipush C (6 : Int32) dX7_paired_17 (by decide) ?_
    refine j_irem C dX7_paired_19 ?_
    refine j_iastore C dX7_paired_20 (fun h25 => ?_)
    refine j_iload_n C dX7_paired_21 2 rfl rfl ?_
    refine j_bipush C (6 : Int32) dX7_paired_22 (by decide) ?_
    refine j_idiv C dX7_paired_24 ?_
    refine j_nmI (fun v26 => ?_)
    refine j_istore_n (lv' := [(3, .int v26), (0, .ref a0), (2, .int p2), (4, .int i2)]) C dX7_paired_25 rfl rfl rfl ?_
    refine j_iinc (lv' := [(4, .int (i2 + (-1 : Int32))), (3, .int v26), (0, .ref a0), (2, .int p2)]) C (-1 : Int32) dX7_paired_26 3 rfl (by decide) rfl rfl ?_
    refine j_goto C 5 dX7_paired_29 (by decide) ?_
    refine J.sub (lv' := [(0, .ref a0), (2, .int p2), (3, .int v26), (4, .int (i2 + (-1 : Int32)))]) [2, 3, 1, 0] rfl ?_
    exact hr4 v26 (i2 + (-1 : Int32)) h25
def f_X7_together (a0 : Nat) (p1 : Int32) (h : Hp) : Option (Int32 × Hp) :=
  bnd (gO h a0 7) fun _ => bnd (f_X7_in p1.toInt64 (-1 : Int64) (4 : Int64)) fun x1 => if x1 = 0 then (some ((-1 : Int32), h)) else (wl3 (fun r6 (i3 : Int32) (i4 : Int32) (h5 : Hp) => if (5 : Int32) ≤ i4 then (wl3 (fun r11 (i8 : Int32) (i9 : Int32) (h10 : Hp) => if (7776 : Int32) ≤ i9 then (jn1 (fun (w13 : Int32) => some (w13, h10)) fun k14 => if 0 ≤ p1 then (bnd (gR h10 a0 7 19) fun a16 => bnd (ldI 0 h10 a16 p1) fun x17 => if x17 = (5 : Int32) then (k14 (-4 : Int32)) else (bnd (gR h10 a0 7 19) fun a19 => bnd (ldI 0 h10 a19 p1) fun x20 => k14 x20)) else (k14 i8)) else (bnd2 (f_X7_paired a0 i9 i3 h10) fun x21 h22 => jn2 (fun (z23 : Int32) (h24 : Hp) => r11 z23 (i9 + (1 : Int32)) h24) fun k25 => if x21 ≤ i8 then (k25 i8 h22) else (wl2 (fun r29 (i27 : Int32) (h28 : Hp) => if (5 : Int32) ≤ i27 then (k25 x21 h28) else (bnd (gR h28 a0 7 19) fun a31 => bnd (gR h28 a0 7 18) fun a32 => bnd (ldI 0 h28 a32 i27) fun x33 => bnd (stI 0 h28 a31 i27 x33) fun h34 => r29 (i27 + (1 : Int32)) h34)) fuel (0 : Int32) h22))) fuel (-1 : Int32) (0 : Int32) h5) else (wl3 (fun r38 (i35 : Int32) (i36 : Int32) (h37 : Hp) => if i4 ≤ i36 then (r6 i35 (i4 + (1 : Int32)) h37) else (bnd2 (f_X7_isPair a0 i4 i36 h37) fun x40 h41 => jn1 (fun (w42 : Int32) => nm (i35 ||| w42) fun v44 => r38 v44 (i36 + (1 : Int32)) h41) fun k43 => if x40 = 0 then (k43 (0 : Int32)) else (k43 (((1 : Int32) <<< ((((5 : Int32) * i4) + i36) &&& 31)) ||| ((1 : Int32) <<< ((((5 : Int32) * i36) + i4) &&& 31)))))) fuel i3 (0 : Int32) h5)) fuel (0 : Int32) (0 : Int32) h)
set_option maxHeartbeats 4000000 in
set_option maxRecDepth 100000 in
theorem c_X7_together (l : Launch) (D : hD) (a0 : Nat) (p1 : Int32) (h : Hp) (x : (Int32 × Hp)) (e : f_X7_together a0 p1 h = some x) : (∃ fs, gO h a0 7 = some fs) ∧ Ct l D yX7_together cX7_together 7 (some .int) 4 89 [.ref a0, .int p1] h (some (.int x.1)) x.2 := by
  obtain ⟨fs, g1, g2⟩ := bnd_some e
  refine ⟨⟨fs, g1⟩, ?_⟩
  refine ct_of (out := oI) g2 (by decide +kernel) rfl (fun B C hin hl hd => ?_)
  subst hl; subst hd
  show J B _ _ h 0 [(0, .ref a0), (1, .int p1)] []
  refine j_iload_n C dX7_together_0 1 rfl rfl ?_
  refine j_i2l C dX7_together_1 ?_
  refine j_ldc2_w C dX7_together_2 wcl_X7_187 ?_
  refine j_ldc2_w C dX7_together_5 wcl_X7_94 ?_
  refine j_cIp (st := []) (fun x e => ⟨runsS C wml_X7_69 wce_X7_in rfl rfl rfl rfl rfl dX7_together_8, c_X7_in (bL B) (bD B) _ _ _ _ x e⟩) (fun x1 => ?_)
  refine j_if_ne C 16 dX7_together_11 (by decide) (fun c2 => ?_) (fun c2 => ?_)
  · refine j_iconst C (0 : Int32) dX7_together_16 (by decide) ?_
    refine j_istore_n (lv' := [(2, .int (0 : Int32)), (0, .ref a0), (1, .int p1)]) C dX7_together_17 rfl rfl rfl ?_
    refine j_iconst C (0 : Int32) dX7_together_18 (by decide) ?_
    refine j_istore_n (lv' := [(3, .int (0 : Int32)), (2, .int (0 : Int32)), (0, .ref a0), (1, .int p1)]) C dX7_together_19 rfl rfl rfl ?_
    refine J.sub (lv' := [(0, .ref a0), (1, .int p1), (2, .int (0 : Int32)), (3, .int (0 : Int32))]) [2, 3, 1, 0] rfl ?_
    refine J.wl3 20 (fun (i3 : Int32) (i4 : Int32) (h5 : Hp) => h5) (fun (i3 : Int32) (i4 : Int32) (h5 : Hp) => [(0, .ref a0), (1, .int p1), (2, .int i3), (3, .int i4)]) (fun (i3 : Int32) (i4 : Int32) (h5 : Hp) => []) (fun r6 hr6 i3 i4 h5 => ?_) fuel (0 : Int32) (0 : Int32) h
    refine j_iload_n C dX7_together_20 3 rfl rfl ?_
    refine j_iconst C (5 : Int32) dX7_together_21 (by decide) ?_
    refine j_icmp_ge C 80 dX7_together_22 (by decide) (fun c7 => ?_) (fun c7 => ?_)
    · refine j_iconst C (-1 : Int32) dX7_together_80 (by decide) ?_
      refine j_istore_n (lv' := [(3, .int (-1 : Int32)), (0, .ref a0), (1, .int p1), (2, .int i3)]) C dX7_together_81 rfl rfl rfl ?_
      refine j_iconst C (0 : Int32) dX7_together_82 (by decide) ?_
      refine j_istore (lv' := [(4, .int (0 : Int32)), (3, .int (-1 : Int32)), (0, .ref a0), (1, .int p1), (2, .int i3)]) C dX7_together_83 rfl rfl ?_
      refine J.sub (lv' := [(0, .ref a0), (1, .int p1), (2, .int i3), (3, .int (-1 : Int32)), (4, .int (0 : Int32))]) [2, 3, 4, 1, 0] rfl ?_
      refine J.wl3 85 (fun (i8 : Int32) (i9 : Int32) (h10 : Hp) => h10) (fun (i8 : Int32) (i9 : Int32) (h10 : Hp) => [(0, .ref a0), (1, .int p1), (2, .int i3), (3, .int i8), (4, .int i9)]) (fun (i8 : Int32) (i9 : Int32) (h10 : Hp) => []) (fun r11 hr11 i8 i9 h10 => ?_) fuel (-1 : Int32) (0 : Int32) h5
      refine j_iload C dX7_together_85 4 rfl ?_
      refine j_sipush C (7776 : Int32) dX7_together_87 (by decide) ?_
      refine j_icmp_ge C 146 dX7_together_90 (by decide) (fun c12 => ?_) (fun c12 => ?_)
      · refine j_iload_n C dX7_together_146 1 rfl rfl ?_
        refine J.jn1 175 (fun (w13 : Int32) => h10) (fun (w13 : Int32) => []) (fun (w13 : Int32) => [.int w13]) (fun w13 => ?_) (fun k14 hk14 => ?_)
        · exact j_iret C dX7_together_175
        refine j_if_ge C 154 dX7_together_147 (by decide) (fun c15 => ?_) (fun c15 => ?_)
        · refine j_aload_n C dX7_together_154 0 rfl rfl ?_
          refine j_getR C wfl_X7_51 dX7_together_155 (fun a16 => ?_)
          refine j_iload_n C dX7_together_158 1 rfl rfl ?_
          refine j_iaload C dX7_together_159 (fun x17 => ?_)
          refine j_iconst C (5 : Int32) dX7_together_160 (by decide) ?_
          refine j_icmp_ne C 169 dX7_together_161 (by decide) (fun c18 => ?_) (fun c18 => ?_)
          · refine j_aload_n C dX7_together_169 0 rfl rfl ?_
            refine j_getR C wfl_X7_51 dX7_together_170 (fun a19 => ?_)
            refine j_iload_n C dX7_together_173 1 rfl rfl ?_
            refine j_iaload C dX7_together_174 (fun x20 => ?_)
            refine J.sub (lv' := []) [] rfl ?_
            exact hk14 x20
          · refine j_bipush C (-4 : Int32) dX7_together_164 (by decide) ?_
            refine j_goto C 175 dX7_together_166 (by decide) ?_
            refine J.sub (lv' := []) [] rfl ?_
            exact hk14 (-4 : Int32)
        · refine j_iload_n C dX7_together_150 3 rfl rfl ?_
          refine j_goto C 175 dX7_together_151 (by decide) ?_
          refine J.sub (lv' := []) [] rfl ?_
          exact hk14 i8
      · refine j_aload_n C dX7_together_93 0 rfl rfl ?_
        refine j_iload C dX7_together_94 4 rfl ?_
        refine j_iload_n C dX7_together_96 2 rfl rfl ?_
        refine j_cI (st := []) (fun x e => ⟨runsV C wml_X7_193 wce_X7_paired (c_X7_paired (bL B) (bD B) _ _ _ _ x e).1 rfl rfl rfl rfl rfl dX7_together_97, (c_X7_paired (bL B) (bD B) _ _ _ _ x e).2⟩) (fun x21 h22 => ?_)
        refine j_istore (lv' := [(5, .int x21), (0, .ref a0), (1, .int p1), (2, .int i3), (3, .int i8), (4, .int i9)]) C dX7_together_100 rfl rfl ?_
        refine j_iload C dX7_together_102 0 rfl ?_
        refine j_iload_n C dX7_together_104 4 rfl rfl ?_
        refine J.jn2 140 (fun (z23 : Int32) (h24 : Hp) => h24) (fun (z23 : Int32) (h24 : Hp) => [(0, .ref a0), (1, .int p1), (2, .int i3), (3, .int z23), (4, .int i9)]) (fun (z23 : Int32) (h24 : Hp) => []) (fun z23 h24 => ?_) (fun k25 hk25 => ?_)
        · refine j_iinc (lv' := [(4, .int (i9 + (1 : Int32))), (0, .ref a0), (1, .int p1), (2, .int i3), (3, .int z23)]) C (1 : Int32) dX7_together_140 4 rfl (by decide) rfl rfl ?_
          refine j_goto C 85 dX7_together_143 (by decide) ?_
          refine J.sub (lv' := [(0, .ref a0), (1, .int p1), (2, .int i3), (3, .int z23), (4, .int (i9 + (1 : Int32)))]) [1, 2, 3, 4, 0] rfl ?_
          exact hr11 z23 (i9 + (1 : Int32)) h24
        refine j_icmp_le C 140 dX7_together_105 (by decide) (fun c26 => ?_) (fun c26 => ?_)
        · refine J.sub (lv' := [(0, .ref a0), (1, .int p1), (2, .int i3), (3, .int i8), (4, .int i9)]) [1, 2, 3, 4, 5] rfl ?_
          exact hk25 i8 h22
        · refine j_iload C dX7_together_108 0 rfl ?_
          refine j_istore_n (lv' := [(3, .int x21), (5, .int x21), (0, .ref a0), (1, .int p1), (2, .int i3), (4, .int i9)]) C dX7_together_110 rfl rfl rfl ?_
          refine j_iconst C (0 : Int32) dX7_together_111 (by decide) ?_
          refine j_istore (lv' := [(6, .int (0 : Int32)), (3, .int x21), (5, .int x21), (0, .ref a0), (1, .int p1), (2, .int i3), (4, .int i9)]) C dX7_together_112 rfl rfl ?_
          refine J.sub (lv' := [(0, .ref a0), (1, .int p1), (2, .int i3), (3, .int x21), (4, .int i9), (6, .int (0 : Int32))]) [3, 4, 5, 1, 6, 0] rfl ?_
          refine J.wl2 114 (fun (i27 : Int32) (h28 : Hp) => h28) (fun (i27 : Int32) (h28 : Hp) => [(0, .ref a0), (1, .int p1), (2, .int i3), (3, .int x21), (4, .int i9), (6, .int i27)]) (fun (i27 : Int32) (h28 : Hp) => []) (fun r29 hr29 i27 h28 => ?_) fuel (0 : Int32) h22
          refine j_iload C dX7_together_114 5 rfl ?_
          refine j_iconst C (5 : Int32) dX7_together_116 (by decide) ?_
          refine j_icmp_ge C 140 dX7_together_117 (by decide) (fun c30 => ?_) (fun c30 => ?_)
          · refine J.sub (lv' := [(0, .ref a0), (1, .int p1), (2, .int i3), (3, .int x21), (4, .int i9)]) [0, 1, 2, 3, 4] rfl ?_
            exact hk25 x21 h28
          · refine j_aload_n C dX7_together_120 0 rfl rfl ?_
            refine j_getR C wfl_X7_51 dX7_together_121 (fun a31 => ?_)
            refine j_iload C dX7_together_124 5 rfl ?_
            refine j_aload_n C dX7_together_126 0 rfl rfl ?_
            refine j_getR C wfl_X7_48 dX7_together_127 (fun a32 => ?_)
            refine j_iload C dX7_together_130 5 rfl ?_
            refine j_iaload C dX7_together_132 (fun x33 => ?_)
            refine j_iastore C dX7_together_133 (fun h34 => ?_)
            refine j_iinc (lv' := [(6, .int (i27 + (1 : Int32))), (0, .ref a0), (1, .int p1), (2, .int i3), (3, .int x21), (4, .int i9)]) C (1 : Int32) dX7_together_134 5 rfl (by decide) rfl rfl ?_
            refine j_goto C 114 dX7_together_137 (by decide) ?_
            refine J.sub (lv' := [(0, .ref a0), (1, .int p1), (2, .int i3), (3, .int x21), (4, .int i9), (6, .int (i27 + (1 : Int32)))]) [1, 2, 3, 4, 5, 0] rfl ?_
            exact hr29 (i27 + (1 : Int32)) h34
    · refine j_iconst C (0 : Int32) dX7_together_25 (by decide) ?_
      refine j_istore (lv' := [(4, .int (0 : Int32)), (0, .ref a0), (1, .int p1), (2, .int i3), (3, .int i4)]) C dX7_together_26 rfl rfl ?_
      refine J.sub (lv' := [(0, .ref a0), (1, .int p1), (2, .int i3), (3, .int i4), (4, .int (0 : Int32))]) [1, 2, 3, 4, 0] rfl ?_
      refine J.wl3 28 (fun (i35 : Int32) (i36 : Int32) (h37 : Hp) => h37) (fun (i35 : Int32) (i36 : Int32) (h37 : Hp) => [(0, .ref a0), (1, .int p1), (2, .int i35), (3, .int i4), (4, .int i36)]) (fun (i35 : Int32) (i36 : Int32) (h37 : Hp) => []) (fun r38 hr38 i35 i36 h37 => ?_) fuel i3 (0 : Int32) h5
      refine j_iload C dX7_together_28 4 rfl ?_
      refine j_iload_n C dX7_together_30 3 rfl rfl ?_
      refine j_icmp_ge C 74 dX7_together_31 (by decide) (fun c39 => ?_) (fun c39 => ?_)
      · refine j_iinc (lv' := [(3, .int (i4 + (1 : Int32))), (0, .ref a0), (1, .int p1), (2, .int i35), (4, .int i36)]) C (1 : Int32) dX7_together_74 3 rfl (by decide) rfl rfl ?_
        refine j_goto C 20 dX7_together_77 (by decide) ?_
        refine J.sub (lv' := [(0, .ref a0), (1, .int p1), (2, .int i35), (3, .int (i4 + (1 : Int32)))]) [1, 2, 3, 0] rfl ?_
        exact hr6 i35 (i4 + (1 : Int32)) h37
      · refine j_iload_n C dX7_together_34 2 rfl rfl ?_
        refine j_aload_n C dX7_together_35 0 rfl rfl ?_
        refine j_iload_n C dX7_together_36 3 rfl rfl ?_
        refine j_iload C dX7_together_37 4 rfl ?_
        refine j_cI (st := [.int i35]) (fun x e => ⟨runsV C wml_X7_189 wce_X7_isPair (c_X7_isPair (bL B) (bD B) _ _ _ _ x e).1 rfl rfl rfl rfl rfl dX7_together_39, (c_X7_isPair (bL B) (bD B) _ _ _ _ x e).2⟩) (fun x40 h41 => ?_)
        refine J.jn1 66 (fun (w42 : Int32) => h41) (fun (w42 : Int32) => [(0, .ref a0), (1, .int p1), (3, .int i4), (4, .int i36)]) (fun (w42 : Int32) => [.int w42, .int i35]) (fun w42 => ?_) (fun k43 hk43 => ?_)
        · refine j_ior C dX7_together_66 ?_
          refine j_nmI (fun v44 => ?_)
          refine j_istore_n (lv' := [(2, .int v44), (0, .ref a0), (1, .int p1), (3, .int i4), (4, .int i36)]) C dX7_together_67 rfl rfl rfl ?_
          refine j_iinc (lv' := [(4, .int (i36 + (1 : Int32))), (2, .int v44), (0, .ref a0), (1, .int p1), (3, .int i4)]) C (1 : Int32) dX7_together_68 4 rfl (by decide) rfl rfl ?_
          refine j_goto C 28 dX7_together_71 (by decide) ?_
          refine J.sub (lv' := [(0, .ref a0), (1, .int p1), (2, .int v44), (3, .int i4), (4, .int (i36 + (1 : Int32)))]) [2, 3, 1, 4, 0] rfl ?_
          exact hr38 v44 (i36 + (1 : Int32)) h41
        refine j_if_eq C 65 dX7_together_42 (by decide) (fun c45 => ?_) (fun c45 => ?_)
        · refine j_iconst C (0 : Int32) dX7_together_65 (by decide) ?_
          refine J.sub (lv' := [(0, .ref a0), (1, .int p1), (3, .int i4), (4, .int i36)]) [0, 1, 3, 4] rfl ?_
          exact hk43 (0 : Int32)
        · refine j_iconst C (1 : Int32) dX7_together_45 (by decide) ?_
          refine j_iconst C (5 : Int32) dX7_together_46 (by decide) ?_
          refine j_iload_n C dX7_together_47 3 rfl rfl ?_
          refine j_imul C dX7_together_48 ?_
          refine j_iload C dX7_together_49 4 rfl ?_
          refine j_iadd C dX7_together_51 ?_
          refine j_ishl C dX7_together_52 ?_
          refine j_iconst C (1 : Int32) dX7_together_53 (by decide) ?_
          refine j_iconst C (5 : Int32) dX7_together_54 (by decide) ?_
          refine j_iload C dX7_together_55 4 rfl ?_
          refine j_imul C dX7_together_57 ?_
          refine j_iload_n C dX7_together_58 3 rfl rfl ?_
          refine j_iadd C dX7_together_59 ?_
          refine j_ishl C dX7_together_60 ?_
          refine j_ior C dX7_together_61 ?_
          refine j_goto C 66 dX7_together_62 (by decide) ?_
          refine J.sub (lv' := [(0, .ref a0), (1, .int p1), (3, .int i4), (4, .int i36)]) [0, 1, 3, 4] rfl ?_
          exact hk43 (((1 : Int32) <<< ((((5 : Int32) * i4) + i36) &&& 31)) ||| ((1 : Int32) <<< ((((5 : Int32) * i36) + i4) &&& 31)))
  · refine j_iconst C (-1 : Int32) dX7_together_14 (by decide) ?_
    exact j_iret C dX7_together_15
def f_X7_twoMills (a0 : Nat) (p1 : Int32) (h : Hp) : Option (Int32 × Hp) :=
  bnd (gO h a0 7) fun _ => bnd (f_X7_in p1.toInt64 (0 : Int64) (1 : Int64)) fun x1 => if x1 = 0 then (some ((-1 : Int32), h)) else (wl2 (fun r5 (i3 : Int32) (i4 : Int32) => bnd (gR h a0 7 6) fun a6 => bnd (ldI 0 h a6 (50 : Int32)) fun x7 => if x7 ≤ i4 then (bnd (gR h a0 7 6) fun a9 => bnd (ldI 0 h a9 (51 : Int32)) fun x10 => bnd (gR h a0 7 6) fun a11 => bnd (ldI 0 h a11 (52 : Int32)) fun x12 => bnd (gR h a0 7 6) fun a13 => bnd (ldI 0 h a13 (53 : Int32)) fun x14 => bnd (f_X7_earliest a0 x10 x12 x14 h) fun h15 => wl2 (fun r18 (i16 : Int32) (h17 : Hp) => bnd (gR h17 a0 7 6) fun a19 => bnd (ldI 0 h17 a19 (50 : Int32)) fun x20 => if ((1 : Int32) <<< (x20 &&& 31)) ≤ i16 then (bnd (f_X7_earliest a0 (0 : Int32) (5 : Int32) (5 : Int32) h17) fun h22 => wl2 (fun r25 (i23 : Int32) (h24 : Hp) => bnd (gR h24 a0 7 6) fun a26 => bnd (ldI 0 h24 a26 (50 : Int32)) fun x27 => if ((1 : Int32) <<< (x27 &&& 31)) ≤ i23 then (wl3 (fun r32 (i29 : Int32) (i30 : Int32) (i31 : Int32) => bnd (gR h24 a0 7 6) fun a33 => bnd (ldI 0 h24 a33 (50 : Int32)) fun x34 => if ((1 : Int32) <<< (x34 &&& 31)) ≤ i31 then (jn1 (fun (w36 : Int32) => some (w36, h24)) fun k37 => if i29 = (1000000 : Int32) then (k37 (-4 : Int32)) else (if p1 = 0 then (k37 i29) else (k37 i30))) else (jn2 (fun (z40 : Int32) (z41 : Int32) => r32 z40 z41 (i31 + (1 : Int32))) fun k42 => if (i31 &&& (i3 ^^^ (-1 : Int32))) = 0 then (bnd (gR h24 a0 7 13) fun a44 => bnd (ldI 0 h24 a44 i31) fun x45 => bnd (gR h24 a0 7 12) fun a46 => bnd (ldI 0 h24 a46 (i3 &&& (i31 ^^^ (-1 : Int32)))) fun x47 => jn1 (fun (w48 : Int32) => jn1 (fun (w50 : Int32) => jn1 (fun (w52 : Int32) => k42 w52 w50) fun k53 => if i29 ≤ w48 then (k53 i29) else (k53 w48)) fun k51 => if i29 ≤ w48 then (k51 i30) else (k51 i31)) fun k49 => if x45 ≤ x47 then (bnd (gR h24 a0 7 12) fun a57 => bnd (ldI 0 h24 a57 (i3 &&& (i31 ^^^ (-1 : Int32)))) fun x58 => k49 x58) else (bnd (gR h24 a0 7 13) fun a59 => bnd (ldI 0 h24 a59 i31) fun x60 => k49 x60)) else (k42 i29 i30))) fuel (1000000 : Int32) (0 : Int32) (0 : Int32)) else (bnd (gR h24 a0 7 12) fun a61 => bnd (f_X7_soonestOf a0 i23 h24) fun x62 => bnd (stI 0 h24 a61 i23 x62) fun h63 => r25 (i23 + (1 : Int32)) h63)) fuel (0 : Int32) h22) else (bnd (gR h17 a0 7 13) fun a64 => bnd (f_X7_soonestOf a0 i16 h17) fun x65 => bnd (stI 0 h17 a64 i16 x65) fun h66 => r18 (i16 + (1 : Int32)) h66)) fuel (0 : Int32) h15) else (bnd (f_X7_isWaiting a0 i4 h) fun x67 => jn1 (fun (w68 : Int32) => nm (i3 ||| w68) fun v70 => r5 v70 (i4 + (1 : Int32))) fun k69 => if x67 = 0 then (k69 (0 : Int32)) else (k69 ((1 : Int32) <<< (i4 &&& 31))))) fuel (0 : Int32) (0 : Int32))
set_option maxHeartbeats 4000000 in
set_option maxRecDepth 100000 in
theorem c_X7_twoMills (l : Launch) (D : hD) (a0 : Nat) (p1 : Int32) (h : Hp) (x : (Int32 × Hp)) (e : f_X7_twoMills a0 p1 h = some x) : (∃ fs, gO h a0 7 = some fs) ∧ Ct l D yX7_twoMills cX7_twoMills 7 (some .int) 3 74 [.ref a0, .int p1] h (some (.int x.1)) x.2 := by
  obtain ⟨fs, g1, g2⟩ := bnd_some e
  refine ⟨⟨fs, g1⟩, ?_⟩
  refine ct_of (out := oI) g2 (by decide +kernel) rfl (fun B C hin hl hd => ?_)
  subst hl; subst hd
  show J B _ _ h 0 [(0, .ref a0), (1, .int p1)] []
  refine j_iload_n C dX7_twoMills_0 1 rfl rfl ?_
  refine j_i2l C dX7_twoMills_1 ?_
  refine j_lconst C (0 : Int64) dX7_twoMills_2 (by decide) ?_
  refine j_lconst C (1 : Int64) dX7_twoMills_3 (by decide) ?_
  refine j_cIp (st := []) (fun x e => ⟨runsS C wml_X7_69 wce_X7_in rfl rfl rfl rfl rfl dX7_twoMills_4, c_X7_in (bL B) (bD B) _ _ _ _ x e⟩) (fun x1 => ?_)
  refine j_if_ne C 12 dX7_twoMills_7 (by decide) (fun c2 => ?_) (fun c2 => ?_)
  · refine j_iconst C (0 : Int32) dX7_twoMills_12 (by decide) ?_
    refine j_istore_n (lv' := [(2, .int (0 : Int32)), (0, .ref a0), (1, .int p1)]) C dX7_twoMills_13 rfl rfl rfl ?_
    refine j_iconst C (0 : Int32) dX7_twoMills_14 (by decide) ?_
    refine j_istore_n (lv' := [(3, .int (0 : Int32)), (2, .int (0 : Int32)), (0, .ref a0), (1, .int p1)]) C dX7_twoMills_15 rfl rfl rfl ?_
    refine J.sub (lv' := [(0, .ref a0), (1, .int p1), (2, .int (0 : Int32)), (3, .int (0 : Int32))]) [2, 3, 1, 0] rfl ?_
    refine J.wl2 16 (fun (i3 : Int32) (i4 : Int32) => h) (fun (i3 : Int32) (i4 : Int32) => [(0, .ref a0), (1, .int p1), (2, .int i3), (3, .int i4)]) (fun (i3 : Int32) (i4 : Int32) => []) (fun r5 hr5 i3 i4 => ?_) fuel (0 : Int32) (0 : Int32)
    refine j_iload_n C dX7_twoMills_16 3 rfl rfl ?_
    refine j_aload_n C dX7_twoMills_17 0 rfl rfl ?_
    refine j_getR C wfl_X7_23 dX7_twoMills_18 (fun a6 => ?_)
    refine j_bipush C (50 : Int32) dX7_twoMills_21 (by decide) ?_
    refine j_iaload C dX7_twoMills_23 (fun x7 => ?_)
    refine j_icmp_ge C 51 dX7_twoMills_24 (by decide) (fun c8 => ?_) (fun c8 => ?_)
    · refine j_aload_n C dX7_twoMills_51 0 rfl rfl ?_
      refine j_aload_n C dX7_twoMills_52 0 rfl rfl ?_
      refine j_getR C wfl_X7_23 dX7_twoMills_53 (fun a9 => ?_)
      refine j_bipush C (51 : Int32) dX7_twoMills_56 (by decide) ?_
      refine j_iaload C dX7_twoMills_58 (fun x10 => ?_)
      refine j_aload_n C dX7_twoMills_59 0 rfl rfl ?_
      refine j_getR C wfl_X7_23 dX7_twoMills_60 (fun a11 => ?_)
      refine j_bipush C (52 : Int32) dX7_twoMills_63 (by decide) ?_
      refine j_iaload C dX7_twoMills_65 (fun x12 => ?_)
      refine j_aload_n C dX7_twoMills_66 0 rfl rfl ?_
      refine j_getR C wfl_X7_23 dX7_twoMills_67 (fun a13 => ?_)
      refine j_bipush C (53 : Int32) dX7_twoMills_70 (by decide) ?_
      refine j_iaload C dX7_twoMills_72 (fun x14 => ?_)
      refine j_cV (st := []) (fun x e => ⟨runsV C wml_X7_168 wce_X7_earliest (c_X7_earliest (bL B) (bD B) _ _ _ _ _ x e).1 rfl rfl rfl rfl rfl dX7_twoMills_73, (c_X7_earliest (bL B) (bD B) _ _ _ _ _ x e).2⟩) (fun h15 => ?_)
      refine j_iconst C (0 : Int32) dX7_twoMills_76 (by decide) ?_
      refine j_istore_n (lv' := [(3, .int (0 : Int32)), (0, .ref a0), (1, .int p1), (2, .int i3)]) C dX7_twoMills_77 rfl rfl rfl ?_
      refine J.sub (lv' := [(0, .ref a0), (1, .int p1), (2, .int i3), (3, .int (0 : Int32))]) [1, 2, 3, 0] rfl ?_
      refine J.wl2 78 (fun (i16 : Int32) (h17 : Hp) => h17) (fun (i16 : Int32) (h17 : Hp) => [(0, .ref a0), (1, .int p1), (2, .int i3), (3, .int i16)]) (fun (i16 : Int32) (h17 : Hp) => []) (fun r18 hr18 i16 h17 => ?_) fuel (0 : Int32) h15
      refine j_iload_n C dX7_twoMills_78 3 rfl rfl ?_
      refine j_iconst C (1 : Int32) dX7_twoMills_79 (by decide) ?_
      refine j_aload_n C dX7_twoMills_80 0 rfl rfl ?_
      refine j_getR C wfl_X7_23 dX7_twoMills_81 (fun a19 => ?_)
      refine j_bipush C (50 : Int32) dX7_twoMills_84 (by decide) ?_
      refine j_iaload C dX7_twoMills_86 (fun x20 => ?_)
      refine j_ishl C dX7_twoMills_87 ?_
      refine j_icmp_ge C 108 dX7_twoMills_88 (by decide) (fun c21 => ?_) (fun c21 => ?_)
      · refine j_aload_n C dX7_twoMills_108 0 rfl rfl ?_
        refine j_iconst C (0 : Int32) dX7_twoMills_109 (by decide) ?_
        refine j_iconst C (5 : Int32) dX7_twoMills_110 (by decide) ?_
        refine j_iconst C (5 : Int32) dX7_twoMills_111 (by decide) ?_
        refine j_cV (st := []) (fun x e => ⟨runsV C wml_X7_168 wce_X7_earliest (c_X7_earliest (bL B) (bD B) _ _ _ _ _ x e).1 rfl rfl rfl rfl rfl dX7_twoMills_112, (c_X7_earliest (bL B) (bD B) _ _ _ _ _ x e).2⟩) (fun h22 => ?_)
        refine j_iconst C (0 : Int32) dX7_twoMills_115 (by decide) ?_
        refine j_istore_n (lv' := [(3, .int (0 : Int32)), (0, .ref a0), (1, .int p1), (2, .int i3)]) C dX7_twoMills_116 rfl rfl rfl ?_
        refine J.sub (lv' := [(0, .ref a0), (1, .int p1), (2, .int i3), (3, .int (0 : Int32))]) [1, 2, 3, 0] rfl ?_
        refine J.wl2 117 (fun (i23 : Int32) (h24 : Hp) => h24) (fun (i23 : Int32) (h24 : Hp) => [(0, .ref a0), (1, .int p1), (2, .int i3), (3, .int i23)]) (fun (i23 : Int32) (h24 : Hp) => []) (fun r25 hr25 i23 h24 => ?_) fuel (0 : Int32) h22
        refine j_iload_n C dX7_twoMills_117 3 rfl rfl ?_
        refine j_iconst C (1 : Int32) dX7_twoMills_118 (by decide) ?_
        refine j_aload_n C dX7_twoMills_119 0 rfl rfl ?_
        refine j_getR C wfl_X7_23 dX7_twoMills_120 (fun a26 => ?_)
        refine j_bipush C (50 : Int32) dX7_twoMills_123 (by decide) ?_
        refine j_iaload C dX7_twoMills_125 (fun x27 => ?_)
        refine j_ishl C dX7_twoMills_126 ?_
        refine j_icmp_ge C 147 dX7_twoMills_127 (by decide) (fun c28 => ?_) (fun c28 => ?_)
        · refine j_ldc C dX7_twoMills_147 wco_X7_158 ?_
          refine j_istore_n (lv' := [(3, .int (1000000 : Int32)), (0, .ref a0), (1, .int p1), (2, .int i3)]) C dX7_twoMills_149 rfl rfl rfl ?_
          refine j_iconst C (0 : Int32) dX7_twoMills_150 (by decide) ?_
          refine j_istore (lv' := [(4, .int (0 : Int32)), (3, .int (1000000 : Int32)), (0, .ref a0), (1, .int p1), (2, .int i3)]) C dX7_twoMills_151 rfl rfl ?_
          refine j_iconst C (0 : Int32) dX7_twoMills_153 (by decide) ?_
          refine j_istore (lv' := [(5, .int (0 : Int32)), (4, .int (0 : Int32)), (3, .int (1000000 : Int32)), (0, .ref a0), (1, .int p1), (2, .int i3)]) C dX7_twoMills_154 rfl rfl ?_
          refine J.sub (lv' := [(0, .ref a0), (1, .int p1), (2, .int i3), (3, .int (1000000 : Int32)), (4, .int (0 : Int32)), (5, .int (0 : Int32))]) [3, 4, 5, 2, 1, 0] rfl ?_
          refine J.wl3 156 (fun (i29 : Int32) (i30 : Int32) (i31 : Int32) => h24) (fun (i29 : Int32) (i30 : Int32) (i31 : Int32) => [(0, .ref a0), (1, .int p1), (2, .int i3), (3, .int i29), (4, .int i30), (5, .int i31)]) (fun (i29 : Int32) (i30 : Int32) (i31 : Int32) => []) (fun r32 hr32 i29 i30 i31 => ?_) fuel (1000000 : Int32) (0 : Int32) (0 : Int32)
          refine j_iload C dX7_twoMills_156 5 rfl ?_
          refine j_iconst C (1 : Int32) dX7_twoMills_158 (by decide) ?_
          refine j_aload_n C dX7_twoMills_159 0 rfl rfl ?_
          refine j_getR C wfl_X7_23 dX7_twoMills_160 (fun a33 => ?_)
          refine j_bipush C (50 : Int32) dX7_twoMills_163 (by decide) ?_
          refine j_iaload C dX7_twoMills_165 (fun x34 => ?_)
          refine j_ishl C dX7_twoMills_166 ?_
          refine j_icmp_ge C 257 dX7_twoMills_167 (by decide) (fun c35 => ?_) (fun c35 => ?_)
          · refine j_iload_n C dX7_twoMills_257 3 rfl rfl ?_
            refine j_ldc C dX7_twoMills_258 wco_X7_158 ?_
            refine J.jn1 278 (fun (w36 : Int32) => h24) (fun (w36 : Int32) => []) (fun (w36 : Int32) => [.int w36]) (fun w36 => ?_) (fun k37 hk37 => ?_)
            · exact j_iret C dX7_twoMills_278
            refine j_icmp_ne C 268 dX7_twoMills_260 (by decide) (fun c38 => ?_) (fun c38 => ?_)
            · refine j_iload_n C dX7_twoMills_268 1 rfl rfl ?_
              refine j_if_ne C 276 dX7_twoMills_269 (by decide) (fun c39 => ?_) (fun c39 => ?_)
              · refine j_iload C dX7_twoMills_276 4 rfl ?_
                refine J.sub (lv' := []) [] rfl ?_
                exact hk37 i30
              · refine j_iload_n C dX7_twoMills_272 3 rfl rfl ?_
                refine j_goto C 278 dX7_twoMills_273 (by decide) ?_
                refine J.sub (lv' := []) [] rfl ?_
                exact hk37 i29
            · refine j_bipush C (-4 : Int32) dX7_twoMills_263 (by decide) ?_
              refine j_goto C 278 dX7_twoMills_265 (by decide) ?_
              refine J.sub (lv' := []) [] rfl ?_
              exact hk37 (-4 : Int32)
          · refine j_iload C dX7_twoMills_170 5 rfl ?_
            refine j_iload_n C dX7_twoMills_172 2 rfl rfl ?_
            refine j_iconst C (-1 : Int32) dX7_twoMills_173 (by decide) ?_
            refine j_ixor C dX7_twoMills_174 ?_
            refine j_iand C dX7_twoMills_175 ?_
            refine J.jn2 251 (fun (z40 : Int32) (z41 : Int32) => h24) (fun (z40 : Int32) (z41 : Int32) => [(0, .ref a0), (1, .int p1), (2, .int i3), (3, .int z40), (4, .int z41), (5, .int i31)]) (fun (z40 : Int32) (z41 : Int32) => []) (fun z40 z41 => ?_) (fun k42 hk42 => ?_)
            · refine j_iinc (lv' := [(5, .int (i31 + (1 : Int32))), (0, .ref a0), (1, .int p1), (2, .int i3), (3, .int z40), (4, .int z41)]) C (1 : Int32) dX7_twoMills_251 5 rfl (by decide) rfl rfl ?_
              refine j_goto C 156 dX7_twoMills_254 (by decide) ?_
              refine J.sub (lv' := [(0, .ref a0), (1, .int p1), (2, .int i3), (3, .int z40), (4, .int z41), (5, .int (i31 + (1 : Int32)))]) [1, 2, 3, 4, 5, 0] rfl ?_
              exact hr32 z40 z41 (i31 + (1 : Int32))
            refine j_if_ne C 251 dX7_twoMills_176 (by decide) (fun c43 => ?_) (fun c43 => ?_)
            · exact hk42 i29 i30
            · refine j_aload_n C dX7_twoMills_179 0 rfl rfl ?_
              refine j_getR C wfl_X7_36 dX7_twoMills_180 (fun a44 => ?_)
              refine j_iload C dX7_twoMills_183 5 rfl ?_
              refine j_iaload C dX7_twoMills_185 (fun x45 => ?_)
              refine j_aload_n C dX7_twoMills_186 0 rfl rfl ?_
              refine j_getR C wfl_X7_33 dX7_twoMills_187 (fun a46 => ?_)
              refine j_iload_n C dX7_twoMills_190 2 rfl rfl ?_
              refine j_iload C dX7_twoMills_191 5 rfl ?_
              refine j_iconst C (-1 : Int32) dX7_twoMills_193 (by decide) ?_
              refine j_ixor C dX7_twoMills_194 ?_
              refine j_iand C dX7_twoMills_195 ?_
              refine j_iaload C dX7_twoMills_196 (fun x47 => ?_)
              refine J.jn1 221 (fun (w48 : Int32) => h24) (fun (w48 : Int32) => [(0, .ref a0), (1, .int p1), (2, .int i3), (3, .int i29), (4, .int i30), (5, .int i31)]) (fun (w48 : Int32) => [.int w48]) (fun w48 => ?_) (fun k49 hk49 => ?_)
              · refine j_istore (lv' := [(6, .int w48), (0, .ref a0), (1, .int p1), (2, .int i3), (3, .int i29), (4, .int i30), (5, .int i31)]) C dX7_twoMills_221 rfl rfl ?_
                refine j_iload C dX7_twoMills_223 0 rfl ?_
                refine j_iload_n C dX7_twoMills_225 4 rfl rfl ?_
                refine J.jn1 236 (fun (w50 : Int32) => h24) (fun (w50 : Int32) => [(0, .ref a0), (1, .int p1), (2, .int i3), (3, .int i29), (5, .int i31), (6, .int w48)]) (fun (w50 : Int32) => [.int w50]) (fun w50 => ?_) (fun k51 hk51 => ?_)
                · refine j_istore (lv' := [(4, .int w50), (0, .ref a0), (1, .int p1), (2, .int i3), (3, .int i29), (5, .int i31), (6, .int w48)]) C dX7_twoMills_236 rfl rfl ?_
                  refine j_iload C dX7_twoMills_238 6 rfl ?_
                  refine j_iload_n C dX7_twoMills_240 4 rfl rfl ?_
                  refine J.jn1 250 (fun (w52 : Int32) => h24) (fun (w52 : Int32) => [(0, .ref a0), (1, .int p1), (2, .int i3), (4, .int w50), (5, .int i31)]) (fun (w52 : Int32) => [.int w52]) (fun w52 => ?_) (fun k53 hk53 => ?_)
                  · refine j_istore_n (lv' := [(3, .int w52), (0, .ref a0), (1, .int p1), (2, .int i3), (4, .int w50), (5, .int i31)]) C dX7_twoMills_250 rfl rfl rfl ?_
                    refine J.sub (lv' := [(0, .ref a0), (1, .int p1), (2, .int i3), (3, .int w52), (4, .int w50), (5, .int i31)]) [1, 2, 3, 0, 4, 5] rfl ?_
                    exact hk42 w52 w50
                  refine j_icmp_ge C 249 dX7_twoMills_241 (by decide) (fun c54 => ?_) (fun c54 => ?_)
                  · refine j_iload_n C dX7_twoMills_249 4 rfl rfl ?_
                    refine J.sub (lv' := [(0, .ref a0), (1, .int p1), (2, .int i3), (4, .int w50), (5, .int i31)]) [1, 2, 3, 0, 5] rfl ?_
                    exact hk53 i29
                  · refine j_iload C dX7_twoMills_244 6 rfl ?_
                    refine j_goto C 250 dX7_twoMills_246 (by decide) ?_
                    refine J.sub (lv' := [(0, .ref a0), (1, .int p1), (2, .int i3), (4, .int w50), (5, .int i31)]) [1, 2, 3, 0, 5] rfl ?_
                    exact hk53 w48
                refine j_icmp_ge C 234 dX7_twoMills_226 (by decide) (fun c55 => ?_) (fun c55 => ?_)
                · refine j_iload C dX7_twoMills_234 5 rfl ?_
                  refine J.sub (lv' := [(0, .ref a0), (1, .int p1), (2, .int i3), (3, .int i29), (5, .int i31), (6, .int w48)]) [1, 2, 3, 4, 6, 0] rfl ?_
                  exact hk51 i30
                · refine j_iload C dX7_twoMills_229 6 rfl ?_
                  refine j_goto C 236 dX7_twoMills_231 (by decide) ?_
                  refine J.sub (lv' := [(0, .ref a0), (1, .int p1), (2, .int i3), (3, .int i29), (5, .int i31), (6, .int w48)]) [1, 2, 3, 4, 6, 0] rfl ?_
                  exact hk51 i31
              refine j_icmp_le C 210 dX7_twoMills_197 (by decide) (fun c56 => ?_) (fun c56 => ?_)
              · refine j_aload_n C dX7_twoMills_210 0 rfl rfl ?_
                refine j_getR C wfl_X7_33 dX7_twoMills_211 (fun a57 => ?_)
                refine j_iload_n C dX7_twoMills_214 2 rfl rfl ?_
                refine j_iload C dX7_twoMills_215 5 rfl ?_
                refine j_iconst C (-1 : Int32) dX7_twoMills_217 (by decide) ?_
                refine j_ixor C dX7_twoMills_218 ?_
                refine j_iand C dX7_twoMills_219 ?_
                refine j_iaload C dX7_twoMills_220 (fun x58 => ?_)
                exact hk49 x58
              · refine j_aload_n C dX7_twoMills_200 0 rfl rfl ?_
                refine j_getR C wfl_X7_36 dX7_twoMills_201 (fun a59 => ?_)
                refine j_iload C dX7_twoMills_204 5 rfl ?_
                refine j_iaload C dX7_twoMills_206 (fun x60 => ?_)
                refine j_goto C 221 dX7_twoMills_207 (by decide) ?_
                exact hk49 x60
        · refine j_aload_n C dX7_twoMills_130 0 rfl rfl ?_
          refine j_getR C wfl_X7_33 dX7_twoMills_131 (fun a61 => ?_)
          refine j_iload_n C dX7_twoMills_134 3 rfl rfl ?_
          refine j_aload_n C dX7_twoMills_135 0 rfl rfl ?_
          refine j_iload_n C dX7_twoMills_136 3 rfl rfl ?_
          refine j_cIp (st := [.int i23, .ref a61]) (fun x e => ⟨runsV C wml_X7_175 wce_X7_soonestOf (c_X7_soonestOf (bL B) (bD B) _ _ _ x e).1 rfl rfl rfl rfl rfl dX7_twoMills_137, (c_X7_soonestOf (bL B) (bD B) _ _ _ x e).2⟩) (fun x62 => ?_)
          refine j_iastore C dX7_twoMills_140 (fun h63 => ?_)
          refine j_iinc (lv' := [(3, .int (i23 + (1 : Int32))), (0, .ref a0), (1, .int p1), (2, .int i3)]) C (1 : Int32) dX7_twoMills_141 3 rfl (by decide) rfl rfl ?_
          refine j_goto C 117 dX7_twoMills_144 (by decide) ?_
          refine J.sub (lv' := [(0, .ref a0), (1, .int p1), (2, .int i3), (3, .int (i23 + (1 : Int32)))]) [1, 2, 3, 0] rfl ?_
          exact hr25 (i23 + (1 : Int32)) h63
      · refine j_aload_n C dX7_twoMills_91 0 rfl rfl ?_
        refine j_getR C wfl_X7_36 dX7_twoMills_92 (fun a64 => ?_)
        refine j_iload_n C dX7_twoMills_95 3 rfl rfl ?_
        refine j_aload_n C dX7_twoMills_96 0 rfl rfl ?_
        refine j_iload_n C dX7_twoMills_97 3 rfl rfl ?_
        refine j_cIp (st := [.int i16, .ref a64]) (fun x e => ⟨runsV C wml_X7_175 wce_X7_soonestOf (c_X7_soonestOf (bL B) (bD B) _ _ _ x e).1 rfl rfl rfl rfl rfl dX7_twoMills_98, (c_X7_soonestOf (bL B) (bD B) _ _ _ x e).2⟩) (fun x65 => ?_)
        refine j_iastore C dX7_twoMills_101 (fun h66 => ?_)
        refine j_iinc (lv' := [(3, .int (i16 + (1 : Int32))), (0, .ref a0), (1, .int p1), (2, .int i3)]) C (1 : Int32) dX7_twoMills_102 3 rfl (by decide) rfl rfl ?_
        refine j_goto C 78 dX7_twoMills_105 (by decide) ?_
        refine J.sub (lv' := [(0, .ref a0), (1, .int p1), (2, .int i3), (3, .int (i16 + (1 : Int32)))]) [1, 2, 3, 0] rfl ?_
        exact hr18 (i16 + (1 : Int32)) h66
    · refine j_iload_n C dX7_twoMills_27 2 rfl rfl ?_
      refine j_aload_n C dX7_twoMills_28 0 rfl rfl ?_
      refine j_iload_n C dX7_twoMills_29 3 rfl rfl ?_
      refine j_cIp (st := [.int i3]) (fun x e => ⟨runsV C wml_X7_125 wce_X7_isWaiting (c_X7_isWaiting (bL B) (bD B) _ _ _ x e).1 rfl rfl rfl rfl rfl dX7_twoMills_30, (c_X7_isWaiting (bL B) (bD B) _ _ _ x e).2⟩) (fun x67 => ?_)
      refine J.jn1 43 (fun (w68 : Int32) => h) (fun (w68 : Int32) => [(0, .ref a0), (1, .int p1), (3, .int i4)]) (fun (w68 : Int32) => [.int w68, .int i3]) (fun w68 => ?_) (fun k69 hk69 => ?_)
      · refine j_ior C dX7_twoMills_43 ?_
        refine j_nmI (fun v70 => ?_)
        refine j_istore_n (lv' := [(2, .int v70), (0, .ref a0), (1, .int p1), (3, .int i4)]) C dX7_twoMills_44 rfl rfl rfl ?_
        refine j_iinc (lv' := [(3, .int (i4 + (1 : Int32))), (2, .int v70), (0, .ref a0), (1, .int p1)]) C (1 : Int32) dX7_twoMills_45 3 rfl (by decide) rfl rfl ?_
        refine j_goto C 16 dX7_twoMills_48 (by decide) ?_
        refine J.sub (lv' := [(0, .ref a0), (1, .int p1), (2, .int v70), (3, .int (i4 + (1 : Int32)))]) [2, 3, 1, 0] rfl ?_
        exact hr5 v70 (i4 + (1 : Int32))
      refine j_if_eq C 42 dX7_twoMills_33 (by decide) (fun c71 => ?_) (fun c71 => ?_)
      · refine j_iconst C (0 : Int32) dX7_twoMills_42 (by decide) ?_
        refine J.sub (lv' := [(0, .ref a0), (1, .int p1), (3, .int i4)]) [0, 1, 3] rfl ?_
        exact hk69 (0 : Int32)
      · refine j_iconst C (1 : Int32) dX7_twoMills_36 (by decide) ?_
        refine j_iload_n C dX7_twoMills_37 3 rfl rfl ?_
        refine j_ishl C dX7_twoMills_38 ?_
        refine j_goto C 43 dX7_twoMills_39 (by decide) ?_
        refine J.sub (lv' := [(0, .ref a0), (1, .int p1), (3, .int i4)]) [0, 1, 3] rfl ?_
        exact hk69 ((1 : Int32) <<< (i4 &&& 31))
  · refine j_iconst C (-1 : Int32) dX7_twoMills_10 (by decide) ?_
    exact j_iret C dX7_twoMills_11
