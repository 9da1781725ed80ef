def f_X7_mostOf (a0 : Nat) (h : Hp) : Option (Int32 × Hp) :=
  bnd (gO h a0 7) fun _ => bnd (f_X7_size a0 h) fun x1 => wl2 (fun r4 (i2 : Int32) (h3 : Hp) => if x1 ≤ i2 then (bnd (gR h3 a0 7 21) fun a6 => bnd (gR h3 a0 7 6) fun a7 => bnd (ldI 0 h3 a7 (52 : Int32)) fun x8 => bnd (gR h3 a0 7 6) fun a9 => bnd (ldI 0 h3 a9 (53 : Int32)) fun x10 => bnd (ldL h3 a6 ((((36 : Int32) * (x1 - (1 : Int32))) + ((6 : Int32) * x8)) + x10)) fun y11 => some (y11.toInt32, h3)) else (bnd (f_X7_counted a0 i2 h3) fun h12 => wl2 (fun r15 (i13 : Int32) (h14 : Hp) => if (36 : Int32) ≤ i13 then (r4 (i2 + (1 : Int32)) h14) else (wl2 (fun r19 (y17 : Int64) (i18 : Int32) => if (5 : Int32) ≤ i18 then (bnd (gR h14 a0 7 21) fun a21 => bnd (stL h14 a21 (((36 : Int32) * i2) + i13) y17) fun h22 => r15 (i13 + (1 : Int32)) h22) else (bnd (gR h14 a0 7 16) fun a23 => bnd (ldI 0 h14 a23 i18) fun x24 => jn1 (fun (y25 : Int64) => r19 y25 (i18 + (1 : Int32))) fun k26 => if x24 ≤ 0 then (k26 y17) else (if (6 : Int32) = 0 then none else if (6 : Int32) = 0 then none else bnd (f_X7_isMixed a0 i18 (i13 / (6 : Int32)) (i13 - i13 / (6 : Int32) * (6 : Int32)) h14) fun x28 => if x28 = 0 then (k26 y17) else (bnd (gR h14 a0 7 21) fun a30 => bnd (f_X7_step a0 i18 h14) fun x31 => if (6 : Int32) = 0 then none else bnd (ldL h14 a30 ((((36 : Int32) * (i2 - x31)) + ((6 : Int32) * i18)) + (i13 / (6 : Int32)))) fun y32 => nm ((1 : Int64) + y32) fun y33 => jn1 (fun (y34 : Int64) => k26 y34) fun k35 => if (lg_cmp y33 y17) ≤ 0 then (k35 y17) else (k35 y33))))) fuel (0 : Int64) (0 : Int32))) fuel (0 : Int32) h12)) fuel (0 : Int32) h
set_option maxHeartbeats 4000000 in
set_option maxRecDepth 100000 in
theorem c_X7_mostOf (l : Launch) (D : hD) (a0 : Nat) (h : Hp) (x : (Int32 × Hp)) (e : f_X7_mostOf a0 h = some x) : (∃ fs, gO h a0 7 = some fs) ∧ Ct l D yX7_mostOf cX7_mostOf 9 (some .int) 1 23 [.ref a0] h (some (.int x.1)) x.2 := by
  obtain ⟨fs, g1, g2⟩ := bnd_some e
  refine ⟨⟨fs, g1⟩, ?_⟩
  refine ct_of (out := oI) g2 (by decide +kernel) rfl (fun B C hin hl hd => ?_)
  subst hl; subst hd
  show J B _ _ h 0 [(0, .ref a0)] []
  refine j_aload_n C dX7_mostOf_0 0 rfl rfl ?_
  refine j_cIp (st := []) (fun x e => ⟨runsV C wml_X7_147 wce_X7_size (c_X7_size (bL B) (bD B) _ _ x e).1 rfl rfl rfl rfl rfl dX7_mostOf_1, (c_X7_size (bL B) (bD B) _ _ x e).2⟩) (fun x1 => ?_)
  refine j_istore_n (lv' := [(1, .int x1), (0, .ref a0)]) C dX7_mostOf_4 rfl rfl rfl ?_
  refine j_iconst C (0 : Int32) dX7_mostOf_5 (by decide) ?_
  refine j_istore_n (lv' := [(2, .int (0 : Int32)), (1, .int x1), (0, .ref a0)]) C dX7_mostOf_6 rfl rfl rfl ?_
  refine J.sub (lv' := [(0, .ref a0), (1, .int x1), (2, .int (0 : Int32))]) [2, 1, 0] rfl ?_
  refine J.wl2 7 (fun (i2 : Int32) (h3 : Hp) => h3) (fun (i2 : Int32) (h3 : Hp) => [(0, .ref a0), (1, .int x1), (2, .int i2)]) (fun (i2 : Int32) (h3 : Hp) => []) (fun r4 hr4 i2 h3 => ?_) fuel (0 : Int32) h
  refine j_iload_n C dX7_mostOf_7 2 rfl rfl ?_
  refine j_iload_n C dX7_mostOf_8 1 rfl rfl ?_
  refine j_icmp_ge C 143 dX7_mostOf_9 (by decide) (fun c5 => ?_) (fun c5 => ?_)
  · refine j_aload_n C dX7_mostOf_143 0 rfl rfl ?_
    refine j_getR C wfl_X7_57 dX7_mostOf_144 (fun a6 => ?_)
    refine j_bipush C (36 : Int32) dX7_mostOf_147 (by decide) ?_
    refine j_iload_n C dX7_mostOf_149 1 rfl rfl ?_
    refine j_iconst C (1 : Int32) dX7_mostOf_150 (by decide) ?_
    refine j_isub C dX7_mostOf_151 ?_
    refine j_imul C dX7_mostOf_152 ?_
    refine j_bipush C (6 : Int32) dX7_mostOf_153 (by decide) ?_
    refine j_aload_n C dX7_mostOf_155 0 rfl rfl ?_
    refine j_getR C wfl_X7_23 dX7_mostOf_156 (fun a7 => ?_)
    refine j_bipush C (52 : Int32) dX7_mostOf_159 (by decide) ?_
    refine j_iaload C dX7_mostOf_161 (fun x8 => ?_)
    refine j_imul C dX7_mostOf_162 ?_
    refine j_iadd C dX7_mostOf_163 ?_
    refine j_aload_n C dX7_mostOf_164 0 rfl rfl ?_
    refine j_getR C wfl_X7_23 dX7_mostOf_165 (fun a9 => ?_)
    refine j_bipush C (53 : Int32) dX7_mostOf_168 (by decide) ?_
    refine j_iaload C dX7_mostOf_170 (fun x10 => ?_)
    refine j_iadd C dX7_mostOf_171 ?_
    refine j_laload C dX7_mostOf_172 (fun y11 => ?_)
    refine j_l2i C dX7_mostOf_173 ?_
    exact j_iret C dX7_mostOf_174
  · refine j_aload_n C dX7_mostOf_12 0 rfl rfl ?_
    refine j_iload_n C dX7_mostOf_13 2 rfl rfl ?_
    refine j_cV (st := []) (fun x e => ⟨runsV C wml_X7_150 wce_X7_counted (c_X7_counted (bL B) (bD B) _ _ _ x e).1 rfl rfl rfl rfl rfl dX7_mostOf_14, (c_X7_counted (bL B) (bD B) _ _ _ x e).2⟩) (fun h12 => ?_)
    refine j_iconst C (0 : Int32) dX7_mostOf_17 (by decide) ?_
    refine j_istore_n (lv' := [(3, .int (0 : Int32)), (0, .ref a0), (1, .int x1), (2, .int i2)]) C dX7_mostOf_18 rfl rfl rfl ?_
    refine J.sub (lv' := [(0, .ref a0), (1, .int x1), (2, .int i2), (3, .int (0 : Int32))]) [1, 2, 3, 0] rfl ?_
    refine J.wl2 19 (fun (i13 : Int32) (h14 : Hp) => h14) (fun (i13 : Int32) (h14 : Hp) => [(0, .ref a0), (1, .int x1), (2, .int i2), (3, .int i13)]) (fun (i13 : Int32) (h14 : Hp) => []) (fun r15 hr15 i13 h14 => ?_) fuel (0 : Int32) h12
    refine j_iload_n C dX7_mostOf_19 3 rfl rfl ?_
    refine j_bipush C (36 : Int32) dX7_mostOf_20 (by decide) ?_
    refine j_icmp_ge C 137 dX7_mostOf_22 (by decide) (fun c16 => ?_) (fun c16 => ?_)
    · refine j_iinc (lv' := [(2, .int (i2 + (1 : Int32))), (0, .ref a0), (1, .int x1), (3, .int i13)]) C (1 : Int32) dX7_mostOf_137 2 rfl (by decide) rfl rfl ?_
      refine j_goto C 7 dX7_mostOf_140 (by decide) ?_
      refine J.sub (lv' := [(0, .ref a0), (1, .int x1), (2, .int (i2 + (1 : Int32)))]) [1, 2, 0] rfl ?_
      exact hr4 (i2 + (1 : Int32)) h14
    · refine j_lconst C (0 : Int64) dX7_mostOf_25 (by decide) ?_
      refine j_lstore (lv' := [(4, .long (0 : Int64)), (0, .ref a0), (1, .int x1), (2, .int i2), (3, .int i13)]) C dX7_mostOf_26 rfl rfl ?_
      refine j_iconst C (0 : Int32) dX7_mostOf_28 (by decide) ?_
      refine j_istore (lv' := [(6, .int (0 : Int32)), (4, .long (0 : Int64)), (0, .ref a0), (1, .int x1), (2, .int i2), (3, .int i13)]) C dX7_mostOf_29 rfl rfl ?_
      refine J.sub (lv' := [(0, .ref a0), (1, .int x1), (2, .int i2), (3, .int i13), (4, .long (0 : Int64)), (6, .int (0 : Int32))]) [2, 3, 4, 5, 1, 0] rfl ?_
      refine J.wl2 31 (fun (y17 : Int64) (i18 : Int32) => h14) (fun (y17 : Int64) (i18 : Int32) => [(0, .ref a0), (1, .int x1), (2, .int i2), (3, .int i13), (4, .long y17), (6, .int i18)]) (fun (y17 : Int64) (i18 : Int32) => []) (fun r19 hr19 y17 i18 => ?_) fuel (0 : Int64) (0 : Int32)
      refine j_iload C dX7_mostOf_31 5 rfl ?_
      refine j_iconst C (5 : Int32) dX7_mostOf_33 (by decide) ?_
      refine j_icmp_ge C 118 dX7_mostOf_34 (by decide) (fun c20 => ?_) (fun c20 => ?_)
      · refine j_aload_n C dX7_mostOf_118 0 rfl rfl ?_
        refine j_getR C wfl_X7_57 dX7_mostOf_119 (fun a21 => ?_)
        refine j_bipush C (36 : Int32) dX7_mostOf_122 (by decide) ?_
        refine j_iload_n C dX7_mostOf_124 2 rfl rfl ?_
        refine j_imul C dX7_mostOf_125 ?_
        refine j_iload_n C dX7_mostOf_126 3 rfl rfl ?_
        refine j_iadd C dX7_mostOf_127 ?_
        refine j_lload C dX7_mostOf_128 4 rfl ?_
        refine j_lastore C dX7_mostOf_130 (fun h22 => ?_)
        refine j_iinc (lv' := [(3, .int (i13 + (1 : Int32))), (0, .ref a0), (1, .int x1), (2, .int i2), (4, .long y17), (6, .int i18)]) C (1 : Int32) dX7_mostOf_131 3 rfl (by decide) rfl rfl ?_
        refine j_goto C 19 dX7_mostOf_134 (by decide) ?_
        refine J.sub (lv' := [(0, .ref a0), (1, .int x1), (2, .int i2), (3, .int (i13 + (1 : Int32)))]) [1, 2, 3, 0] rfl ?_
        exact hr15 (i13 + (1 : Int32)) h22
      · refine j_aload_n C dX7_mostOf_37 0 rfl rfl ?_
        refine j_getR C wfl_X7_42 dX7_mostOf_38 (fun a23 => ?_)
        refine j_iload C dX7_mostOf_41 5 rfl ?_
        refine j_iaload C dX7_mostOf_43 (fun x24 => ?_)
        refine J.jn1 112 (fun (y25 : Int64) => h14) (fun (y25 : Int64) => [(0, .ref a0), (1, .int x1), (2, .int i2), (3, .int i13), (4, .long y25), (6, .int i18)]) (fun (y25 : Int64) => []) (fun y25 => ?_) (fun k26 hk26 => ?_)
        · refine j_iinc (lv' := [(6, .int (i18 + (1 : Int32))), (0, .ref a0), (1, .int x1), (2, .int i2), (3, .int i13), (4, .long y25)]) C (1 : Int32) dX7_mostOf_112 5 rfl (by decide) rfl rfl ?_
          refine j_goto C 31 dX7_mostOf_115 (by decide) ?_
          refine J.sub (lv' := [(0, .ref a0), (1, .int x1), (2, .int i2), (3, .int i13), (4, .long y25), (6, .int (i18 + (1 : Int32)))]) [1, 2, 3, 4, 5, 0] rfl ?_
          exact hr19 y25 (i18 + (1 : Int32))
        refine j_if_le C 112 dX7_mostOf_44 (by decide) (fun c27 => ?_) (fun c27 => ?_)
        · exact hk26 y17
        · refine j_aload_n C dX7_mostOf_47 0 rfl rfl ?_
          refine j_iload C dX7_mostOf_48 5 rfl ?_
          refine j_iload_n C dX7_mostOf_50 3 rfl rfl ?_
          refine j_bipush C (6 : Int32) dX7_mostOf_51 (by decide) ?_
          refine j_idiv C dX7_mostOf_53 ?_
          refine j_iload_n C dX7_mostOf_54 3 rfl rfl ?_
          refine j_bipush C (6 : Int32) dX7_mostOf_55 (by decide) ?_
          refine j_irem C dX7_mostOf_57 ?_
          refine j_cIp (st := []) (fun x e => ⟨runsV C wml_X7_121 wce_X7_isMixed (c_X7_isMixed (bL B) (bD B) _ _ _ _ _ x e).1 rfl rfl rfl rfl rfl dX7_mostOf_58, (c_X7_isMixed (bL B) (bD B) _ _ _ _ _ x e).2⟩) (fun x28 => ?_)
          refine j_if_eq C 112 dX7_mostOf_61 (by decide) (fun c29 => ?_) (fun c29 => ?_)
          · exact hk26 y17
          · refine j_lconst C (1 : Int64) dX7_mostOf_64 (by decide) ?_
            refine j_aload_n C dX7_mostOf_65 0 rfl rfl ?_
            refine j_getR C wfl_X7_57 dX7_mostOf_66 (fun a30 => ?_)
            refine j_bipush C (36 : Int32) dX7_mostOf_69 (by decide) ?_
            refine j_iload_n C dX7_mostOf_71 2 rfl rfl ?_
            refine j_aload_n C dX7_mostOf_72 0 rfl rfl ?_
            refine j_iload C dX7_mostOf_73 5 rfl ?_
            refine j_cIp (st := [.int i2, .int (36 : Int32), .ref a30, .long (1 : Int64)]) (fun x e => ⟨runsV C wml_X7_154 wce_X7_step (c_X7_step (bL B) (bD B) _ _ _ x e).1 rfl rfl rfl rfl rfl dX7_mostOf_75, (c_X7_step (bL B) (bD B) _ _ _ x e).2⟩) (fun x31 => ?_)
            refine j_isub C dX7_mostOf_78 ?_
            refine j_imul C dX7_mostOf_79 ?_
            refine j_bipush C (6 : Int32) dX7_mostOf_80 (by decide) ?_
            refine j_iload C dX7_mostOf_82 5 rfl ?_
            refine j_imul C dX7_mostOf_84 ?_
            refine j_iadd C dX7_mostOf_85 ?_
            refine j_iload_n C dX7_mostOf_86 3 rfl rfl ?_
            refine j_bipush C (6 : Int32) dX7_mostOf_87 (by decide) ?_
            refine j_idiv C dX7_mostOf_89 ?_
            refine j_iadd C dX7_mostOf_90 ?_
            refine j_laload C dX7_mostOf_91 (fun y32 => ?_)
            refine j_ladd C dX7_mostOf_92 ?_
            refine j_nmL (fun y33 => ?_)
            refine j_lstore (lv' := [(7, .long y33), (0, .ref a0), (1, .int x1), (2, .int i2), (3, .int i13), (4, .long y17), (6, .int i18)]) C dX7_mostOf_93 rfl rfl ?_
            refine j_lload C dX7_mostOf_95 0 rfl ?_
            refine j_lload C dX7_mostOf_97 5 rfl ?_
            refine j_lcmp C dX7_mostOf_99 ?_
            refine J.jn1 110 (fun (y34 : Int64) => h14) (fun (y34 : Int64) => [(0, .ref a0), (1, .int x1), (2, .int i2), (3, .int i13), (6, .int i18)]) (fun (y34 : Int64) => [.long y34]) (fun y34 => ?_) (fun k35 hk35 => ?_)
            · refine j_lstore (lv' := [(4, .long y34), (0, .ref a0), (1, .int x1), (2, .int i2), (3, .int i13), (6, .int i18)]) C dX7_mostOf_110 rfl rfl ?_
              refine J.sub (lv' := [(0, .ref a0), (1, .int x1), (2, .int i2), (3, .int i13), (4, .long y34), (6, .int i18)]) [1, 2, 3, 4, 0, 5] rfl ?_
              exact hk26 y34
            refine j_if_le C 108 dX7_mostOf_100 (by decide) (fun c36 => ?_) (fun c36 => ?_)
            · refine j_lload C dX7_mostOf_108 5 rfl ?_
              refine J.sub (lv' := [(0, .ref a0), (1, .int x1), (2, .int i2), (3, .int i13), (6, .int i18)]) [1, 2, 3, 4, 6] rfl ?_
              exact hk35 y17
            · refine j_lload C dX7_mostOf_103 0 rfl ?_
              refine j_goto C 110 dX7_mostOf_105 (by decide) ?_
              refine J.sub (lv' := [(0, .ref a0), (1, .int x1), (2, .int i2), (3, .int i13), (6, .int i18)]) [1, 2, 3, 4, 6] rfl ?_
              exact hk35 y33
def f_X7_grows (a0 : Nat) (p1 : Int32) (h : Hp) : Option (Int32 × Hp) :=
  bnd (gO h a0 7) fun _ => bnd (f_X7_isKind p1) fun x1 => if x1 = 0 then (some ((-1 : Int32), h)) else (bnd (f_X7_hasMany a0 p1 h) fun x3 => if x3 = 0 then (some ((-4 : Int32), h)) else (wl4 (fun r9 (i5 : Int32) (i6 : Int32) (i7 : Int32) (h8 : Hp) => if (5 : Int32) ≤ i7 then (some (i5, h8)) else (wl2 (fun r13 (i11 : Int32) (h12 : Hp) => if (5 : Int32) ≤ i11 then (wl2 (fun r17 (i15 : Int32) (h16 : Hp) => bnd (gR h16 a0 7 6) fun a18 => bnd (ldI 0 h16 a18 (50 : Int32)) fun x19 => if x19 ≤ i15 then (bnd2 (f_X7_mostOf a0 h16) fun x21 h22 => jn1 (fun (w23 : Int32) => jn1 (fun (w25 : Int32) => r9 w23 w25 (i7 + (1 : Int32)) h22) fun k26 => if x21 ≤ i6 then (k26 i6) else (k26 x21)) fun k24 => if x21 ≤ i6 then (k24 i5) else (k24 i7)) else (bnd (gR h16 a0 7 17) fun a29 => bnd (f_X7_of a0 i15 (2 : Int32) h16) fun x30 => jn1 (fun (w31 : Int32) => bnd (ldI 0 h16 a29 w31) fun x33 => bnd (f_X7_isWaiting a0 i15 h16) fun x34 => jn1 (fun (w35 : Int32) => bnd (stI 0 h16 a29 w31 (x33 + w35)) fun h37 => r17 (i15 + (1 : Int32)) h37) fun k36 => if x34 = 0 then (k36 (0 : Int32)) else (k36 (1 : Int32))) fun k32 => if x30 = p1 then (k32 i7) else (bnd (f_X7_of a0 i15 (0 : Int32) h16) fun x40 => k32 x40))) fuel (0 : Int32) h12) else (bnd (gR h12 a0 7 17) fun a41 => bnd (stI 0 h12 a41 i11 (0 : Int32)) fun h42 => r13 (i11 + (1 : Int32)) h42)) fuel (0 : Int32) h8)) fuel (0 : Int32) (-1 : Int32) (0 : Int32) h))
set_option maxHeartbeats 4000000 in
set_option maxRecDepth 100000 in
theorem c_X7_grows (l : Launch) (D : hD) (a0 : Nat) (p1 : Int32) (h : Hp) (x : (Int32 × Hp)) (e : f_X7_grows a0 p1 h = some x) : (∃ fs, gO h a0 7 = some fs) ∧ Ct l D yX7_grows cX7_grows 6 (some .int) 3 66 [.ref a0, .int p1] h (some (.int x.1)) x.2 := by
  obtain ⟨fs, g1, g2⟩ := bnd_some e
  refine ⟨⟨fs, g1⟩, ?_⟩
  refine ct_of (out := oI) g2 (by decide +kernel) rfl (fun B C hin hl hd => ?_)
  subst hl; subst hd
  show J B _ _ h 0 [(0, .ref a0), (1, .int p1)] []
  refine j_iload_n C dX7_grows_0 1 rfl rfl ?_
  refine j_cIp (st := []) (fun x e => ⟨runsS C wml_X7_181 wce_X7_isKind rfl rfl rfl rfl rfl dX7_grows_1, c_X7_isKind (bL B) (bD B) _ _ x e⟩) (fun x1 => ?_)
  refine j_if_ne C 9 dX7_grows_4 (by decide) (fun c2 => ?_) (fun c2 => ?_)
  · refine j_aload_n C dX7_grows_9 0 rfl rfl ?_
    refine j_iload_n C dX7_grows_10 1 rfl rfl ?_
    refine j_cIp (st := []) (fun x e => ⟨runsV C wml_X7_184 wce_X7_hasMany (c_X7_hasMany (bL B) (bD B) _ _ _ x e).1 rfl rfl rfl rfl rfl dX7_grows_11, (c_X7_hasMany (bL B) (bD B) _ _ _ x e).2⟩) (fun x3 => ?_)
    refine j_if_ne C 20 dX7_grows_14 (by decide) (fun c4 => ?_) (fun c4 => ?_)
    · refine j_iconst C (0 : Int32) dX7_grows_20 (by decide) ?_
      refine j_istore_n (lv' := [(2, .int (0 : Int32)), (0, .ref a0), (1, .int p1)]) C dX7_grows_21 rfl rfl rfl ?_
      refine j_iconst C (-1 : Int32) dX7_grows_22 (by decide) ?_
      refine j_istore_n (lv' := [(3, .int (-1 : Int32)), (2, .int (0 : Int32)), (0, .ref a0), (1, .int p1)]) C dX7_grows_23 rfl rfl rfl ?_
      refine j_iconst C (0 : Int32) dX7_grows_24 (by decide) ?_
      refine j_istore (lv' := [(4, .int (0 : Int32)), (3, .int (-1 : Int32)), (2, .int (0 : Int32)), (0, .ref a0), (1, .int p1)]) C dX7_grows_25 rfl rfl ?_
      refine J.sub (lv' := [(0, .ref a0), (1, .int p1), (2, .int (0 : Int32)), (3, .int (-1 : Int32)), (4, .int (0 : Int32))]) [3, 4, 2, 1, 0] rfl ?_
      refine J.wl4 27 (fun (i5 : Int32) (i6 : Int32) (i7 : Int32) (h8 : Hp) => h8) (fun (i5 : Int32) (i6 : Int32) (i7 : Int32) (h8 : Hp) => [(0, .ref a0), (1, .int p1), (2, .int i5), (3, .int i6), (4, .int i7)]) (fun (i5 : Int32) (i6 : Int32) (i7 : Int32) (h8 : Hp) => []) (fun r9 hr9 i5 i6 i7 h8 => ?_) fuel (0 : Int32) (-1 : Int32) (0 : Int32) h
      refine j_iload C dX7_grows_27 4 rfl ?_
      refine j_iconst C (5 : Int32) dX7_grows_29 (by decide) ?_
      refine j_icmp_ge C 160 dX7_grows_30 (by decide) (fun c10 => ?_) (fun c10 => ?_)
      · refine j_iload_n C dX7_grows_160 2 rfl rfl ?_
        exact j_iret C dX7_grows_161
      · refine j_iconst C (0 : Int32) dX7_grows_33 (by decide) ?_
        refine j_istore (lv' := [(5, .int (0 : Int32)), (0, .ref a0), (1, .int p1), (2, .int i5), (3, .int i6), (4, .int i7)]) C dX7_grows_34 rfl rfl ?_
        refine J.sub (lv' := [(0, .ref a0), (1, .int p1), (2, .int i5), (3, .int i6), (4, .int i7), (5, .int (0 : Int32))]) [1, 2, 3, 4, 5, 0] rfl ?_
        refine J.wl2 36 (fun (i11 : Int32) (h12 : Hp) => h12) (fun (i11 : Int32) (h12 : Hp) => [(0, .ref a0), (1, .int p1), (2, .int i5), (3, .int i6), (4, .int i7), (5, .int i11)]) (fun (i11 : Int32) (h12 : Hp) => []) (fun r13 hr13 i11 h12 => ?_) fuel (0 : Int32) h8
        refine j_iload C dX7_grows_36 5 rfl ?_
        refine j_iconst C (5 : Int32) dX7_grows_38 (by decide) ?_
        refine j_icmp_ge C 56 dX7_grows_39 (by decide) (fun c14 => ?_) (fun c14 => ?_)
        · refine j_iconst C (0 : Int32) dX7_grows_56 (by decide) ?_
          refine j_istore (lv' := [(5, .int (0 : Int32)), (0, .ref a0), (1, .int p1), (2, .int i5), (3, .int i6), (4, .int i7)]) C dX7_grows_57 rfl rfl ?_
          refine J.sub (lv' := [(0, .ref a0), (1, .int p1), (2, .int i5), (3, .int i6), (4, .int i7), (5, .int (0 : Int32))]) [1, 2, 3, 4, 5, 0] rfl ?_
          refine J.wl2 59 (fun (i15 : Int32) (h16 : Hp) => h16) (fun (i15 : Int32) (h16 : Hp) => [(0, .ref a0), (1, .int p1), (2, .int i5), (3, .int i6), (4, .int i7), (5, .int i15)]) (fun (i15 : Int32) (h16 : Hp) => []) (fun r17 hr17 i15 h16 => ?_) fuel (0 : Int32) h12
          refine j_iload C dX7_grows_59 5 rfl ?_
          refine j_aload_n C dX7_grows_61 0 rfl rfl ?_
          refine j_getR C wfl_X7_23 dX7_grows_62 (fun a18 => ?_)
          refine j_bipush C (50 : Int32) dX7_grows_65 (by decide) ?_
          refine j_iaload C dX7_grows_67 (fun x19 => ?_)
          refine j_icmp_ge C 122 dX7_grows_68 (by decide) (fun c20 => ?_) (fun c20 => ?_)
          · refine j_aload_n C dX7_grows_122 0 rfl rfl ?_
            refine j_cI (st := []) (fun x e => ⟨runsV C wml_X7_159 wce_X7_mostOf (c_X7_mostOf (bL B) (bD B) _ _ x e).1 rfl rfl rfl rfl rfl dX7_grows_123, (c_X7_mostOf (bL B) (bD B) _ _ x e).2⟩) (fun x21 h22 => ?_)
            refine j_istore (lv' := [(5, .int x21), (0, .ref a0), (1, .int p1), (2, .int i5), (3, .int i6), (4, .int i7)]) C dX7_grows_126 rfl rfl ?_
            refine j_iload C dX7_grows_128 0 rfl ?_
            refine j_iload_n C dX7_grows_130 4 rfl rfl ?_
            refine J.jn1 140 (fun (w23 : Int32) => h22) (fun (w23 : Int32) => [(0, .ref a0), (1, .int p1), (3, .int i6), (4, .int i7), (5, .int x21)]) (fun (w23 : Int32) => [.int w23]) (fun w23 => ?_) (fun k24 hk24 => ?_)
            · refine j_istore_n (lv' := [(2, .int w23), (0, .ref a0), (1, .int p1), (3, .int i6), (4, .int i7), (5, .int x21)]) C dX7_grows_140 rfl rfl rfl ?_
              refine j_iload C dX7_grows_141 5 rfl ?_
              refine j_iload_n C dX7_grows_143 3 rfl rfl ?_
              refine J.jn1 153 (fun (w25 : Int32) => h22) (fun (w25 : Int32) => [(0, .ref a0), (1, .int p1), (2, .int w23), (4, .int i7)]) (fun (w25 : Int32) => [.int w25]) (fun w25 => ?_) (fun k26 hk26 => ?_)
              · refine j_istore_n (lv' := [(3, .int w25), (0, .ref a0), (1, .int p1), (2, .int w23), (4, .int i7)]) C dX7_grows_153 rfl rfl rfl ?_
                refine j_iinc (lv' := [(4, .int (i7 + (1 : Int32))), (3, .int w25), (0, .ref a0), (1, .int p1), (2, .int w23)]) C (1 : Int32) dX7_grows_154 4 rfl (by decide) rfl rfl ?_
                refine j_goto C 27 dX7_grows_157 (by decide) ?_
                refine J.sub (lv' := [(0, .ref a0), (1, .int p1), (2, .int w23), (3, .int w25), (4, .int (i7 + (1 : Int32)))]) [2, 3, 4, 1, 0] rfl ?_
                exact hr9 w23 w25 (i7 + (1 : Int32)) h22
              refine j_icmp_le C 152 dX7_grows_144 (by decide) (fun c27 => ?_) (fun c27 => ?_)
              · refine j_iload_n C dX7_grows_152 3 rfl rfl ?_
                refine J.sub (lv' := [(0, .ref a0), (1, .int p1), (2, .int w23), (4, .int i7)]) [1, 2, 0, 4] rfl ?_
                exact hk26 i6
              · refine j_iload C dX7_grows_147 5 rfl ?_
                refine j_goto C 153 dX7_grows_149 (by decide) ?_
                refine J.sub (lv' := [(0, .ref a0), (1, .int p1), (2, .int w23), (4, .int i7)]) [1, 2, 0, 4] rfl ?_
                exact hk26 x21
            refine j_icmp_le C 139 dX7_grows_131 (by decide) (fun c28 => ?_) (fun c28 => ?_)
            · refine j_iload_n C dX7_grows_139 3 rfl rfl ?_
              refine J.sub (lv' := [(0, .ref a0), (1, .int p1), (3, .int i6), (4, .int i7), (5, .int x21)]) [1, 2, 4, 5, 0] rfl ?_
              exact hk24 i5
            · refine j_iload C dX7_grows_134 5 rfl ?_
              refine j_goto C 140 dX7_grows_136 (by decide) ?_
              refine J.sub (lv' := [(0, .ref a0), (1, .int p1), (3, .int i6), (4, .int i7), (5, .int x21)]) [1, 2, 4, 5, 0] rfl ?_
              exact hk24 i7
          · refine j_aload_n C dX7_grows_71 0 rfl rfl ?_
            refine j_getR C wfl_X7_45 dX7_grows_72 (fun a29 => ?_)
            refine j_aload_n C dX7_grows_75 0 rfl rfl ?_
            refine j_iload C dX7_grows_76 5 rfl ?_
            refine j_iconst C (2 : Int32) dX7_grows_78 (by decide) ?_
            refine j_cIp (st := [.ref a29]) (fun x e => ⟨runsV C wml_X7_114 wce_X7_of (c_X7_of (bL B) (bD B) _ _ _ _ x e).1 rfl rfl rfl rfl rfl dX7_grows_79, (c_X7_of (bL B) (bD B) _ _ _ _ x e).2⟩) (fun x30 => ?_)
            refine j_iload_n C dX7_grows_82 1 rfl rfl ?_
            refine J.jn1 98 (fun (w31 : Int32) => h16) (fun (w31 : Int32) => [(0, .ref a0), (1, .int p1), (2, .int i5), (3, .int i6), (4, .int i7), (5, .int i15)]) (fun (w31 : Int32) => [.int w31, .ref a29]) (fun w31 => ?_) (fun k32 hk32 => ?_)
            · refine j_dup2 C dX7_grows_98 rfl rfl ?_
              refine j_iaload C dX7_grows_99 (fun x33 => ?_)
              refine j_aload_n C dX7_grows_100 0 rfl rfl ?_
              refine j_iload C dX7_grows_101 5 rfl ?_
              refine j_cIp (st := [.int x33, .int w31, .ref a29]) (fun x e => ⟨runsV C wml_X7_125 wce_X7_isWaiting (c_X7_isWaiting (bL B) (bD B) _ _ _ x e).1 rfl rfl rfl rfl rfl dX7_grows_103, (c_X7_isWaiting (bL B) (bD B) _ _ _ x e).2⟩) (fun x34 => ?_)
              refine J.jn1 114 (fun (w35 : Int32) => h16) (fun (w35 : Int32) => [(0, .ref a0), (1, .int p1), (2, .int i5), (3, .int i6), (4, .int i7), (5, .int i15)]) (fun (w35 : Int32) => [.int w35, .int x33, .int w31, .ref a29]) (fun w35 => ?_) (fun k36 hk36 => ?_)
              · refine j_iadd C dX7_grows_114 ?_
                refine j_iastore C dX7_grows_115 (fun h37 => ?_)
                refine j_iinc (lv' := [(5, .int (i15 + (1 : Int32))), (0, .ref a0), (1, .int p1), (2, .int i5), (3, .int i6), (4, .int i7)]) C (1 : Int32) dX7_grows_116 5 rfl (by decide) rfl rfl ?_
                refine j_goto C 59 dX7_grows_119 (by decide) ?_
                refine J.sub (lv' := [(0, .ref a0), (1, .int p1), (2, .int i5), (3, .int i6), (4, .int i7), (5, .int (i15 + (1 : Int32)))]) [1, 2, 3, 4, 5, 0] rfl ?_
                exact hr17 (i15 + (1 : Int32)) h37
              refine j_if_eq C 113 dX7_grows_106 (by decide) (fun c38 => ?_) (fun c38 => ?_)
              · refine j_iconst C (0 : Int32) dX7_grows_113 (by decide) ?_
                exact hk36 (0 : Int32)
              · refine j_iconst C (1 : Int32) dX7_grows_109 (by decide) ?_
                refine j_goto C 114 dX7_grows_110 (by decide) ?_
                exact hk36 (1 : Int32)
            refine j_icmp_ne C 91 dX7_grows_83 (by decide) (fun c39 => ?_) (fun c39 => ?_)
            · refine j_aload_n C dX7_grows_91 0 rfl rfl ?_
              refine j_iload C dX7_grows_92 5 rfl ?_
              refine j_iconst C (0 : Int32) dX7_grows_94 (by decide) ?_
              refine j_cIp (st := [.ref a29]) (fun x e => ⟨runsV C wml_X7_114 wce_X7_of (c_X7_of (bL B) (bD B) _ _ _ _ x e).1 rfl rfl rfl rfl rfl dX7_grows_95, (c_X7_of (bL B) (bD B) _ _ _ _ x e).2⟩) (fun x40 => ?_)
              exact hk32 x40
            · refine j_iload C dX7_grows_86 4 rfl ?_
              refine j_goto C 98 dX7_grows_88 (by decide) ?_
              exact hk32 i7
        · refine j_aload_n C dX7_grows_42 0 rfl rfl ?_
          refine j_getR C wfl_X7_45 dX7_grows_43 (fun a41 => ?_)
          refine j_iload C dX7_grows_46 5 rfl ?_
          refine j_iconst C (0 : Int32) dX7_grows_48 (by decide) ?_
          refine j_iastore C dX7_grows_49 (fun h42 => ?_)
          refine j_iinc (lv' := [(5, .int (i11 + (1 : Int32))), (0, .ref a0), (1, .int p1), (2, .int i5), (3, .int i6), (4, .int i7)]) C (1 : Int32) dX7_grows_50 5 rfl (by decide) rfl rfl ?_
          refine j_goto C 36 dX7_grows_53 (by decide) ?_
          refine J.sub (lv' := [(0, .ref a0), (1, .int p1), (2, .int i5), (3, .int i6), (4, .int i7), (5, .int (i11 + (1 : Int32)))]) [1, 2, 3, 4, 5, 0] rfl ?_
          exact hr13 (i11 + (1 : Int32)) h42
    · refine j_bipush C (-4 : Int32) dX7_grows_17 (by decide) ?_
      exact j_iret C dX7_grows_19
  · refine j_iconst C (-1 : Int32) dX7_grows_7 (by decide) ?_
    exact j_iret C dX7_grows_8
def f_X7_isSack (a0 : Nat) (p1 : Int32) (h : Hp) : Option Int32 :=
  bnd (gO h a0 7) fun _ => bnd (gR h a0 7 6) fun a1 => bnd (ldI 0 h a1 (50 : Int32)) fun x2 => bnd (f_X7_in p1.toInt64 (0 : Int64) ((x2 - (1 : Int32)).toInt64)) fun x3 => rZp x3
set_option maxHeartbeats 4000000 in
set_option maxRecDepth 100000 in
theorem c_X7_isSack (l : Launch) (D : hD) (a0 : Nat) (p1 : Int32) (h : Hp) (x : Int32) (e : f_X7_isSack a0 p1 h = some x) : (∃ fs, gO h a0 7 = some fs) ∧ Ct l D yX7_isSack cX7_isSack 2 (some .boolean) 1 25 [.ref a0, .int p1] h (some (.int x)) h := by
  obtain ⟨fs, g1, g2⟩ := bnd_some e
  refine ⟨⟨fs, g1⟩, ?_⟩
  refine ct_of (out := (oIp h)) g2 (by decide +kernel) rfl (fun B C hin hl hd => ?_)
  subst hl; subst hd
  show J B _ _ h 0 [(0, .ref a0), (1, .int p1)] []
  refine j_iload_n C dX7_isSack_0 1 rfl rfl ?_
  refine j_i2l C dX7_isSack_1 ?_
  refine j_lconst C (0 : Int64) dX7_isSack_2 (by decide) ?_
  refine j_aload_n C dX7_isSack_3 0 rfl rfl ?_
  refine j_getR C wfl_X7_23 dX7_isSack_4 (fun a1 => ?_)
  refine j_bipush C (50 : Int32) dX7_isSack_7 (by decide) ?_
  refine j_iaload C dX7_isSack_9 (fun x2 => ?_)
  refine j_iconst C (1 : Int32) dX7_isSack_10 (by decide) ?_
  refine j_isub C dX7_isSack_11 ?_
  refine j_i2l C dX7_isSack_12 ?_
  refine j_cIp (st := []) (fun x e => ⟨runsS C wml_X7_69 wce_X7_in rfl rfl rfl rfl rfl dX7_isSack_13, c_X7_in (bL B) (bD B) _ _ _ _ x e⟩) (fun x3 => ?_)
  exact j_zretp C dX7_isSack_16
def f_X7_known (a0 : Nat) (h : Hp) : Option Hp :=
  bnd (gO h a0 7) fun _ => bnd (gI h a0 7 8) fun x1 => jn1 (fun (h2 : Hp) => bnd (gI h2 a0 7 8) fun x4 => bnd (f_X7_copies a0 (0 : Int32) ((3 : Int32) + x4) h2) fun h5 => bnd (gI h5 a0 7 8) fun x6 => bnd (pF h5 a0 7 8 (.int (x6 + (1 : Int32)))) fun h7 => some h7) fun k3 => if x1 = (8 : Int32) then (wl2 (fun r11 (i9 : Int32) (h10 : Hp) => if (10 : Int32) ≤ i9 then (bnd (gI h10 a0 7 8) fun x13 => bnd (pF h10 a0 7 8 (.int (x13 - (1 : Int32)))) fun h14 => k3 h14) else (bnd (f_X7_copies a0 (i9 + (1 : Int32)) i9 h10) fun h15 => r11 (i9 + (1 : Int32)) h15)) fuel (3 : Int32) h) else (k3 h)
set_option maxHeartbeats 4000000 in
set_option maxRecDepth 100000 in
theorem c_X7_known (l : Launch) (D : hD) (a0 : Nat) (h : Hp) (x : Hp) (e : f_X7_known a0 h = some x) : (∃ fs, gO h a0 7 = some fs) ∧ Ct l D yX7_known cX7_known 2 none 1 23 [.ref a0] h none x := by
  obtain ⟨fs, g1, g2⟩ := bnd_some e
  refine ⟨⟨fs, g1⟩, ?_⟩
  refine ct_of (out := oV) g2 (by decide +kernel) rfl (fun B C hin hl hd => ?_)
  subst hl; subst hd
  show J B _ _ h 0 [(0, .ref a0)] []
  refine j_aload_n C dX7_known_0 0 rfl rfl ?_
  refine j_getI C wfl_X7_101 dX7_known_1 (fun x1 => ?_)
  refine j_bipush C (8 : Int32) dX7_known_4 (by decide) ?_
  refine J.jn1 41 (fun (h2 : Hp) => h2) (fun (h2 : Hp) => [(0, .ref a0)]) (fun (h2 : Hp) => []) (fun h2 => ?_) (fun k3 hk3 => ?_)
  · refine j_aload_n C dX7_known_41 0 rfl rfl ?_
    refine j_iconst C (0 : Int32) dX7_known_42 (by decide) ?_
    refine j_iconst C (3 : Int32) dX7_known_43 (by decide) ?_
    refine j_aload_n C dX7_known_44 0 rfl rfl ?_
    refine j_getI C wfl_X7_101 dX7_known_45 (fun x4 => ?_)
    refine j_iadd C dX7_known_48 ?_
    refine j_cV (st := []) (fun x e => ⟨runsV C wml_X7_131 wce_X7_copies (c_X7_copies (bL B) (bD B) _ _ _ _ x e).1 rfl rfl rfl rfl rfl dX7_known_49, (c_X7_copies (bL B) (bD B) _ _ _ _ x e).2⟩) (fun h5 => ?_)
    refine j_aload_n C dX7_known_52 0 rfl rfl ?_
    refine j_dup C dX7_known_53 (fun _ => rfl) ?_
    refine j_getI C wfl_X7_101 dX7_known_54 (fun x6 => ?_)
    refine j_iconst C (1 : Int32) dX7_known_57 (by decide) ?_
    refine j_iadd C dX7_known_58 ?_
    refine j_put C wfp_X7_101 dX7_known_59 ⟨_, rfl⟩ (fun h7 => ?_)
    exact j_vret C dX7_known_62
  refine j_icmp_ne C 41 dX7_known_6 (by decide) (fun c8 => ?_) (fun c8 => ?_)
  · exact hk3 h
  · refine j_iconst C (3 : Int32) dX7_known_9 (by decide) ?_
    refine j_istore_n (lv' := [(1, .int (3 : Int32)), (0, .ref a0)]) C dX7_known_10 rfl rfl rfl ?_
    refine J.sub (lv' := [(0, .ref a0), (1, .int (3 : Int32))]) [1, 0] rfl ?_
    refine J.wl2 11 (fun (i9 : Int32) (h10 : Hp) => h10) (fun (i9 : Int32) (h10 : Hp) => [(0, .ref a0), (1, .int i9)]) (fun (i9 : Int32) (h10 : Hp) => []) (fun r11 hr11 i9 h10 => ?_) fuel (3 : Int32) h
    refine j_iload_n C dX7_known_11 1 rfl rfl ?_
    refine j_bipush C (10 : Int32) dX7_known_12 (by decide) ?_
    refine j_icmp_ge C 31 dX7_known_14 (by decide) (fun c12 => ?_) (fun c12 => ?_)
    · refine j_aload_n C dX7_known_31 0 rfl rfl ?_
      refine j_dup C dX7_known_32 (fun _ => rfl) ?_
      refine j_getI C wfl_X7_101 dX7_known_33 (fun x13 => ?_)
      refine j_iconst C (1 : Int32) dX7_known_36 (by decide) ?_
      refine j_isub C dX7_known_37 ?_
      refine j_put C wfp_X7_101 dX7_known_38 ⟨_, rfl⟩ (fun h14 => ?_)
      refine J.sub (lv' := [(0, .ref a0)]) [0] rfl ?_
      exact hk3 h14
    · refine j_aload_n C dX7_known_17 0 rfl rfl ?_
      refine j_iload_n C dX7_known_18 1 rfl rfl ?_
      refine j_iconst C (1 : Int32) dX7_known_19 (by decide) ?_
      refine j_iadd C dX7_known_20 ?_
      refine j_iload_n C dX7_known_21 1 rfl rfl ?_
      refine j_cV (st := []) (fun x e => ⟨runsV C wml_X7_131 wce_X7_copies (c_X7_copies (bL B) (bD B) _ _ _ _ x e).1 rfl rfl rfl rfl rfl dX7_known_22, (c_X7_copies (bL B) (bD B) _ _ _ _ x e).2⟩) (fun h15 => ?_)
      refine j_iinc (lv' := [(1, .int (i9 + (1 : Int32))), (0, .ref a0)]) C (1 : Int32) dX7_known_25 1 rfl (by decide) rfl rfl ?_
      refine j_goto C 11 dX7_known_28 (by decide) ?_
      refine J.sub (lv' := [(0, .ref a0), (1, .int (i9 + (1 : Int32)))]) [1, 0] rfl ?_
      exact hr11 (i9 + (1 : Int32)) h15
def f_X7_halve (a0 : Nat) (p1 : Int32) (p2 : Int32) (h : Hp) : Option (Int32 × Hp) :=
  bnd (gO h a0 7) fun _ => bnd (f_X7_isSack a0 p1 h) fun x1 => jn0 (some ((-1 : Int32), h)) fun k2 => if x1 = 0 then k2 else (bnd (f_X7_in p2.toInt64 (1 : Int64) (8 : Int64)) fun x4 => if x4 = 0 then k2 else (bnd (f_X7_isWaiting a0 p1 h) fun x6 => jn0 (some ((-2 : Int32), h)) fun k7 => if x6 = 0 then k7 else (bnd (f_X7_of a0 p1 (1 : Int32) h) fun x9 => if p2 < x9 then (bnd (gR h a0 7 6) fun a11 => bnd (ldI 0 h a11 (50 : Int32)) fun x12 => if x12 = (10 : Int32) then (some ((-3 : Int32), h)) else (bnd (f_X7_known a0 h) fun h14 => wl2 (fun r17 (i15 : Int32) (h16 : Hp) => if (5 : Int32) ≤ i15 then (bnd (gR h16 a0 7 6) fun a19 => bnd (stI 0 h16 a19 (((5 : Int32) * x12) + (1 : Int32)) p2) fun h20 => bnd (gR h20 a0 7 6) fun a21 => bnd (ldI 0 h20 a21 (((5 : Int32) * p1) + (1 : Int32))) fun x22 => bnd (stI 0 h20 a21 (((5 : Int32) * p1) + (1 : Int32)) (x22 - p2)) fun h23 => bnd (gR h23 a0 7 6) fun a24 => bnd (ldI 0 h23 a24 (50 : Int32)) fun x25 => bnd (stI 0 h23 a24 (50 : Int32) (x25 + (1 : Int32))) fun h26 => bnd (gR h26 a0 7 6) fun a27 => bnd (ldI 0 h26 a27 (54 : Int32)) fun x28 => bnd (gR h26 a0 7 3) fun a29 => bnd (ldI 0 h26 a29 (1 : Int32)) fun x30 => bnd (stI 0 h26 a27 (54 : Int32) (x28 + x30)) fun h31 => some (x12, h31)) else (bnd (gR h16 a0 7 6) fun a32 => bnd (f_X7_of a0 p1 i15 h16) fun x33 => bnd (stI 0 h16 a32 (((5 : Int32) * x12) + i15) x33) fun h34 => r17 (i15 + (1 : Int32)) h34)) fuel (0 : Int32) h14)) else k7)))
set_option maxHeartbeats 4000000 in
set_option maxRecDepth 100000 in
theorem c_X7_halve (l : Launch) (D : hD) (a0 : Nat) (p1 : Int32) (p2 : Int32) (h : Hp) (x : (Int32 × Hp)) (e : f_X7_halve a0 p1 p2 h = some x) : (∃ fs, gO h a0 7 = some fs) ∧ Ct l D yX7_halve cX7_halve 5 (some .int) 2 46 [.ref a0, .int p1, .int p2] h (some (.int x.1)) x.2 := by
  obtain ⟨fs, g1, g2⟩ := bnd_some e
  refine ⟨⟨fs, g1⟩, ?_⟩
  refine ct_of (out := oI) g2 (by decide +kernel) rfl (fun B C hin hl hd => ?_)
  subst hl; subst hd
  show J B _ _ h 0 [(0, .ref a0), (1, .int p1), (2, .int p2)] []
  refine j_aload_n C dX7_halve_0 0 rfl rfl ?_
  refine j_iload_n C dX7_halve_1 1 rfl rfl ?_
  refine j_cIp (st := []) (fun x e => ⟨runsV C wml_X7_118 wce_X7_isSack (c_X7_isSack (bL B) (bD B) _ _ _ x e).1 rfl rfl rfl rfl rfl dX7_halve_2, (c_X7_isSack (bL B) (bD B) _ _ _ x e).2⟩) (fun x1 => ?_)
  refine J.jn0 (h0 := h) (lv0 := []) (st0 := []) 20 ?_ (fun k2 hk2 => ?_)
  · refine j_iconst C (-1 : Int32) dX7_halve_20 (by decide) ?_
    exact j_iret C dX7_halve_21
  refine j_if_eq C 20 dX7_halve_5 (by decide) (fun c3 => ?_) (fun c3 => ?_)
  · refine J.sub (lv' := []) [] rfl ?_
    exact hk2
  · refine j_iload_n C dX7_halve_8 2 rfl rfl ?_
    refine j_i2l C dX7_halve_9 ?_
    refine j_lconst C (1 : Int64) dX7_halve_10 (by decide) ?_
    refine j_ldc2_w C dX7_halve_11 wcl_X7_67 ?_
    refine j_cIp (st := []) (fun x e => ⟨runsS C wml_X7_69 wce_X7_in rfl rfl rfl rfl rfl dX7_halve_14, c_X7_in (bL B) (bD B) _ _ _ _ x e⟩) (fun x4 => ?_)
    refine j_if_ne C 22 dX7_halve_17 (by decide) (fun c5 => ?_) (fun c5 => ?_)
    · refine j_aload_n C dX7_halve_22 0 rfl rfl ?_
      refine j_iload_n C dX7_halve_23 1 rfl rfl ?_
      refine j_cIp (st := []) (fun x e => ⟨runsV C wml_X7_125 wce_X7_isWaiting (c_X7_isWaiting (bL B) (bD B) _ _ _ x e).1 rfl rfl rfl rfl rfl dX7_halve_24, (c_X7_isWaiting (bL B) (bD B) _ _ _ x e).2⟩) (fun x6 => ?_)
      refine J.jn0 (h0 := h) (lv0 := []) (st0 := []) 40 ?_ (fun k7 hk7 => ?_)
      · refine j_bipush C (-2 : Int32) dX7_halve_40 (by decide) ?_
        exact j_iret C dX7_halve_42
      refine j_if_eq C 40 dX7_halve_27 (by decide) (fun c8 => ?_) (fun c8 => ?_)
      · refine J.sub (lv' := []) [] rfl ?_
        exact hk7
      · refine j_aload_n C dX7_halve_30 0 rfl rfl ?_
        refine j_iload_n C dX7_halve_31 1 rfl rfl ?_
        refine j_iconst C (1 : Int32) dX7_halve_32 (by decide) ?_
        refine j_cIp (st := []) (fun x e => ⟨runsV C wml_X7_114 wce_X7_of (c_X7_of (bL B) (bD B) _ _ _ _ x e).1 rfl rfl rfl rfl rfl dX7_halve_33, (c_X7_of (bL B) (bD B) _ _ _ _ x e).2⟩) (fun x9 => ?_)
        refine j_iload_n C dX7_halve_36 2 rfl rfl ?_
        refine j_icmp_gt C 43 dX7_halve_37 (by decide) (fun c10 => ?_) (fun c10 => ?_)
        · refine j_aload_n C dX7_halve_43 0 rfl rfl ?_
          refine j_getR C wfl_X7_23 dX7_halve_44 (fun a11 => ?_)
          refine j_bipush C (50 : Int32) dX7_halve_47 (by decide) ?_
          refine j_iaload C dX7_halve_49 (fun x12 => ?_)
          refine j_istore_n (lv' := [(3, .int x12), (0, .ref a0), (1, .int p1), (2, .int p2)]) C dX7_halve_50 rfl rfl rfl ?_
          refine j_iload_n C dX7_halve_51 0 rfl rfl ?_
          refine j_bipush C (10 : Int32) dX7_halve_52 (by decide) ?_
          refine j_icmp_ne C 60 dX7_halve_54 (by decide) (fun c13 => ?_) (fun c13 => ?_)
          · refine j_aload_n C dX7_halve_60 1 rfl rfl ?_
            refine j_cV (st := []) (fun x e => ⟨runsV C wml_X7_135 wce_X7_known (c_X7_known (bL B) (bD B) _ _ x e).1 rfl rfl rfl rfl rfl dX7_halve_61, (c_X7_known (bL B) (bD B) _ _ x e).2⟩) (fun h14 => ?_)
            refine j_iconst C (0 : Int32) dX7_halve_64 (by decide) ?_
            refine j_istore (lv' := [(4, .int (0 : Int32)), (3, .int x12), (0, .ref a0), (1, .int p1), (2, .int p2)]) C dX7_halve_65 rfl rfl ?_
            refine J.sub (lv' := [(0, .ref a0), (1, .int p1), (2, .int p2), (3, .int x12), (4, .int (0 : Int32))]) [2, 3, 4, 1, 0] rfl ?_
            refine J.wl2 67 (fun (i15 : Int32) (h16 : Hp) => h16) (fun (i15 : Int32) (h16 : Hp) => [(0, .ref a0), (1, .int p1), (2, .int p2), (3, .int x12), (4, .int i15)]) (fun (i15 : Int32) (h16 : Hp) => []) (fun r17 hr17 i15 h16 => ?_) fuel (0 : Int32) h14
            refine j_iload C dX7_halve_67 4 rfl ?_
            refine j_iconst C (5 : Int32) dX7_halve_69 (by decide) ?_
            refine j_icmp_ge C 97 dX7_halve_70 (by decide) (fun c18 => ?_) (fun c18 => ?_)
            · refine j_aload_n C dX7_halve_97 0 rfl rfl ?_
              refine j_getR C wfl_X7_23 dX7_halve_98 (fun a19 => ?_)
              refine j_iconst C (5 : Int32) dX7_halve_101 (by decide) ?_
              refine j_iload_n C dX7_halve_102 3 rfl rfl ?_
              refine j_imul C dX7_halve_103 ?_
              refine j_iconst C (1 : Int32) dX7_halve_104 (by decide) ?_
              refine j_iadd C dX7_halve_105 ?_
              refine j_iload_n C dX7_halve_106 2 rfl rfl ?_
              refine j_iastore C dX7_halve_107 (fun h20 => ?_)
              refine j_aload_n C dX7_halve_108 0 rfl rfl ?_
              refine j_getR C wfl_X7_23 dX7_halve_109 (fun a21 => ?_)
              refine j_iconst C (5 : Int32) dX7_halve_112 (by decide) ?_
              refine j_iload_n C dX7_halve_113 1 rfl rfl ?_
              refine j_imul C dX7_halve_114 ?_
              refine j_iconst C (1 : Int32) dX7_halve_115 (by decide) ?_
              refine j_iadd C dX7_halve_116 ?_
              refine j_dup2 C dX7_halve_117 rfl rfl ?_
              refine j_iaload C dX7_halve_118 (fun x22 => ?_)
              refine j_iload_n C dX7_halve_119 2 rfl rfl ?_
              refine j_isub C dX7_halve_120 ?_
              refine j_iastore C dX7_halve_121 (fun h23 => ?_)
              refine j_aload_n C dX7_halve_122 0 rfl rfl ?_
              refine j_getR C wfl_X7_23 dX7_halve_123 (fun a24 => ?_)
              refine j_bipush C (50 : Int32) dX7_halve_126 (by decide) ?_
              refine j_dup2 C dX7_halve_128 rfl rfl ?_
              refine j_iaload C dX7_halve_129 (fun x25 => ?_)
              refine j_iconst C (1 : Int32) dX7_halve_130 (by decide) ?_
              refine j_iadd C dX7_halve_131 ?_
              refine j_iastore C dX7_halve_132 (fun h26 => ?_)
              refine j_aload_n C dX7_halve_133 0 rfl rfl ?_
              refine j_getR C wfl_X7_23 dX7_halve_134 (fun a27 => ?_)
              refine j_bipush C (54 : Int32) dX7_halve_137 (by decide) ?_
              refine j_dup2 C dX7_halve_139 rfl rfl ?_
              refine j_iaload C dX7_halve_140 (fun x28 => ?_)
              refine j_aload_n C dX7_halve_141 0 rfl rfl ?_
              refine j_getR C wfl_X7_13 dX7_halve_142 (fun a29 => ?_)
              refine j_iconst C (1 : Int32) dX7_halve_145 (by decide) ?_
              refine j_iaload C dX7_halve_146 (fun x30 => ?_)
              refine j_iadd C dX7_halve_147 ?_
              refine j_iastore C dX7_halve_148 (fun h31 => ?_)
              refine j_iload_n C dX7_halve_149 3 rfl rfl ?_
              exact j_iret C dX7_halve_150
            · refine j_aload_n C dX7_halve_73 0 rfl rfl ?_
              refine j_getR C wfl_X7_23 dX7_halve_74 (fun a32 => ?_)
              refine j_iconst C (5 : Int32) dX7_halve_77 (by decide) ?_
              refine j_iload_n C dX7_halve_78 3 rfl rfl ?_
              refine j_imul C dX7_halve_79 ?_
              refine j_iload C dX7_halve_80 4 rfl ?_
              refine j_iadd C dX7_halve_82 ?_
              refine j_aload_n C dX7_halve_83 0 rfl rfl ?_
              refine j_iload_n C dX7_halve_84 1 rfl rfl ?_
              refine j_iload C dX7_halve_85 4 rfl ?_
              refine j_cIp (st := [.int (((5 : Int32) * x12) + i15), .ref a32]) (fun x e => ⟨runsV C wml_X7_114 wce_X7_of (c_X7_of (bL B) (bD B) _ _ _ _ x e).1 rfl rfl rfl rfl rfl dX7_halve_87, (c_X7_of (bL B) (bD B) _ _ _ _ x e).2⟩) (fun x33 => ?_)
              refine j_iastore C dX7_halve_90 (fun h34 => ?_)
              refine j_iinc (lv' := [(4, .int (i15 + (1 : Int32))), (0, .ref a0), (1, .int p1), (2, .int p2), (3, .int x12)]) C (1 : Int32) dX7_halve_91 4 rfl (by decide) rfl rfl ?_
              refine j_goto C 67 dX7_halve_94 (by decide) ?_
              refine J.sub (lv' := [(0, .ref a0), (1, .int p1), (2, .int p2), (3, .int x12), (4, .int (i15 + (1 : Int32)))]) [1, 2, 3, 4, 0] rfl ?_
              exact hr17 (i15 + (1 : Int32)) h34
          · refine j_bipush C (-3 : Int32) dX7_halve_57 (by decide) ?_
            exact j_iret C dX7_halve_59
        · refine J.sub (lv' := []) [] rfl ?_
          exact hk7
    · refine J.sub (lv' := []) [] rfl ?_
      exact hk2
def f_X7_counts (a0 : Nat) (h : Hp) : Option Hp :=
  bnd (gO h a0 7) fun _ => wl2 (fun r3 (i1 : Int32) (h2 : Hp) => if (5 : Int32) ≤ i1 then (wl2 (fun r7 (i5 : Int32) (h6 : Hp) => bnd (gR h6 a0 7 6) fun a8 => bnd (ldI 0 h6 a8 (50 : Int32)) fun x9 => if x9 ≤ i5 then (some h6) else (bnd (gR h6 a0 7 17) fun a11 => bnd (f_X7_of a0 i5 (0 : Int32) h6) fun x12 => bnd (ldI 0 h6 a11 x12) fun x13 => bnd (f_X7_isWaiting a0 i5 h6) fun x14 => jn1 (fun (w15 : Int32) => bnd (stI 0 h6 a11 x12 (x13 + w15)) fun h17 => r7 (i5 + (1 : Int32)) h17) fun k16 => if x14 = 0 then (k16 (0 : Int32)) else (k16 (1 : Int32)))) fuel (0 : Int32) h2) else (bnd (gR h2 a0 7 17) fun a19 => bnd (stI 0 h2 a19 i1 (0 : Int32)) fun h20 => r3 (i1 + (1 : Int32)) h20)) fuel (0 : Int32) h
set_option maxHeartbeats 4000000 in
set_option maxRecDepth 100000 in
theorem c_X7_counts (l : Launch) (D : hD) (a0 : Nat) (h : Hp) (x : Hp) (e : f_X7_counts a0 h = some x) : (∃ fs, gO h a0 7 = some fs) ∧ Ct l D yX7_counts cX7_counts 2 none 2 43 [.ref a0] h none x := by
  obtain ⟨fs, g1, g2⟩ := bnd_some e
  refine ⟨⟨fs, g1⟩, ?_⟩
  refine ct_of (out := oV) g2 (by decide +kernel) rfl (fun B C hin hl hd => ?_)
  subst hl; subst hd
  show J B _ _ h 0 [(0, .ref a0)] []
  refine j_iconst C (0 : Int32) dX7_counts_0 (by decide) ?_
  refine j_istore_n (lv' := [(1, .int (0 : Int32)), (0, .ref a0)]) C dX7_counts_1 rfl rfl rfl ?_
  refine J.sub (lv' := [(0, .ref a0), (1, .int (0 : Int32))]) [1, 0] rfl ?_
  refine J.wl2 2 (fun (i1 : Int32) (h2 : Hp) => h2) (fun (i1 : Int32) (h2 : Hp) => [(0, .ref a0), (1, .int i1)]) (fun (i1 : Int32) (h2 : Hp) => []) (fun r3 hr3 i1 h2 => ?_) fuel (0 : Int32) h
  refine j_iload_n C dX7_counts_2 1 rfl rfl ?_
  refine j_iconst C (5 : Int32) dX7_counts_3 (by decide) ?_
  refine j_icmp_ge C 20 dX7_counts_4 (by decide) (fun c4 => ?_) (fun c4 => ?_)
  · refine j_iconst C (0 : Int32) dX7_counts_20 (by decide) ?_
    refine j_istore_n (lv' := [(1, .int (0 : Int32)), (0, .ref a0)]) C dX7_counts_21 rfl rfl rfl ?_
    refine J.sub (lv' := [(0, .ref a0), (1, .int (0 : Int32))]) [1, 0] rfl ?_
    refine J.wl2 22 (fun (i5 : Int32) (h6 : Hp) => h6) (fun (i5 : Int32) (h6 : Hp) => [(0, .ref a0), (1, .int i5)]) (fun (i5 : Int32) (h6 : Hp) => []) (fun r7 hr7 i5 h6 => ?_) fuel (0 : Int32) h2
    refine j_iload_n C dX7_counts_22 1 rfl rfl ?_
    refine j_aload_n C dX7_counts_23 0 rfl rfl ?_
    refine j_getR C wfl_X7_23 dX7_counts_24 (fun a8 => ?_)
    refine j_bipush C (50 : Int32) dX7_counts_27 (by decide) ?_
    refine j_iaload C dX7_counts_29 (fun x9 => ?_)
    refine j_icmp_ge C 66 dX7_counts_30 (by decide) (fun c10 => ?_) (fun c10 => ?_)
    · exact j_vret C dX7_counts_66
    · refine j_aload_n C dX7_counts_33 0 rfl rfl ?_
      refine j_getR C wfl_X7_45 dX7_counts_34 (fun a11 => ?_)
      refine j_aload_n C dX7_counts_37 0 rfl rfl ?_
      refine j_iload_n C dX7_counts_38 1 rfl rfl ?_
      refine j_iconst C (0 : Int32) dX7_counts_39 (by decide) ?_
      refine j_cIp (st := [.ref a11]) (fun x e => ⟨runsV C wml_X7_114 wce_X7_of (c_X7_of (bL B) (bD B) _ _ _ _ x e).1 rfl rfl rfl rfl rfl dX7_counts_40, (c_X7_of (bL B) (bD B) _ _ _ _ x e).2⟩) (fun x12 => ?_)
      refine j_dup2 C dX7_counts_43 rfl rfl ?_
      refine j_iaload C dX7_counts_44 (fun x13 => ?_)
      refine j_aload_n C dX7_counts_45 0 rfl rfl ?_
      refine j_iload_n C dX7_counts_46 1 rfl rfl ?_
      refine j_cIp (st := [.int x13, .int x12, .ref a11]) (fun x e => ⟨runsV C wml_X7_125 wce_X7_isWaiting (c_X7_isWaiting (bL B) (bD B) _ _ _ x e).1 rfl rfl rfl rfl rfl dX7_counts_47, (c_X7_isWaiting (bL B) (bD B) _ _ _ x e).2⟩) (fun x14 => ?_)
      refine J.jn1 58 (fun (w15 : Int32) => h6) (fun (w15 : Int32) => [(0, .ref a0), (1, .int i5)]) (fun (w15 : Int32) => [.int w15, .int x13, .int x12, .ref a11]) (fun w15 => ?_) (fun k16 hk16 => ?_)
      · refine j_iadd C dX7_counts_58 ?_
        refine j_iastore C dX7_counts_59 (fun h17 => ?_)
        refine j_iinc (lv' := [(1, .int (i5 + (1 : Int32))), (0, .ref a0)]) C (1 : Int32) dX7_counts_60 1 rfl (by decide) rfl rfl ?_
        refine j_goto C 22 dX7_counts_63 (by decide) ?_
        refine J.sub (lv' := [(0, .ref a0), (1, .int (i5 + (1 : Int32)))]) [1, 0] rfl ?_
        exact hr7 (i5 + (1 : Int32)) h17
      refine j_if_eq C 57 dX7_counts_50 (by decide) (fun c18 => ?_) (fun c18 => ?_)
      · refine j_iconst C (0 : Int32) dX7_counts_57 (by decide) ?_
        exact hk16 (0 : Int32)
      · refine j_iconst C (1 : Int32) dX7_counts_53 (by decide) ?_
        refine j_goto C 58 dX7_counts_54 (by decide) ?_
        exact hk16 (1 : Int32)
  · refine j_aload_n C dX7_counts_7 0 rfl rfl ?_
    refine j_getR C wfl_X7_45 dX7_counts_8 (fun a19 => ?_)
    refine j_iload_n C dX7_counts_11 1 rfl rfl ?_
    refine j_iconst C (0 : Int32) dX7_counts_12 (by decide) ?_
    refine j_iastore C dX7_counts_13 (fun h20 => ?_)
    refine j_iinc (lv' := [(1, .int (i1 + (1 : Int32))), (0, .ref a0)]) C (1 : Int32) dX7_counts_14 1 rfl (by decide) rfl rfl ?_
    refine j_goto C 2 dX7_counts_17 (by decide) ?_
    refine J.sub (lv' := [(0, .ref a0), (1, .int (i1 + (1 : Int32)))]) [1, 0] rfl ?_
    exact hr3 (i1 + (1 : Int32)) h20
