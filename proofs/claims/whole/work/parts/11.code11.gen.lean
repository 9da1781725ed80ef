def f_X7_splits (a0 : Nat) (p1 : Int32) (h : Hp) : Option Int32 :=
  bnd (gO h a0 7) fun _ => wl2 (fun r3 (i1 : Int32) (i2 : Int32) => bnd (gR h a0 7 6) fun a4 => bnd (ldI 0 h a4 (50 : Int32)) fun x5 => if x5 ≤ i2 then (some i1) else (bnd (f_X7_isWaiting a0 i2 h) fun x7 => jn1 (fun (w8 : Int32) => nm (i1 + w8) fun v10 => r3 v10 (i2 + (1 : Int32))) fun k9 => jn0 (k9 (0 : Int32)) fun k11 => if x7 = 0 then k11 else (bnd (f_X7_of a0 i2 (0 : Int32) h) fun x13 => if x13 = p1 then (bnd (f_X7_of a0 i2 (1 : Int32) h) fun x15 => k9 (x15 - (1 : Int32))) else k11))) fuel (0 : Int32) (0 : Int32)
set_option maxHeartbeats 4000000 in
set_option maxRecDepth 100000 in
theorem c_X7_splits (l : Launch) (D : hD) (a0 : Nat) (p1 : Int32) (h : Hp) (x : Int32) (e : f_X7_splits a0 p1 h = some x) : (∃ fs, gO h a0 7 = some fs) ∧ Ct l D yX7_splits cX7_splits 4 (some .int) 2 43 [.ref a0, .int p1] h (some (.int x)) h := by
  obtain ⟨fs, g1, g2⟩ := bnd_some e
  refine ⟨⟨fs, g1⟩, ?_⟩
  refine ct_of (out := (oIp h)) g2 (by decide +kernel) rfl (fun B C hin hl hd => ?_)
  subst hl; subst hd
  show J B _ _ h 0 [(0, .ref a0), (1, .int p1)] []
  refine j_iconst C (0 : Int32) dX7_splits_0 (by decide) ?_
  refine j_istore_n (lv' := [(2, .int (0 : Int32)), (0, .ref a0), (1, .int p1)]) C dX7_splits_1 rfl rfl rfl ?_
  refine j_iconst C (0 : Int32) dX7_splits_2 (by decide) ?_
  refine j_istore_n (lv' := [(3, .int (0 : Int32)), (2, .int (0 : Int32)), (0, .ref a0), (1, .int p1)]) C dX7_splits_3 rfl rfl rfl ?_
  refine J.sub (lv' := [(0, .ref a0), (1, .int p1), (2, .int (0 : Int32)), (3, .int (0 : Int32))]) [2, 3, 1, 0] rfl ?_
  refine J.wl2 4 (fun (i1 : Int32) (i2 : Int32) => h) (fun (i1 : Int32) (i2 : Int32) => [(0, .ref a0), (1, .int p1), (2, .int i1), (3, .int i2)]) (fun (i1 : Int32) (i2 : Int32) => []) (fun r3 hr3 i1 i2 => ?_) fuel (0 : Int32) (0 : Int32)
  refine j_iload_n C dX7_splits_4 3 rfl rfl ?_
  refine j_aload_n C dX7_splits_5 0 rfl rfl ?_
  refine j_getR C wfl_X7_23 dX7_splits_6 (fun a4 => ?_)
  refine j_bipush C (50 : Int32) dX7_splits_9 (by decide) ?_
  refine j_iaload C dX7_splits_11 (fun x5 => ?_)
  refine j_icmp_ge C 54 dX7_splits_12 (by decide) (fun c6 => ?_) (fun c6 => ?_)
  · refine j_iload_n C dX7_splits_54 2 rfl rfl ?_
    exact j_iretp C dX7_splits_55
  · refine j_iload_n C dX7_splits_15 2 rfl rfl ?_
    refine j_aload_n C dX7_splits_16 0 rfl rfl ?_
    refine j_iload_n C dX7_splits_17 3 rfl rfl ?_
    refine j_cIp (st := [.int i1]) (fun x e => ⟨runsV C wml_X7_125 wce_X7_isWaiting (c_X7_isWaiting (bL B) (bD B) _ _ _ x e).1 rfl rfl rfl rfl rfl dX7_splits_18, (c_X7_isWaiting (bL B) (bD B) _ _ _ x e).2⟩) (fun x7 => ?_)
    refine J.jn1 46 (fun (w8 : Int32) => h) (fun (w8 : Int32) => [(0, .ref a0), (1, .int p1), (3, .int i2)]) (fun (w8 : Int32) => [.int w8, .int i1]) (fun w8 => ?_) (fun k9 hk9 => ?_)
    · refine j_iadd C dX7_splits_46 ?_
      refine j_nmI (fun v10 => ?_)
      refine j_istore_n (lv' := [(2, .int v10), (0, .ref a0), (1, .int p1), (3, .int i2)]) C dX7_splits_47 rfl rfl rfl ?_
      refine j_iinc (lv' := [(3, .int (i2 + (1 : Int32))), (2, .int v10), (0, .ref a0), (1, .int p1)]) C (1 : Int32) dX7_splits_48 3 rfl (by decide) rfl rfl ?_
      refine j_goto C 4 dX7_splits_51 (by decide) ?_
      refine J.sub (lv' := [(0, .ref a0), (1, .int p1), (2, .int v10), (3, .int (i2 + (1 : Int32)))]) [2, 3, 1, 0] rfl ?_
      exact hr3 v10 (i2 + (1 : Int32))
    refine J.jn0 (h0 := h) (lv0 := [(0, .ref a0), (1, .int p1), (3, .int i2)]) (st0 := [.int i1]) 45 ?_ (fun k11 hk11 => ?_)
    · refine j_iconst C (0 : Int32) dX7_splits_45 (by decide) ?_
      exact hk9 (0 : Int32)
    refine j_if_eq C 45 dX7_splits_21 (by decide) (fun c12 => ?_) (fun c12 => ?_)
    · refine J.sub (lv' := [(0, .ref a0), (1, .int p1), (3, .int i2)]) [0, 1, 3] rfl ?_
      exact hk11
    · refine j_aload_n C dX7_splits_24 0 rfl rfl ?_
      refine j_iload_n C dX7_splits_25 3 rfl rfl ?_
      refine j_iconst C (0 : Int32) dX7_splits_26 (by decide) ?_
      refine j_cIp (st := [.int i1]) (fun x e => ⟨runsV C wml_X7_114 wce_X7_of (c_X7_of (bL B) (bD B) _ _ _ _ x e).1 rfl rfl rfl rfl rfl dX7_splits_27, (c_X7_of (bL B) (bD B) _ _ _ _ x e).2⟩) (fun x13 => ?_)
      refine j_iload_n C dX7_splits_30 1 rfl rfl ?_
      refine j_icmp_ne C 45 dX7_splits_31 (by decide) (fun c14 => ?_) (fun c14 => ?_)
      · refine J.sub (lv' := [(0, .ref a0), (1, .int p1), (3, .int i2)]) [0, 1, 3] rfl ?_
        exact hk11
      · refine j_aload_n C dX7_splits_34 0 rfl rfl ?_
        refine j_iload_n C dX7_splits_35 3 rfl rfl ?_
        refine j_iconst C (1 : Int32) dX7_splits_36 (by decide) ?_
        refine j_cIp (st := [.int i1]) (fun x e => ⟨runsV C wml_X7_114 wce_X7_of (c_X7_of (bL B) (bD B) _ _ _ _ x e).1 rfl rfl rfl rfl rfl dX7_splits_37, (c_X7_of (bL B) (bD B) _ _ _ _ x e).2⟩) (fun x15 => ?_)
        refine j_iconst C (1 : Int32) dX7_splits_40 (by decide) ?_
        refine j_isub C dX7_splits_41 ?_
        refine j_goto C 46 dX7_splits_42 (by decide) ?_
        refine J.sub (lv' := [(0, .ref a0), (1, .int p1), (3, .int i2)]) [0, 1, 3] rfl ?_
        exact hk9 (x15 - (1 : Int32))
def f_X7_halvings (a0 : Nat) (h : Hp) : Option (Int32 × Hp) :=
  bnd (gO h a0 7) fun _ => bnd (gR h a0 7 3) fun a1 => bnd (ldI 0 h a1 (0 : Int32)) fun x2 => if x2 = (1 : Int32) then (some ((-2 : Int32), h)) else (bnd (f_X7_counts a0 h) fun h4 => wl3 (fun r8 (i5 : Int32) (i6 : Int32) (i7 : Int32) => bnd (gR h4 a0 7 6) fun a9 => bnd (ldI 0 h4 a9 (50 : Int32)) fun x10 => if x10 ≤ i7 then (wl3 (fun r15 (i12 : Int32) (i13 : Int32) (i14 : Int32) => if (5 : Int32) ≤ i14 then (jn1 (fun (w17 : Int32) => some (w17, h4)) fun k18 => if i13 < i12 then (k18 (-4 : Int32)) else (k18 i12)) else (bnd (gR h4 a0 7 17) fun a20 => bnd (ldI 0 h4 a20 i14) fun x21 => bnd (gR h4 a0 7 6) fun a22 => bnd (ldI 0 h4 a22 (52 : Int32)) fun x23 => jn1 (fun (w24 : Int32) => nm ((((2 : Int32) * x21) - i5) - w24) fun v26 => jn2 (fun (z27 : Int32) (z28 : Int32) => r15 z27 z28 (i14 + (1 : Int32))) fun k29 => if v26 ≤ i12 then (k29 i12 i13) else (bnd (f_X7_splits a0 i14 h4) fun x31 => nm (i6 - x31) fun v32 => k29 v26 v32)) fun k25 => if i14 = x23 then (k25 (0 : Int32)) else (k25 (1 : Int32)))) fuel (0 : Int32) (0 : Int32) (0 : Int32)) else (bnd (f_X7_isWaiting a0 i7 h4) fun x34 => jn1 (fun (w35 : Int32) => nm (i5 + w35) fun v37 => bnd (f_X7_isWaiting a0 i7 h4) fun x38 => jn1 (fun (w39 : Int32) => nm (i6 + w39) fun v41 => r8 v37 v41 (i7 + (1 : Int32))) fun k40 => if x38 = 0 then (k40 (0 : Int32)) else (bnd (f_X7_of a0 i7 (1 : Int32) h4) fun x43 => k40 (x43 - (1 : Int32)))) fun k36 => if x34 = 0 then (k36 (0 : Int32)) else (k36 (1 : Int32)))) fuel (0 : Int32) (0 : Int32) (0 : Int32))
set_option maxHeartbeats 4000000 in
set_option maxRecDepth 100000 in
theorem c_X7_halvings (l : Launch) (D : hD) (a0 : Nat) (h : Hp) (x : (Int32 × Hp)) (e : f_X7_halvings a0 h = some x) : (∃ fs, gO h a0 7 = some fs) ∧ Ct l D yX7_halvings cX7_halvings 7 (some .int) 3 66 [.ref a0] h (some (.int x.1)) x.2 := by
  obtain ⟨fs, g1, g2⟩ := bnd_some e
  refine ⟨⟨fs, g1⟩, ?_⟩
  refine ct_of (out := oI) g2 (by decide +kernel) rfl (fun B C hin hl hd => ?_)
  subst hl; subst hd
  show J B _ _ h 0 [(0, .ref a0)] []
  refine j_aload_n C dX7_halvings_0 0 rfl rfl ?_
  refine j_getR C wfl_X7_13 dX7_halvings_1 (fun a1 => ?_)
  refine j_iconst C (0 : Int32) dX7_halvings_4 (by decide) ?_
  refine j_iaload C dX7_halvings_5 (fun x2 => ?_)
  refine j_iconst C (1 : Int32) dX7_halvings_6 (by decide) ?_
  refine j_icmp_ne C 13 dX7_halvings_7 (by decide) (fun c3 => ?_) (fun c3 => ?_)
  · refine j_aload_n C dX7_halvings_13 0 rfl rfl ?_
    refine j_cV (st := []) (fun x e => ⟨runsV C wml_X7_144 wce_X7_counts (c_X7_counts (bL B) (bD B) _ _ x e).1 rfl rfl rfl rfl rfl dX7_halvings_14, (c_X7_counts (bL B) (bD B) _ _ x e).2⟩) (fun h4 => ?_)
    refine j_iconst C (0 : Int32) dX7_halvings_17 (by decide) ?_
    refine j_istore_n (lv' := [(1, .int (0 : Int32)), (0, .ref a0)]) C dX7_halvings_18 rfl rfl rfl ?_
    refine j_iconst C (0 : Int32) dX7_halvings_19 (by decide) ?_
    refine j_istore_n (lv' := [(2, .int (0 : Int32)), (1, .int (0 : Int32)), (0, .ref a0)]) C dX7_halvings_20 rfl rfl rfl ?_
    refine j_iconst C (0 : Int32) dX7_halvings_21 (by decide) ?_
    refine j_istore_n (lv' := [(3, .int (0 : Int32)), (2, .int (0 : Int32)), (1, .int (0 : Int32)), (0, .ref a0)]) C dX7_halvings_22 rfl rfl rfl ?_
    refine J.sub (lv' := [(0, .ref a0), (1, .int (0 : Int32)), (2, .int (0 : Int32)), (3, .int (0 : Int32))]) [3, 2, 1, 0] rfl ?_
    refine J.wl3 23 (fun (i5 : Int32) (i6 : Int32) (i7 : Int32) => h4) (fun (i5 : Int32) (i6 : Int32) (i7 : Int32) => [(0, .ref a0), (1, .int i5), (2, .int i6), (3, .int i7)]) (fun (i5 : Int32) (i6 : Int32) (i7 : Int32) => []) (fun r8 hr8 i5 i6 i7 => ?_) fuel (0 : Int32) (0 : Int32) (0 : Int32)
    refine j_iload_n C dX7_halvings_23 3 rfl rfl ?_
    refine j_aload_n C dX7_halvings_24 0 rfl rfl ?_
    refine j_getR C wfl_X7_23 dX7_halvings_25 (fun a9 => ?_)
    refine j_bipush C (50 : Int32) dX7_halvings_28 (by decide) ?_
    refine j_iaload C dX7_halvings_30 (fun x10 => ?_)
    refine j_icmp_ge C 79 dX7_halvings_31 (by decide) (fun c11 => ?_) (fun c11 => ?_)
    · refine j_iconst C (0 : Int32) dX7_halvings_79 (by decide) ?_
      refine j_istore_n (lv' := [(3, .int (0 : Int32)), (0, .ref a0), (1, .int i5), (2, .int i6)]) C dX7_halvings_80 rfl rfl rfl ?_
      refine j_iconst C (0 : Int32) dX7_halvings_81 (by decide) ?_
      refine j_istore (lv' := [(4, .int (0 : Int32)), (3, .int (0 : Int32)), (0, .ref a0), (1, .int i5), (2, .int i6)]) C dX7_halvings_82 rfl rfl ?_
      refine j_iconst C (0 : Int32) dX7_halvings_84 (by decide) ?_
      refine j_istore (lv' := [(5, .int (0 : Int32)), (4, .int (0 : Int32)), (3, .int (0 : Int32)), (0, .ref a0), (1, .int i5), (2, .int i6)]) C dX7_halvings_85 rfl rfl ?_
      refine J.sub (lv' := [(0, .ref a0), (1, .int i5), (2, .int i6), (3, .int (0 : Int32)), (4, .int (0 : Int32)), (5, .int (0 : Int32))]) [3, 4, 5, 2, 1, 0] rfl ?_
      refine J.wl3 87 (fun (i12 : Int32) (i13 : Int32) (i14 : Int32) => h4) (fun (i12 : Int32) (i13 : Int32) (i14 : Int32) => [(0, .ref a0), (1, .int i5), (2, .int i6), (3, .int i12), (4, .int i13), (5, .int i14)]) (fun (i12 : Int32) (i13 : Int32) (i14 : Int32) => []) (fun r15 hr15 i12 i13 i14 => ?_) fuel (0 : Int32) (0 : Int32) (0 : Int32)
      refine j_iload C dX7_halvings_87 5 rfl ?_
      refine j_iconst C (5 : Int32) dX7_halvings_89 (by decide) ?_
      refine j_icmp_ge C 149 dX7_halvings_90 (by decide) (fun c16 => ?_) (fun c16 => ?_)
      · refine j_iload_n C dX7_halvings_149 3 rfl rfl ?_
        refine j_iload C dX7_halvings_150 4 rfl ?_
        refine J.jn1 161 (fun (w17 : Int32) => h4) (fun (w17 : Int32) => []) (fun (w17 : Int32) => [.int w17]) (fun w17 => ?_) (fun k18 hk18 => ?_)
        · exact j_iret C dX7_halvings_161
        refine j_icmp_gt C 159 dX7_halvings_152 (by decide) (fun c19 => ?_) (fun c19 => ?_)
        · refine j_bipush C (-4 : Int32) dX7_halvings_159 (by decide) ?_
          refine J.sub (lv' := []) [] rfl ?_
          exact hk18 (-4 : Int32)
        · refine j_iload_n C dX7_halvings_155 3 rfl rfl ?_
          refine j_goto C 161 dX7_halvings_156 (by decide) ?_
          refine J.sub (lv' := []) [] rfl ?_
          exact hk18 i12
      · refine j_iconst C (2 : Int32) dX7_halvings_93 (by decide) ?_
        refine j_aload_n C dX7_halvings_94 0 rfl rfl ?_
        refine j_getR C wfl_X7_45 dX7_halvings_95 (fun a20 => ?_)
        refine j_iload C dX7_halvings_98 5 rfl ?_
        refine j_iaload C dX7_halvings_100 (fun x21 => ?_)
        refine j_imul C dX7_halvings_101 ?_
        refine j_iload_n C dX7_halvings_102 1 rfl rfl ?_
        refine j_isub C dX7_halvings_103 ?_
        refine j_iload C dX7_halvings_104 5 rfl ?_
        refine j_aload_n C dX7_halvings_106 0 rfl rfl ?_
        refine j_getR C wfl_X7_23 dX7_halvings_107 (fun a22 => ?_)
        refine j_bipush C (52 : Int32) dX7_halvings_110 (by decide) ?_
        refine j_iaload C dX7_halvings_112 (fun x23 => ?_)
        refine J.jn1 121 (fun (w24 : Int32) => h4) (fun (w24 : Int32) => [(0, .ref a0), (1, .int i5), (2, .int i6), (3, .int i12), (4, .int i13), (5, .int i14)]) (fun (w24 : Int32) => [.int w24, .int (((2 : Int32) * x21) - i5)]) (fun w24 => ?_) (fun k25 hk25 => ?_)
        · refine j_isub C dX7_halvings_121 ?_
          refine j_nmI (fun v26 => ?_)
          refine j_istore (lv' := [(6, .int v26), (0, .ref a0), (1, .int i5), (2, .int i6), (3, .int i12), (4, .int i13), (5, .int i14)]) C dX7_halvings_122 rfl rfl ?_
          refine j_iload C dX7_halvings_124 0 rfl ?_
          refine j_iload_n C dX7_halvings_126 4 rfl rfl ?_
          refine J.jn2 143 (fun (z27 : Int32) (z28 : Int32) => h4) (fun (z27 : Int32) (z28 : Int32) => [(0, .ref a0), (1, .int i5), (2, .int i6), (3, .int z27), (4, .int z28), (5, .int i14)]) (fun (z27 : Int32) (z28 : Int32) => []) (fun z27 z28 => ?_) (fun k29 hk29 => ?_)
          · refine j_iinc (lv' := [(5, .int (i14 + (1 : Int32))), (0, .ref a0), (1, .int i5), (2, .int i6), (3, .int z27), (4, .int z28)]) C (1 : Int32) dX7_halvings_143 5 rfl (by decide) rfl rfl ?_
            refine j_goto C 87 dX7_halvings_146 (by decide) ?_
            refine J.sub (lv' := [(0, .ref a0), (1, .int i5), (2, .int i6), (3, .int z27), (4, .int z28), (5, .int (i14 + (1 : Int32)))]) [1, 2, 3, 4, 5, 0] rfl ?_
            exact hr15 z27 z28 (i14 + (1 : Int32))
          refine j_icmp_le C 143 dX7_halvings_127 (by decide) (fun c30 => ?_) (fun c30 => ?_)
          · refine J.sub (lv' := [(0, .ref a0), (1, .int i5), (2, .int i6), (3, .int i12), (4, .int i13), (5, .int i14)]) [1, 2, 3, 4, 5, 6] rfl ?_
            exact hk29 i12 i13
          · refine j_iload C dX7_halvings_130 0 rfl ?_
            refine j_istore_n (lv' := [(3, .int v26), (6, .int v26), (0, .ref a0), (1, .int i5), (2, .int i6), (4, .int i13), (5, .int i14)]) C dX7_halvings_132 rfl rfl rfl ?_
            refine j_iload_n C dX7_halvings_133 4 rfl rfl ?_
            refine j_aload_n C dX7_halvings_134 2 rfl rfl ?_
            refine j_iload C dX7_halvings_135 6 rfl ?_
            refine j_cIp (st := [.int i6]) (fun x e => ⟨runsV C wml_X7_178 wce_X7_splits (c_X7_splits (bL B) (bD B) _ _ _ x e).1 rfl rfl rfl rfl rfl dX7_halvings_137, (c_X7_splits (bL B) (bD B) _ _ _ x e).2⟩) (fun x31 => ?_)
            refine j_isub C dX7_halvings_140 ?_
            refine j_nmI (fun v32 => ?_)
            refine j_istore (lv' := [(4, .int v32), (3, .int v26), (6, .int v26), (0, .ref a0), (1, .int i5), (2, .int i6), (5, .int i14)]) C dX7_halvings_141 rfl rfl ?_
            refine J.sub (lv' := [(0, .ref a0), (1, .int i5), (2, .int i6), (3, .int v26), (4, .int v32), (5, .int i14)]) [3, 4, 5, 1, 0, 6] rfl ?_
            exact hk29 v26 v32
        refine j_icmp_ne C 120 dX7_halvings_113 (by decide) (fun c33 => ?_) (fun c33 => ?_)
        · refine j_iconst C (1 : Int32) dX7_halvings_120 (by decide) ?_
          exact hk25 (1 : Int32)
        · refine j_iconst C (0 : Int32) dX7_halvings_116 (by decide) ?_
          refine j_goto C 121 dX7_halvings_117 (by decide) ?_
          exact hk25 (0 : Int32)
    · refine j_iload_n C dX7_halvings_34 1 rfl rfl ?_
      refine j_aload_n C dX7_halvings_35 0 rfl rfl ?_
      refine j_iload_n C dX7_halvings_36 3 rfl rfl ?_
      refine j_cIp (st := [.int i5]) (fun x e => ⟨runsV C wml_X7_125 wce_X7_isWaiting (c_X7_isWaiting (bL B) (bD B) _ _ _ x e).1 rfl rfl rfl rfl rfl dX7_halvings_37, (c_X7_isWaiting (bL B) (bD B) _ _ _ x e).2⟩) (fun x34 => ?_)
      refine J.jn1 48 (fun (w35 : Int32) => h4) (fun (w35 : Int32) => [(0, .ref a0), (2, .int i6), (3, .int i7)]) (fun (w35 : Int32) => [.int w35, .int i5]) (fun w35 => ?_) (fun k36 hk36 => ?_)
      · refine j_iadd C dX7_halvings_48 ?_
        refine j_nmI (fun v37 => ?_)
        refine j_istore_n (lv' := [(1, .int v37), (0, .ref a0), (2, .int i6), (3, .int i7)]) C dX7_halvings_49 rfl rfl rfl ?_
        refine j_iload_n C dX7_halvings_50 2 rfl rfl ?_
        refine j_aload_n C dX7_halvings_51 1 rfl rfl ?_
        refine j_iload_n C dX7_halvings_52 3 rfl rfl ?_
        refine j_cIp (st := [.int i6]) (fun x e => ⟨runsV C wml_X7_125 wce_X7_isWaiting (c_X7_isWaiting (bL B) (bD B) _ _ _ x e).1 rfl rfl rfl rfl rfl dX7_halvings_53, (c_X7_isWaiting (bL B) (bD B) _ _ _ x e).2⟩) (fun x38 => ?_)
        refine J.jn1 71 (fun (w39 : Int32) => h4) (fun (w39 : Int32) => [(0, .ref a0), (1, .int v37), (3, .int i7)]) (fun (w39 : Int32) => [.int w39, .int i6]) (fun w39 => ?_) (fun k40 hk40 => ?_)
        · refine j_iadd C dX7_halvings_71 ?_
          refine j_nmI (fun v41 => ?_)
          refine j_istore_n (lv' := [(2, .int v41), (0, .ref a0), (1, .int v37), (3, .int i7)]) C dX7_halvings_72 rfl rfl rfl ?_
          refine j_iinc (lv' := [(3, .int (i7 + (1 : Int32))), (2, .int v41), (0, .ref a0), (1, .int v37)]) C (1 : Int32) dX7_halvings_73 3 rfl (by decide) rfl rfl ?_
          refine j_goto C 23 dX7_halvings_76 (by decide) ?_
          refine J.sub (lv' := [(0, .ref a0), (1, .int v37), (2, .int v41), (3, .int (i7 + (1 : Int32)))]) [2, 3, 1, 0] rfl ?_
          exact hr8 v37 v41 (i7 + (1 : Int32))
        refine j_if_eq C 70 dX7_halvings_56 (by decide) (fun c42 => ?_) (fun c42 => ?_)
        · refine j_iconst C (0 : Int32) dX7_halvings_70 (by decide) ?_
          refine J.sub (lv' := [(0, .ref a0), (1, .int v37), (3, .int i7)]) [1, 0, 3] rfl ?_
          exact hk40 (0 : Int32)
        · refine j_aload_n C dX7_halvings_59 1 rfl rfl ?_
          refine j_iload_n C dX7_halvings_60 3 rfl rfl ?_
          refine j_iconst C (1 : Int32) dX7_halvings_61 (by decide) ?_
          refine j_cIp (st := [.int i6]) (fun x e => ⟨runsV C wml_X7_114 wce_X7_of (c_X7_of (bL B) (bD B) _ _ _ _ x e).1 rfl rfl rfl rfl rfl dX7_halvings_62, (c_X7_of (bL B) (bD B) _ _ _ _ x e).2⟩) (fun x43 => ?_)
          refine j_iconst C (1 : Int32) dX7_halvings_65 (by decide) ?_
          refine j_isub C dX7_halvings_66 ?_
          refine j_goto C 71 dX7_halvings_67 (by decide) ?_
          refine J.sub (lv' := [(0, .ref a0), (1, .int v37), (3, .int i7)]) [1, 0, 3] rfl ?_
          exact hk40 (x43 - (1 : Int32))
      refine j_if_eq C 47 dX7_halvings_40 (by decide) (fun c44 => ?_) (fun c44 => ?_)
      · refine j_iconst C (0 : Int32) dX7_halvings_47 (by decide) ?_
        refine J.sub (lv' := [(0, .ref a0), (2, .int i6), (3, .int i7)]) [0, 2, 3] rfl ?_
        exact hk36 (0 : Int32)
      · refine j_iconst C (1 : Int32) dX7_halvings_43 (by decide) ?_
        refine j_goto C 48 dX7_halvings_44 (by decide) ?_
        refine J.sub (lv' := [(0, .ref a0), (2, .int i6), (3, .int i7)]) [0, 2, 3] rfl ?_
        exact hk36 (1 : Int32)
  · refine j_bipush C (-2 : Int32) dX7_halvings_10 (by decide) ?_
    exact j_iret C dX7_halvings_12
def f_X7_takes (a0 : Nat) (h : Hp) : Option Hp :=
  bnd (gO h a0 7) fun _ => bnd (gR h a0 7 4) fun a1 => bnd (gR h a0 7 4) fun a2 => bnd (ldI 0 h a2 (1 : Int32)) fun x3 => bnd (stI 0 h a1 (0 : Int32) x3) fun h4 => bnd (gR h4 a0 7 3) fun a5 => bnd (gR h4 a0 7 3) fun a6 => bnd (ldI 0 h4 a6 (2 : Int32)) fun x7 => bnd (stI 0 h4 a5 (0 : Int32) x7) fun h8 => bnd (gR h8 a0 7 3) fun a9 => bnd (gR h8 a0 7 3) fun a10 => bnd (ldI 0 h8 a10 (3 : Int32)) fun x11 => bnd (stI 0 h8 a9 (1 : Int32) x11) fun h12 => wl2 (fun r15 (i13 : Int32) (h14 : Hp) => if (55 : Int32) ≤ i13 then (wl2 (fun r19 (i17 : Int32) (h18 : Hp) => bnd (gR h18 a0 7 4) fun a20 => bnd (ldI 0 h18 a20 (0 : Int32)) fun x21 => if x21 ≤ i17 then (bnd (gR h18 a0 7 6) fun a23 => bnd (gR h18 a0 7 4) fun a24 => bnd (ldI 0 h18 a24 (0 : Int32)) fun x25 => bnd (stI 0 h18 a23 (50 : Int32) x25) fun h26 => bnd (gR h26 a0 7 6) fun a27 => bnd (stI 0 h26 a27 (52 : Int32) (5 : Int32)) fun h28 => bnd (gR h28 a0 7 6) fun a29 => bnd (stI 0 h28 a29 (53 : Int32) (5 : Int32)) fun h30 => bnd (pF h30 a0 7 9 (.int (0 : Int32))) fun h31 => bnd (pF h31 a0 7 8 (.int (0 : Int32))) fun h32 => bnd (pF h32 a0 7 7 (.int (0 : Int32))) fun h33 => some h33) else (wl2 (fun r36 (i34 : Int32) (h35 : Hp) => if (4 : Int32) ≤ i34 then (r19 (i17 + (1 : Int32)) h35) else (bnd (gR h35 a0 7 6) fun a38 => bnd (gR h35 a0 7 5) fun a39 => bnd (ldI 0 h35 a39 (((4 : Int32) * i17) + i34)) fun x40 => bnd (stI 0 h35 a38 (((5 : Int32) * i17) + i34) x40) fun h41 => r36 (i34 + (1 : Int32)) h41)) fuel (0 : Int32) h18)) fuel (0 : Int32) h14) else (bnd (gR h14 a0 7 6) fun a42 => bnd (stI 0 h14 a42 i13 (0 : Int32)) fun h43 => r15 (i13 + (1 : Int32)) h43)) fuel (0 : Int32) h12
set_option maxHeartbeats 4000000 in
set_option maxRecDepth 100000 in
theorem c_X7_takes (l : Launch) (D : hD) (a0 : Nat) (h : Hp) (x : Hp) (e : f_X7_takes a0 h = some x) : (∃ fs, gO h a0 7 = some fs) ∧ Ct l D yX7_takes cX7_takes 3 none 0 0 [.ref a0] h none x := by
  obtain ⟨fs, g1, g2⟩ := bnd_some e
  refine ⟨⟨fs, g1⟩, ?_⟩
  refine ct_of (out := oV) g2 (by decide +kernel) rfl (fun B C hin hl hd => ?_)
  subst hl; subst hd
  show J B _ _ h 0 [(0, .ref a0)] []
  refine j_aload_n C dX7_takes_0 0 rfl rfl ?_
  refine j_getR C wfl_X7_17 dX7_takes_1 (fun a1 => ?_)
  refine j_iconst C (0 : Int32) dX7_takes_4 (by decide) ?_
  refine j_aload_n C dX7_takes_5 0 rfl rfl ?_
  refine j_getR C wfl_X7_17 dX7_takes_6 (fun a2 => ?_)
  refine j_iconst C (1 : Int32) dX7_takes_9 (by decide) ?_
  refine j_iaload C dX7_takes_10 (fun x3 => ?_)
  refine j_iastore C dX7_takes_11 (fun h4 => ?_)
  refine j_aload_n C dX7_takes_12 0 rfl rfl ?_
  refine j_getR C wfl_X7_13 dX7_takes_13 (fun a5 => ?_)
  refine j_iconst C (0 : Int32) dX7_takes_16 (by decide) ?_
  refine j_aload_n C dX7_takes_17 0 rfl rfl ?_
  refine j_getR C wfl_X7_13 dX7_takes_18 (fun a6 => ?_)
  refine j_iconst C (2 : Int32) dX7_takes_21 (by decide) ?_
  refine j_iaload C dX7_takes_22 (fun x7 => ?_)
  refine j_iastore C dX7_takes_23 (fun h8 => ?_)
  refine j_aload_n C dX7_takes_24 0 rfl rfl ?_
  refine j_getR C wfl_X7_13 dX7_takes_25 (fun a9 => ?_)
  refine j_iconst C (1 : Int32) dX7_takes_28 (by decide) ?_
  refine j_aload_n C dX7_takes_29 0 rfl rfl ?_
  refine j_getR C wfl_X7_13 dX7_takes_30 (fun a10 => ?_)
  refine j_iconst C (3 : Int32) dX7_takes_33 (by decide) ?_
  refine j_iaload C dX7_takes_34 (fun x11 => ?_)
  refine j_iastore C dX7_takes_35 (fun h12 => ?_)
  refine j_iconst C (0 : Int32) dX7_takes_36 (by decide) ?_
  refine j_istore_n (lv' := [(1, .int (0 : Int32)), (0, .ref a0)]) C dX7_takes_37 rfl rfl rfl ?_
  refine J.sub (lv' := [(0, .ref a0), (1, .int (0 : Int32))]) [1, 0] rfl ?_
  refine J.wl2 38 (fun (i13 : Int32) (h14 : Hp) => h14) (fun (i13 : Int32) (h14 : Hp) => [(0, .ref a0), (1, .int i13)]) (fun (i13 : Int32) (h14 : Hp) => []) (fun r15 hr15 i13 h14 => ?_) fuel (0 : Int32) h12
  refine j_iload_n C dX7_takes_38 1 rfl rfl ?_
  refine j_bipush C (55 : Int32) dX7_takes_39 (by decide) ?_
  refine j_icmp_ge C 57 dX7_takes_41 (by decide) (fun c16 => ?_) (fun c16 => ?_)
  · refine j_iconst C (0 : Int32) dX7_takes_57 (by decide) ?_
    refine j_istore_n (lv' := [(1, .int (0 : Int32)), (0, .ref a0)]) C dX7_takes_58 rfl rfl rfl ?_
    refine J.sub (lv' := [(0, .ref a0), (1, .int (0 : Int32))]) [1, 0] rfl ?_
    refine J.wl2 59 (fun (i17 : Int32) (h18 : Hp) => h18) (fun (i17 : Int32) (h18 : Hp) => [(0, .ref a0), (1, .int i17)]) (fun (i17 : Int32) (h18 : Hp) => []) (fun r19 hr19 i17 h18 => ?_) fuel (0 : Int32) h14
    refine j_iload_n C dX7_takes_59 1 rfl rfl ?_
    refine j_aload_n C dX7_takes_60 0 rfl rfl ?_
    refine j_getR C wfl_X7_17 dX7_takes_61 (fun a20 => ?_)
    refine j_iconst C (0 : Int32) dX7_takes_64 (by decide) ?_
    refine j_iaload C dX7_takes_65 (fun x21 => ?_)
    refine j_icmp_ge C 108 dX7_takes_66 (by decide) (fun c22 => ?_) (fun c22 => ?_)
    · refine j_aload_n C dX7_takes_108 0 rfl rfl ?_
      refine j_getR C wfl_X7_23 dX7_takes_109 (fun a23 => ?_)
      refine j_bipush C (50 : Int32) dX7_takes_112 (by decide) ?_
      refine j_aload_n C dX7_takes_114 0 rfl rfl ?_
      refine j_getR C wfl_X7_17 dX7_takes_115 (fun a24 => ?_)
      refine j_iconst C (0 : Int32) dX7_takes_118 (by decide) ?_
      refine j_iaload C dX7_takes_119 (fun x25 => ?_)
      refine j_iastore C dX7_takes_120 (fun h26 => ?_)
      refine j_aload_n C dX7_takes_121 0 rfl rfl ?_
      refine j_getR C wfl_X7_23 dX7_takes_122 (fun a27 => ?_)
      refine j_bipush C (52 : Int32) dX7_takes_125 (by decide) ?_
      refine j_iconst C (5 : Int32) dX7_takes_127 (by decide) ?_
      refine j_iastore C dX7_takes_128 (fun h28 => ?_)
      refine j_aload_n C dX7_takes_129 0 rfl rfl ?_
      refine j_getR C wfl_X7_23 dX7_takes_130 (fun a29 => ?_)
      refine j_bipush C (53 : Int32) dX7_takes_133 (by decide) ?_
      refine j_iconst C (5 : Int32) dX7_takes_135 (by decide) ?_
      refine j_iastore C dX7_takes_136 (fun h30 => ?_)
      refine j_aload_n C dX7_takes_137 0 rfl rfl ?_
      refine j_iconst C (0 : Int32) dX7_takes_138 (by decide) ?_
      refine j_put C wfp_X7_98 dX7_takes_139 ⟨_, rfl⟩ (fun h31 => ?_)
      refine j_aload_n C dX7_takes_142 0 rfl rfl ?_
      refine j_iconst C (0 : Int32) dX7_takes_143 (by decide) ?_
      refine j_put C wfp_X7_101 dX7_takes_144 ⟨_, rfl⟩ (fun h32 => ?_)
      refine j_aload_n C dX7_takes_147 0 rfl rfl ?_
      refine j_iconst C (0 : Int32) dX7_takes_148 (by decide) ?_
      refine j_put C wfp_X7_104 dX7_takes_149 ⟨_, rfl⟩ (fun h33 => ?_)
      exact j_vret C dX7_takes_152
    · refine j_iconst C (0 : Int32) dX7_takes_69 (by decide) ?_
      refine j_istore_n (lv' := [(2, .int (0 : Int32)), (0, .ref a0), (1, .int i17)]) C dX7_takes_70 rfl rfl rfl ?_
      refine J.sub (lv' := [(0, .ref a0), (1, .int i17), (2, .int (0 : Int32))]) [1, 2, 0] rfl ?_
      refine J.wl2 71 (fun (i34 : Int32) (h35 : Hp) => h35) (fun (i34 : Int32) (h35 : Hp) => [(0, .ref a0), (1, .int i17), (2, .int i34)]) (fun (i34 : Int32) (h35 : Hp) => []) (fun r36 hr36 i34 h35 => ?_) fuel (0 : Int32) h18
      refine j_iload_n C dX7_takes_71 2 rfl rfl ?_
      refine j_iconst C (4 : Int32) dX7_takes_72 (by decide) ?_
      refine j_icmp_ge C 102 dX7_takes_73 (by decide) (fun c37 => ?_) (fun c37 => ?_)
      · refine j_iinc (lv' := [(1, .int (i17 + (1 : Int32))), (0, .ref a0), (2, .int i34)]) C (1 : Int32) dX7_takes_102 1 rfl (by decide) rfl rfl ?_
        refine j_goto C 59 dX7_takes_105 (by decide) ?_
        refine J.sub (lv' := [(0, .ref a0), (1, .int (i17 + (1 : Int32)))]) [1, 0] rfl ?_
        exact hr19 (i17 + (1 : Int32)) h35
      · refine j_aload_n C dX7_takes_76 0 rfl rfl ?_
        refine j_getR C wfl_X7_23 dX7_takes_77 (fun a38 => ?_)
        refine j_iconst C (5 : Int32) dX7_takes_80 (by decide) ?_
        refine j_iload_n C dX7_takes_81 1 rfl rfl ?_
        refine j_imul C dX7_takes_82 ?_
        refine j_iload_n C dX7_takes_83 2 rfl rfl ?_
        refine j_iadd C dX7_takes_84 ?_
        refine j_aload_n C dX7_takes_85 0 rfl rfl ?_
        refine j_getR C wfl_X7_20 dX7_takes_86 (fun a39 => ?_)
        refine j_iconst C (4 : Int32) dX7_takes_89 (by decide) ?_
        refine j_iload_n C dX7_takes_90 1 rfl rfl ?_
        refine j_imul C dX7_takes_91 ?_
        refine j_iload_n C dX7_takes_92 2 rfl rfl ?_
        refine j_iadd C dX7_takes_93 ?_
        refine j_iaload C dX7_takes_94 (fun x40 => ?_)
        refine j_iastore C dX7_takes_95 (fun h41 => ?_)
        refine j_iinc (lv' := [(2, .int (i34 + (1 : Int32))), (0, .ref a0), (1, .int i17)]) C (1 : Int32) dX7_takes_96 2 rfl (by decide) rfl rfl ?_
        refine j_goto C 71 dX7_takes_99 (by decide) ?_
        refine J.sub (lv' := [(0, .ref a0), (1, .int i17), (2, .int (i34 + (1 : Int32)))]) [1, 2, 0] rfl ?_
        exact hr36 (i34 + (1 : Int32)) h41
  · refine j_aload_n C dX7_takes_44 0 rfl rfl ?_
    refine j_getR C wfl_X7_23 dX7_takes_45 (fun a42 => ?_)
    refine j_iload_n C dX7_takes_48 1 rfl rfl ?_
    refine j_iconst C (0 : Int32) dX7_takes_49 (by decide) ?_
    refine j_iastore C dX7_takes_50 (fun h43 => ?_)
    refine j_iinc (lv' := [(1, .int (i13 + (1 : Int32))), (0, .ref a0)]) C (1 : Int32) dX7_takes_51 1 rfl (by decide) rfl rfl ?_
    refine j_goto C 38 dX7_takes_54 (by decide) ?_
    refine J.sub (lv' := [(0, .ref a0), (1, .int (i13 + (1 : Int32)))]) [1, 0] rfl ?_
    exact hr15 (i13 + (1 : Int32)) h43
def f_X7_init (a0 : Nat) (h : Hp) : Option Hp :=
  bnd (gO h a0 7) fun _ => bnd2 (nwI 1 h (300 : Int32)) fun a1 h2 => bnd (pF h2 a0 7 1 (.ref a1)) fun h3 => bnd2 (nwI 0 h3 (4 : Int32)) fun a4 h5 => bnd (pF h5 a0 7 3 (.ref a4)) fun h6 => bnd2 (nwI 0 h6 (2 : Int32)) fun a7 h8 => bnd (pF h8 a0 7 4 (.ref a7)) fun h9 => bnd2 (nwI 0 h9 (32 : Int32)) fun a10 h11 => bnd (pF h11 a0 7 5 (.ref a10)) fun h12 => bnd2 (nwI 0 h12 (605 : Int32)) fun a13 h14 => bnd (pF h14 a0 7 6 (.ref a13)) fun h15 => bnd2 (nwI 0 h15 (10 : Int32)) fun a16 h17 => bnd (pF h17 a0 7 10 (.ref a16)) fun h18 => bnd2 (nwI 0 h18 (36864 : Int32)) fun a19 h20 => bnd (pF h20 a0 7 11 (.ref a19)) fun h21 => bnd2 (nwI 0 h21 (1024 : Int32)) fun a22 h23 => bnd (pF h23 a0 7 12 (.ref a22)) fun h24 => bnd2 (nwI 0 h24 (1024 : Int32)) fun a25 h26 => bnd (pF h26 a0 7 13 (.ref a25)) fun h27 => bnd2 (nwI 0 h27 (10 : Int32)) fun a28 h29 => bnd (pF h29 a0 7 14 (.ref a28)) fun h30 => bnd2 (nwI 0 h30 (5 : Int32)) fun a31 h32 => bnd (pF h32 a0 7 16 (.ref a31)) fun h33 => bnd2 (nwI 0 h33 (5 : Int32)) fun a34 h35 => bnd (pF h35 a0 7 17 (.ref a34)) fun h36 => bnd2 (nwI 0 h36 (5 : Int32)) fun a37 h38 => bnd (pF h38 a0 7 18 (.ref a37)) fun h39 => bnd2 (nwI 0 h39 (5 : Int32)) fun a40 h41 => bnd (pF h41 a0 7 19 (.ref a40)) fun h42 => bnd2 (nwI 0 h42 (4 : Int32)) fun a43 h44 => bnd (pF h44 a0 7 20 (.ref a43)) fun h45 => bnd2 (nwL h45 (14400 : Int32)) fun a46 h47 => bnd (pF h47 a0 7 21 (.ref a46)) fun h48 => bnd (f_X7_begins a0 h48) fun h49 => bnd (gR h49 a0 7 4) fun a50 => bnd (stI 0 h49 a50 (1 : Int32) (3 : Int32)) fun h51 => bnd (gR h51 a0 7 5) fun a52 => bnd (stI 0 h51 a52 (1 : Int32) (2 : Int32)) fun h53 => bnd (gR h53 a0 7 5) fun a54 => bnd (stI 0 h53 a54 (4 : Int32) (1 : Int32)) fun h55 => bnd (gR h55 a0 7 5) fun a56 => bnd (stI 0 h55 a56 (5 : Int32) (3 : Int32)) fun h57 => bnd (gR h57 a0 7 5) fun a58 => bnd (stI 0 h57 a58 (6 : Int32) (1 : Int32)) fun h59 => bnd (gR h59 a0 7 5) fun a60 => bnd (stI 0 h59 a60 (9 : Int32) (1 : Int32)) fun h61 => bnd (gR h61 a0 7 5) fun a62 => bnd (stI 0 h61 a62 (11 : Int32) (5 : Int32)) fun h63 => bnd (f_X7_takes a0 h63) fun h64 => some h64
set_option maxHeartbeats 4000000 in
set_option maxRecDepth 100000 in
theorem c_X7_init (l : Launch) (D : hD) (a0 : Nat) (h : Hp) (x : Hp) (e : f_X7_init a0 h = some x) : (∃ fs, gO h a0 7 = some fs) ∧ Ct l D yX7_init cX7_init 1 none 1 22 [.ref a0] h none x := by
  obtain ⟨fs, g1, g2⟩ := bnd_some e
  refine ⟨⟨fs, g1⟩, ?_⟩
  refine ct_of (out := oV) g2 (by decide +kernel) rfl (fun B C hin hl hd => ?_)
  subst hl; subst hd
  show J B _ _ h 0 [(0, .ref a0)] []
  refine j_aload_n C dX7_init_0 0 rfl rfl ?_
  refine j_objInit C wob_X7_1 wob_i wob_c rfl rfl rfl dX7_init_1 ?_
  refine j_aload_n C dX7_init_4 0 rfl rfl ?_
  refine j_sipush C (300 : Int32) dX7_init_5 (by decide) ?_
  refine j_newI C 1 rfl rfl rfl (by decide) (by intro c h; cases h) warr_byte dX7_init_8 (fun a1 h2 => ?_)
  refine j_putF C hin wff_X7_7 dX7_init_10 ⟨_, rfl⟩ (fun h3 => ?_)
  refine j_aload_n C dX7_init_13 0 rfl rfl ?_
  refine j_iconst C (4 : Int32) dX7_init_14 (by decide) ?_
  refine j_newI C 0 rfl rfl rfl (by decide) (by intro c h; cases h) warr_int dX7_init_15 (fun a4 h5 => ?_)
  refine j_putF C hin wff_X7_13 dX7_init_17 ⟨_, rfl⟩ (fun h6 => ?_)
  refine j_aload_n C dX7_init_20 0 rfl rfl ?_
  refine j_iconst C (2 : Int32) dX7_init_21 (by decide) ?_
  refine j_newI C 0 rfl rfl rfl (by decide) (by intro c h; cases h) warr_int dX7_init_22 (fun a7 h8 => ?_)
  refine j_putF C hin wff_X7_17 dX7_init_24 ⟨_, rfl⟩ (fun h9 => ?_)
  refine j_aload_n C dX7_init_27 0 rfl rfl ?_
  refine j_bipush C (32 : Int32) dX7_init_28 (by decide) ?_
  refine j_newI C 0 rfl rfl rfl (by decide) (by intro c h; cases h) warr_int dX7_init_30 (fun a10 h11 => ?_)
  refine j_putF C hin wff_X7_20 dX7_init_32 ⟨_, rfl⟩ (fun h12 => ?_)
  refine j_aload_n C dX7_init_35 0 rfl rfl ?_
  refine j_sipush C (605 : Int32) dX7_init_36 (by decide) ?_
  refine j_newI C 0 rfl rfl rfl (by decide) (by intro c h; cases h) warr_int dX7_init_39 (fun a13 h14 => ?_)
  refine j_putF C hin wff_X7_23 dX7_init_41 ⟨_, rfl⟩ (fun h15 => ?_)
  refine j_aload_n C dX7_init_44 0 rfl rfl ?_
  refine j_bipush C (10 : Int32) dX7_init_45 (by decide) ?_
  refine j_newI C 0 rfl rfl rfl (by decide) (by intro c h; cases h) warr_int dX7_init_47 (fun a16 h17 => ?_)
  refine j_putF C hin wff_X7_26 dX7_init_49 ⟨_, rfl⟩ (fun h18 => ?_)
  refine j_aload_n C dX7_init_52 0 rfl rfl ?_
  refine j_ldc C dX7_init_53 wco_X7_29 ?_
  refine j_newI C 0 rfl rfl rfl (by decide) (by intro c h; cases h) warr_int dX7_init_55 (fun a19 h20 => ?_)
  refine j_putF C hin wff_X7_30 dX7_init_57 ⟨_, rfl⟩ (fun h21 => ?_)
  refine j_aload_n C dX7_init_60 0 rfl rfl ?_
  refine j_sipush C (1024 : Int32) dX7_init_61 (by decide) ?_
  refine j_newI C 0 rfl rfl rfl (by decide) (by intro c h; cases h) warr_int dX7_init_64 (fun a22 h23 => ?_)
  refine j_putF C hin wff_X7_33 dX7_init_66 ⟨_, rfl⟩ (fun h24 => ?_)
  refine j_aload_n C dX7_init_69 0 rfl rfl ?_
  refine j_sipush C (1024 : Int32) dX7_init_70 (by decide) ?_
  refine j_newI C 0 rfl rfl rfl (by decide) (by intro c h; cases h) warr_int dX7_init_73 (fun a25 h26 => ?_)
  refine j_putF C hin wff_X7_36 dX7_init_75 ⟨_, rfl⟩ (fun h27 => ?_)
  refine j_aload_n C dX7_init_78 0 rfl rfl ?_
  refine j_bipush C (10 : Int32) dX7_init_79 (by decide) ?_
  refine j_newI C 0 rfl rfl rfl (by decide) (by intro c h; cases h) warr_int dX7_init_81 (fun a28 h29 => ?_)
  refine j_putF C hin wff_X7_39 dX7_init_83 ⟨_, rfl⟩ (fun h30 => ?_)
  refine j_aload_n C dX7_init_86 0 rfl rfl ?_
  refine j_iconst C (5 : Int32) dX7_init_87 (by decide) ?_
  refine j_newI C 0 rfl rfl rfl (by decide) (by intro c h; cases h) warr_int dX7_init_88 (fun a31 h32 => ?_)
  refine j_putF C hin wff_X7_42 dX7_init_90 ⟨_, rfl⟩ (fun h33 => ?_)
  refine j_aload_n C dX7_init_93 0 rfl rfl ?_
  refine j_iconst C (5 : Int32) dX7_init_94 (by decide) ?_
  refine j_newI C 0 rfl rfl rfl (by decide) (by intro c h; cases h) warr_int dX7_init_95 (fun a34 h35 => ?_)
  refine j_putF C hin wff_X7_45 dX7_init_97 ⟨_, rfl⟩ (fun h36 => ?_)
  refine j_aload_n C dX7_init_100 0 rfl rfl ?_
  refine j_iconst C (5 : Int32) dX7_init_101 (by decide) ?_
  refine j_newI C 0 rfl rfl rfl (by decide) (by intro c h; cases h) warr_int dX7_init_102 (fun a37 h38 => ?_)
  refine j_putF C hin wff_X7_48 dX7_init_104 ⟨_, rfl⟩ (fun h39 => ?_)
  refine j_aload_n C dX7_init_107 0 rfl rfl ?_
  refine j_iconst C (5 : Int32) dX7_init_108 (by decide) ?_
  refine j_newI C 0 rfl rfl rfl (by decide) (by intro c h; cases h) warr_int dX7_init_109 (fun a40 h41 => ?_)
  refine j_putF C hin wff_X7_51 dX7_init_111 ⟨_, rfl⟩ (fun h42 => ?_)
  refine j_aload_n C dX7_init_114 0 rfl rfl ?_
  refine j_iconst C (4 : Int32) dX7_init_115 (by decide) ?_
  refine j_newI C 0 rfl rfl rfl (by decide) (by intro c h; cases h) warr_int dX7_init_116 (fun a43 h44 => ?_)
  refine j_putF C hin wff_X7_54 dX7_init_118 ⟨_, rfl⟩ (fun h45 => ?_)
  refine j_aload_n C dX7_init_121 0 rfl rfl ?_
  refine j_sipush C (14400 : Int32) dX7_init_122 (by decide) ?_
  refine j_newL C rfl warr_long dX7_init_125 (fun a46 h47 => ?_)
  refine j_putF C hin wff_X7_57 dX7_init_127 ⟨_, rfl⟩ (fun h48 => ?_)
  refine j_aload_n C dX7_init_130 0 rfl rfl ?_
  refine j_cV (st := []) (fun x e => ⟨runsV C wml_X7_61 wce_X7_begins (c_X7_begins (bL B) (bD B) _ _ x e).1 rfl rfl rfl rfl rfl dX7_init_131, (c_X7_begins (bL B) (bD B) _ _ x e).2⟩) (fun h49 => ?_)
  refine j_aload_n C dX7_init_134 0 rfl rfl ?_
  refine j_getR C wfl_X7_17 dX7_init_135 (fun a50 => ?_)
  refine j_iconst C (1 : Int32) dX7_init_138 (by decide) ?_
  refine j_iconst C (3 : Int32) dX7_init_139 (by decide) ?_
  refine j_iastore C dX7_init_140 (fun h51 => ?_)
  refine j_aload_n C dX7_init_141 0 rfl rfl ?_
  refine j_getR C wfl_X7_20 dX7_init_142 (fun a52 => ?_)
  refine j_iconst C (1 : Int32) dX7_init_145 (by decide) ?_
  refine j_iconst C (2 : Int32) dX7_init_146 (by decide) ?_
  refine j_iastore C dX7_init_147 (fun h53 => ?_)
  refine j_aload_n C dX7_init_148 0 rfl rfl ?_
  refine j_getR C wfl_X7_20 dX7_init_149 (fun a54 => ?_)
  refine j_iconst C (4 : Int32) dX7_init_152 (by decide) ?_
  refine j_iconst C (1 : Int32) dX7_init_153 (by decide) ?_
  refine j_iastore C dX7_init_154 (fun h55 => ?_)
  refine j_aload_n C dX7_init_155 0 rfl rfl ?_
  refine j_getR C wfl_X7_20 dX7_init_156 (fun a56 => ?_)
  refine j_iconst C (5 : Int32) dX7_init_159 (by decide) ?_
  refine j_iconst C (3 : Int32) dX7_init_160 (by decide) ?_
  refine j_iastore C dX7_init_161 (fun h57 => ?_)
  refine j_aload_n C dX7_init_162 0 rfl rfl ?_
  refine j_getR C wfl_X7_20 dX7_init_163 (fun a58 => ?_)
  refine j_bipush C (6 : Int32) dX7_init_166 (by decide) ?_
  refine j_iconst C (1 : Int32) dX7_init_168 (by decide) ?_
  refine j_iastore C dX7_init_169 (fun h59 => ?_)
  refine j_aload_n C dX7_init_170 0 rfl rfl ?_
  refine j_getR C wfl_X7_20 dX7_init_171 (fun a60 => ?_)
  refine j_bipush C (9 : Int32) dX7_init_174 (by decide) ?_
  refine j_iconst C (1 : Int32) dX7_init_176 (by decide) ?_
  refine j_iastore C dX7_init_177 (fun h61 => ?_)
  refine j_aload_n C dX7_init_178 0 rfl rfl ?_
  refine j_getR C wfl_X7_20 dX7_init_179 (fun a62 => ?_)
  refine j_bipush C (11 : Int32) dX7_init_182 (by decide) ?_
  refine j_iconst C (5 : Int32) dX7_init_184 (by decide) ?_
  refine j_iastore C dX7_init_185 (fun h63 => ?_)
  refine j_aload_n C dX7_init_186 0 rfl rfl ?_
  refine j_cV (st := []) (fun x e => ⟨runsV C wml_X7_64 wce_X7_takes (c_X7_takes (bL B) (bD B) _ _ x e).1 rfl rfl rfl rfl rfl dX7_init_187, (c_X7_takes (bL B) (bD B) _ _ x e).2⟩) (fun h64 => ?_)
  exact j_vret C dX7_init_190
def f_X7_keep (a0 : Nat) (h : Hp) : Option (Int32 × Hp) :=
  bnd (gO h a0 7) fun _ => bnd (gI h a0 7 7) fun x1 => if x1 = (2 : Int32) then (some ((-3 : Int32), h)) else (bnd (gI h a0 7 7) fun x3 => bnd (pF h a0 7 7 (.int (x3 + (1 : Int32)))) fun h4 => bnd (gI h4 a0 7 7) fun x5 => bnd (f_X7_copies a0 (0 : Int32) x5 h4) fun h6 => bnd (gI h6 a0 7 7) fun x7 => some (x7, h6))
set_option maxHeartbeats 4000000 in
set_option maxRecDepth 100000 in
theorem c_X7_keep (l : Launch) (D : hD) (a0 : Nat) (h : Hp) (x : (Int32 × Hp)) (e : f_X7_keep a0 h = some x) : (∃ fs, gO h a0 7 = some fs) ∧ Ct l D yX7_keep cX7_keep 1 (some .int) 1 23 [.ref a0] h (some (.int x.1)) x.2 := by
  obtain ⟨fs, g1, g2⟩ := bnd_some e
  refine ⟨⟨fs, g1⟩, ?_⟩
  refine ct_of (out := oI) g2 (by decide +kernel) rfl (fun B C hin hl hd => ?_)
  subst hl; subst hd
  show J B _ _ h 0 [(0, .ref a0)] []
  refine j_aload_n C dX7_keep_0 0 rfl rfl ?_
  refine j_getI C wfl_X7_104 dX7_keep_1 (fun x1 => ?_)
  refine j_iconst C (2 : Int32) dX7_keep_4 (by decide) ?_
  refine j_icmp_ne C 11 dX7_keep_5 (by decide) (fun c2 => ?_) (fun c2 => ?_)
  · refine j_aload_n C dX7_keep_11 0 rfl rfl ?_
    refine j_dup C dX7_keep_12 (fun _ => rfl) ?_
    refine j_getI C wfl_X7_104 dX7_keep_13 (fun x3 => ?_)
    refine j_iconst C (1 : Int32) dX7_keep_16 (by decide) ?_
    refine j_iadd C dX7_keep_17 ?_
    refine j_put C wfp_X7_104 dX7_keep_18 ⟨_, rfl⟩ (fun h4 => ?_)
    refine j_aload_n C dX7_keep_21 0 rfl rfl ?_
    refine j_iconst C (0 : Int32) dX7_keep_22 (by decide) ?_
    refine j_aload_n C dX7_keep_23 0 rfl rfl ?_
    refine j_getI C wfl_X7_104 dX7_keep_24 (fun x5 => ?_)
    refine j_cV (st := []) (fun x e => ⟨runsV C wml_X7_131 wce_X7_copies (c_X7_copies (bL B) (bD B) _ _ _ _ x e).1 rfl rfl rfl rfl rfl dX7_keep_27, (c_X7_copies (bL B) (bD B) _ _ _ _ x e).2⟩) (fun h6 => ?_)
    refine j_aload_n C dX7_keep_30 0 rfl rfl ?_
    refine j_getI C wfl_X7_104 dX7_keep_31 (fun x7 => ?_)
    exact j_iret C dX7_keep_34
  · refine j_bipush C (-3 : Int32) dX7_keep_8 (by decide) ?_
    exact j_iret C dX7_keep_10
def f_X7_lacks (a0 : Nat) (p1 : Int32) (h : Hp) : Option (Int32 × Hp) :=
  bnd (gO h a0 7) fun _ => bnd (f_X7_isKind p1) fun x1 => if x1 = 0 then (some ((-1 : Int32), h)) else (bnd (f_X7_counts a0 h) fun h3 => bnd2 (f_X7_mostOf a0 h3) fun x4 h5 => bnd (gR h5 a0 7 17) fun a6 => bnd (stI 0 h5 a6 p1 (0 : Int32)) fun h7 => bnd2 (f_X7_mostOf a0 h7) fun x8 h9 => some ((x4 - x8), h9))
set_option maxHeartbeats 4000000 in
set_option maxRecDepth 100000 in
theorem c_X7_lacks (l : Launch) (D : hD) (a0 : Nat) (p1 : Int32) (h : Hp) (x : (Int32 × Hp)) (e : f_X7_lacks a0 p1 h = some x) : (∃ fs, gO h a0 7 = some fs) ∧ Ct l D yX7_lacks cX7_lacks 3 (some .int) 3 64 [.ref a0, .int p1] h (some (.int x.1)) x.2 := by
  obtain ⟨fs, g1, g2⟩ := bnd_some e
  refine ⟨⟨fs, g1⟩, ?_⟩
  refine ct_of (out := oI) g2 (by decide +kernel) rfl (fun B C hin hl hd => ?_)
  subst hl; subst hd
  show J B _ _ h 0 [(0, .ref a0), (1, .int p1)] []
  refine j_iload_n C dX7_lacks_0 1 rfl rfl ?_
  refine j_cIp (st := []) (fun x e => ⟨runsS C wml_X7_181 wce_X7_isKind rfl rfl rfl rfl rfl dX7_lacks_1, c_X7_isKind (bL B) (bD B) _ _ x e⟩) (fun x1 => ?_)
  refine j_if_ne C 9 dX7_lacks_4 (by decide) (fun c2 => ?_) (fun c2 => ?_)
  · refine j_aload_n C dX7_lacks_9 0 rfl rfl ?_
    refine j_cV (st := []) (fun x e => ⟨runsV C wml_X7_144 wce_X7_counts (c_X7_counts (bL B) (bD B) _ _ x e).1 rfl rfl rfl rfl rfl dX7_lacks_10, (c_X7_counts (bL B) (bD B) _ _ x e).2⟩) (fun h3 => ?_)
    refine j_aload_n C dX7_lacks_13 0 rfl rfl ?_
    refine j_cI (st := []) (fun x e => ⟨runsV C wml_X7_159 wce_X7_mostOf (c_X7_mostOf (bL B) (bD B) _ _ x e).1 rfl rfl rfl rfl rfl dX7_lacks_14, (c_X7_mostOf (bL B) (bD B) _ _ x e).2⟩) (fun x4 h5 => ?_)
    refine j_istore_n (lv' := [(2, .int x4), (0, .ref a0), (1, .int p1)]) C dX7_lacks_17 rfl rfl rfl ?_
    refine j_aload_n C dX7_lacks_18 1 rfl rfl ?_
    refine j_getR C wfl_X7_45 dX7_lacks_19 (fun a6 => ?_)
    refine j_iload_n C dX7_lacks_22 2 rfl rfl ?_
    refine j_iconst C (0 : Int32) dX7_lacks_23 (by decide) ?_
    refine j_iastore C dX7_lacks_24 (fun h7 => ?_)
    refine j_iload_n C dX7_lacks_25 0 rfl rfl ?_
    refine j_aload_n C dX7_lacks_26 1 rfl rfl ?_
    refine j_cI (st := [.int x4]) (fun x e => ⟨runsV C wml_X7_159 wce_X7_mostOf (c_X7_mostOf (bL B) (bD B) _ _ x e).1 rfl rfl rfl rfl rfl dX7_lacks_27, (c_X7_mostOf (bL B) (bD B) _ _ x e).2⟩) (fun x8 h9 => ?_)
    refine j_isub C dX7_lacks_30 ?_
    exact j_iret C dX7_lacks_31
  · refine j_iconst C (-1 : Int32) dX7_lacks_7 (by decide) ?_
    exact j_iret C dX7_lacks_8
def f_X7_lay (a0 : Nat) (h : Hp) : Option (Int32 × Hp) :=
  bnd (gO h a0 7) fun _ => bnd2 (f_X7_fault a0 h) fun x1 h2 => jn0 (some ((-2 : Int32), h2)) fun k3 => if x1 = (-4 : Int32) then (bnd (gR h2 a0 7 4) fun a5 => bnd (ldI 0 h2 a5 (1 : Int32)) fun x6 => if x6 = 0 then k3 else (bnd (f_X7_takes a0 h2) fun h8 => bnd (gR h8 a0 7 4) fun a9 => bnd (ldI 0 h8 a9 (0 : Int32)) fun x10 => some (x10, h8))) else k3
set_option maxHeartbeats 4000000 in
set_option maxRecDepth 100000 in
theorem c_X7_lay (l : Launch) (D : hD) (a0 : Nat) (h : Hp) (x : (Int32 × Hp)) (e : f_X7_lay a0 h = some x) : (∃ fs, gO h a0 7 = some fs) ∧ Ct l D yX7_lay cX7_lay 1 (some .int) 4 93 [.ref a0] h (some (.int x.1)) x.2 := by
  obtain ⟨fs, g1, g2⟩ := bnd_some e
  refine ⟨⟨fs, g1⟩, ?_⟩
  refine ct_of (out := oI) g2 (by decide +kernel) rfl (fun B C hin hl hd => ?_)
  subst hl; subst hd
  show J B _ _ h 0 [(0, .ref a0)] []
  refine j_aload_n C dX7_lay_0 0 rfl rfl ?_
  refine j_cI (st := []) (fun x e => ⟨runsV C wml_X7_111 wce_X7_fault (c_X7_fault (bL B) (bD B) _ _ x e).1 rfl rfl rfl rfl rfl dX7_lay_1, (c_X7_fault (bL B) (bD B) _ _ x e).2⟩) (fun x1 h2 => ?_)
  refine j_bipush C (-4 : Int32) dX7_lay_4 (by decide) ?_
  refine J.jn0 (h0 := h2) (lv0 := []) (st0 := []) 18 ?_ (fun k3 hk3 => ?_)
  · refine j_bipush C (-2 : Int32) dX7_lay_18 (by decide) ?_
    exact j_iret C dX7_lay_20
  refine j_icmp_ne C 18 dX7_lay_6 (by decide) (fun c4 => ?_) (fun c4 => ?_)
  · refine J.sub (lv' := []) [] rfl ?_
    exact hk3
  · refine j_aload_n C dX7_lay_9 0 rfl rfl ?_
    refine j_getR C wfl_X7_17 dX7_lay_10 (fun a5 => ?_)
    refine j_iconst C (1 : Int32) dX7_lay_13 (by decide) ?_
    refine j_iaload C dX7_lay_14 (fun x6 => ?_)
    refine j_if_ne C 21 dX7_lay_15 (by decide) (fun c7 => ?_) (fun c7 => ?_)
    · refine j_aload_n C dX7_lay_21 0 rfl rfl ?_
      refine j_cV (st := []) (fun x e => ⟨runsV C wml_X7_64 wce_X7_takes (c_X7_takes (bL B) (bD B) _ _ x e).1 rfl rfl rfl rfl rfl dX7_lay_22, (c_X7_takes (bL B) (bD B) _ _ x e).2⟩) (fun h8 => ?_)
      refine j_aload_n C dX7_lay_25 0 rfl rfl ?_
      refine j_getR C wfl_X7_17 dX7_lay_26 (fun a9 => ?_)
      refine j_iconst C (0 : Int32) dX7_lay_29 (by decide) ?_
      refine j_iaload C dX7_lay_30 (fun x10 => ?_)
      exact j_iret C dX7_lay_31
    · refine J.sub (lv' := []) [] rfl ?_
      exact hk3
def f_X7_mayNow (a0 : Nat) (p1 : Int32) (h : Hp) : Option Int32 :=
  bnd (gO h a0 7) fun _ => bnd (f_X7_of a0 p1 (0 : Int32) h) fun x1 => bnd (gR h a0 7 6) fun a2 => bnd (ldI 0 h a2 (52 : Int32)) fun x3 => bnd (gR h a0 7 6) fun a4 => bnd (ldI 0 h a4 (53 : Int32)) fun x5 => bnd (f_X7_isMixed a0 x1 x3 x5 h) fun x6 => rZp x6
set_option maxHeartbeats 4000000 in
set_option maxRecDepth 100000 in
theorem c_X7_mayNow (l : Launch) (D : hD) (a0 : Nat) (p1 : Int32) (h : Hp) (x : Int32) (e : f_X7_mayNow a0 p1 h = some x) : (∃ fs, gO h a0 7 = some fs) ∧ Ct l D yX7_mayNow cX7_mayNow 2 (some .boolean) 1 23 [.ref a0, .int p1] h (some (.int x)) h := by
  obtain ⟨fs, g1, g2⟩ := bnd_some e
  refine ⟨⟨fs, g1⟩, ?_⟩
  refine ct_of (out := (oIp h)) g2 (by decide +kernel) rfl (fun B C hin hl hd => ?_)
  subst hl; subst hd
  show J B _ _ h 0 [(0, .ref a0), (1, .int p1)] []
  refine j_aload_n C dX7_mayNow_0 0 rfl rfl ?_
  refine j_aload_n C dX7_mayNow_1 0 rfl rfl ?_
  refine j_iload_n C dX7_mayNow_2 1 rfl rfl ?_
  refine j_iconst C (0 : Int32) dX7_mayNow_3 (by decide) ?_
  refine j_cIp (st := [.ref a0]) (fun x e => ⟨runsV C wml_X7_114 wce_X7_of (c_X7_of (bL B) (bD B) _ _ _ _ x e).1 rfl rfl rfl rfl rfl dX7_mayNow_4, (c_X7_of (bL B) (bD B) _ _ _ _ x e).2⟩) (fun x1 => ?_)
  refine j_aload_n C dX7_mayNow_7 0 rfl rfl ?_
  refine j_getR C wfl_X7_23 dX7_mayNow_8 (fun a2 => ?_)
  refine j_bipush C (52 : Int32) dX7_mayNow_11 (by decide) ?_
  refine j_iaload C dX7_mayNow_13 (fun x3 => ?_)
  refine j_aload_n C dX7_mayNow_14 0 rfl rfl ?_
  refine j_getR C wfl_X7_23 dX7_mayNow_15 (fun a4 => ?_)
  refine j_bipush C (53 : Int32) dX7_mayNow_18 (by decide) ?_
  refine j_iaload C dX7_mayNow_20 (fun x5 => ?_)
  refine j_cIp (st := []) (fun x e => ⟨runsV C wml_X7_121 wce_X7_isMixed (c_X7_isMixed (bL B) (bD B) _ _ _ _ _ x e).1 rfl rfl rfl rfl rfl dX7_mayNow_21, (c_X7_isMixed (bL B) (bD B) _ _ _ _ _ x e).2⟩) (fun x6 => ?_)
  exact j_zretp C dX7_mayNow_24
