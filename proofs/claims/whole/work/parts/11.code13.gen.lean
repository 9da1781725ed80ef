def f_X7_most (a0 : Nat) (p1 : Int32) (h : Hp) : Option (Int32 × Hp) :=
  bnd (gO h a0 7) fun _ => if (-2 : Int32) ≤ p1 then (bnd (f_X7_firstMost a0 h) fun h2 => if p1 ≤ (-2 : Int32) then (bnd (gR h2 a0 7 6) fun a4 => bnd (ldI 0 h2 a4 (51 : Int32)) fun x5 => bnd (gR h2 a0 7 6) fun a6 => bnd (ldI 0 h2 a6 (52 : Int32)) fun x7 => bnd (gR h2 a0 7 6) fun a8 => bnd (ldI 0 h2 a8 (53 : Int32)) fun x9 => bnd (f_X7_earliest a0 x5 x7 x9 h2) fun h10 => wl2 (fun r13 (i11 : Int32) (i12 : Int32) => bnd (gR h10 a0 7 6) fun a14 => bnd (ldI 0 h10 a14 (50 : Int32)) fun x15 => if ((1 : Int32) <<< (x15 &&& 31)) ≤ i12 then (some (i11, h10)) else (bnd (f_X7_bits i12) fun x17 => bnd (gI h10 a0 7 15) fun x18 => jn1 (fun (w19 : Int32) => jn1 (fun (w21 : Int32) => r13 w21 (i12 + (1 : Int32))) fun k22 => if i11 ≤ w19 then (k22 i11) else (k22 w19)) fun k20 => if x17 = x18 then (bnd (f_X7_soonestOf a0 i12 h10) fun x25 => k20 x25) else (k20 (1000000 : Int32)))) fuel (1000000 : Int32) (0 : Int32)) else (jn1 (fun (w26 : Int32) => some (w26, h2)) fun k27 => if 0 ≤ p1 then (bnd (gI h2 a0 7 15) fun x29 => if x29 ≤ p1 then (k27 (-4 : Int32)) else (bnd (gR h2 a0 7 14) fun a31 => bnd (ldI 0 h2 a31 p1) fun x32 => k27 x32)) else (bnd (gI h2 a0 7 15) fun x33 => k27 x33))) else (some ((-1 : Int32), h))
set_option maxHeartbeats 4000000 in
set_option maxRecDepth 100000 in
theorem c_X7_most (l : Launch) (D : hD) (a0 : Nat) (p1 : Int32) (h : Hp) (x : (Int32 × Hp)) (e : f_X7_most a0 p1 h = some x) : (∃ fs, gO h a0 7 = some fs) ∧ Ct l D yX7_most cX7_most 5 (some .int) 4 93 [.ref a0, .int p1] h (some (.int x.1)) x.2 := by
  obtain ⟨fs, g1, g2⟩ := bnd_some e
  refine ⟨⟨fs, g1⟩, ?_⟩
  refine ct_of (out := oI) g2 (by decide +kernel) rfl (fun B C hin hl hd => ?_)
  subst hl; subst hd
  show J B _ _ h 0 [(0, .ref a0), (1, .int p1)] []
  refine j_iload_n C dX7_most_0 1 rfl rfl ?_
  refine j_bipush C (-2 : Int32) dX7_most_1 (by decide) ?_
  refine j_icmp_ge C 8 dX7_most_3 (by decide) (fun c1 => ?_) (fun c1 => ?_)
  · refine j_aload_n C dX7_most_8 0 rfl rfl ?_
    refine j_cV (st := []) (fun x e => ⟨runsV C wml_X7_165 wce_X7_firstMost (c_X7_firstMost (bL B) (bD B) _ _ x e).1 rfl rfl rfl rfl rfl dX7_most_9, (c_X7_firstMost (bL B) (bD B) _ _ x e).2⟩) (fun h2 => ?_)
    refine j_iload_n C dX7_most_12 1 rfl rfl ?_
    refine j_bipush C (-2 : Int32) dX7_most_13 (by decide) ?_
    refine j_icmp_le C 49 dX7_most_15 (by decide) (fun c3 => ?_) (fun c3 => ?_)
    · refine j_aload_n C dX7_most_49 0 rfl rfl ?_
      refine j_aload_n C dX7_most_50 0 rfl rfl ?_
      refine j_getR C wfl_X7_23 dX7_most_51 (fun a4 => ?_)
      refine j_bipush C (51 : Int32) dX7_most_54 (by decide) ?_
      refine j_iaload C dX7_most_56 (fun x5 => ?_)
      refine j_aload_n C dX7_most_57 0 rfl rfl ?_
      refine j_getR C wfl_X7_23 dX7_most_58 (fun a6 => ?_)
      refine j_bipush C (52 : Int32) dX7_most_61 (by decide) ?_
      refine j_iaload C dX7_most_63 (fun x7 => ?_)
      refine j_aload_n C dX7_most_64 0 rfl rfl ?_
      refine j_getR C wfl_X7_23 dX7_most_65 (fun a8 => ?_)
      refine j_bipush C (53 : Int32) dX7_most_68 (by decide) ?_
      refine j_iaload C dX7_most_70 (fun x9 => ?_)
      refine j_cV (st := []) (fun x e => ⟨runsV C wml_X7_168 wce_X7_earliest (c_X7_earliest (bL B) (bD B) _ _ _ _ _ x e).1 rfl rfl rfl rfl rfl dX7_most_71, (c_X7_earliest (bL B) (bD B) _ _ _ _ _ x e).2⟩) (fun h10 => ?_)
      refine j_ldc C dX7_most_74 wco_X7_158 ?_
      refine j_istore_n (lv' := [(2, .int (1000000 : Int32)), (0, .ref a0), (1, .int p1)]) C dX7_most_76 rfl rfl rfl ?_
      refine j_iconst C (0 : Int32) dX7_most_77 (by decide) ?_
      refine j_istore_n (lv' := [(3, .int (0 : Int32)), (2, .int (1000000 : Int32)), (0, .ref a0), (1, .int p1)]) C dX7_most_78 rfl rfl rfl ?_
      refine J.sub (lv' := [(0, .ref a0), (2, .int (1000000 : Int32)), (3, .int (0 : Int32))]) [2, 1, 0] rfl ?_
      refine J.wl2 79 (fun (i11 : Int32) (i12 : Int32) => h10) (fun (i11 : Int32) (i12 : Int32) => [(0, .ref a0), (2, .int i11), (3, .int i12)]) (fun (i11 : Int32) (i12 : Int32) => []) (fun r13 hr13 i11 i12 => ?_) fuel (1000000 : Int32) (0 : Int32)
      refine j_iload_n C dX7_most_79 2 rfl rfl ?_
      refine j_iconst C (1 : Int32) dX7_most_80 (by decide) ?_
      refine j_aload_n C dX7_most_81 0 rfl rfl ?_
      refine j_getR C wfl_X7_23 dX7_most_82 (fun a14 => ?_)
      refine j_bipush C (50 : Int32) dX7_most_85 (by decide) ?_
      refine j_iaload C dX7_most_87 (fun x15 => ?_)
      refine j_ishl C dX7_most_88 ?_
      refine j_icmp_ge C 134 dX7_most_89 (by decide) (fun c16 => ?_) (fun c16 => ?_)
      · refine j_iload_n C dX7_most_134 1 rfl rfl ?_
        exact j_iret C dX7_most_135
      · refine j_iload_n C dX7_most_92 2 rfl rfl ?_
        refine j_cIp (st := []) (fun x e => ⟨runsS C wml_X7_172 wce_X7_bits rfl rfl rfl rfl rfl dX7_most_93, c_X7_bits (bL B) (bD B) _ _ x e⟩) (fun x17 => ?_)
        refine j_aload_n C dX7_most_96 0 rfl rfl ?_
        refine j_getI C wfl_X7_162 dX7_most_97 (fun x18 => ?_)
        refine J.jn1 113 (fun (w19 : Int32) => h10) (fun (w19 : Int32) => [(0, .ref a0), (2, .int i11), (3, .int i12)]) (fun (w19 : Int32) => [.int w19]) (fun w19 => ?_) (fun k20 hk20 => ?_)
        · refine j_istore (lv' := [(4, .int w19), (0, .ref a0), (2, .int i11), (3, .int i12)]) C dX7_most_113 rfl rfl ?_
          refine j_iload C dX7_most_115 0 rfl ?_
          refine j_iload_n C dX7_most_117 2 rfl rfl ?_
          refine J.jn1 127 (fun (w21 : Int32) => h10) (fun (w21 : Int32) => [(0, .ref a0), (3, .int i12)]) (fun (w21 : Int32) => [.int w21]) (fun w21 => ?_) (fun k22 hk22 => ?_)
          · refine j_istore_n (lv' := [(2, .int w21), (0, .ref a0), (3, .int i12)]) C dX7_most_127 rfl rfl rfl ?_
            refine j_iinc (lv' := [(3, .int (i12 + (1 : Int32))), (2, .int w21), (0, .ref a0)]) C (1 : Int32) dX7_most_128 2 rfl (by decide) rfl rfl ?_
            refine j_goto C 79 dX7_most_131 (by decide) ?_
            refine J.sub (lv' := [(0, .ref a0), (2, .int w21), (3, .int (i12 + (1 : Int32)))]) [2, 1, 0] rfl ?_
            exact hr13 w21 (i12 + (1 : Int32))
          refine j_icmp_ge C 126 dX7_most_118 (by decide) (fun c23 => ?_) (fun c23 => ?_)
          · refine j_iload_n C dX7_most_126 2 rfl rfl ?_
            refine J.sub (lv' := [(0, .ref a0), (3, .int i12)]) [1, 3] rfl ?_
            exact hk22 i11
          · refine j_iload C dX7_most_121 0 rfl ?_
            refine j_goto C 127 dX7_most_123 (by decide) ?_
            refine J.sub (lv' := [(0, .ref a0), (3, .int i12)]) [1, 3] rfl ?_
            exact hk22 w19
        refine j_icmp_ne C 111 dX7_most_100 (by decide) (fun c24 => ?_) (fun c24 => ?_)
        · refine j_ldc C dX7_most_111 wco_X7_158 ?_
          exact hk20 (1000000 : Int32)
        · refine j_aload_n C dX7_most_103 0 rfl rfl ?_
          refine j_iload_n C dX7_most_104 2 rfl rfl ?_
          refine j_cIp (st := []) (fun x e => ⟨runsV C wml_X7_175 wce_X7_soonestOf (c_X7_soonestOf (bL B) (bD B) _ _ _ x e).1 rfl rfl rfl rfl rfl dX7_most_105, (c_X7_soonestOf (bL B) (bD B) _ _ _ x e).2⟩) (fun x25 => ?_)
          refine j_goto C 113 dX7_most_108 (by decide) ?_
          exact hk20 x25
    · refine j_iload_n C dX7_most_18 1 rfl rfl ?_
      refine J.jn1 48 (fun (w26 : Int32) => h2) (fun (w26 : Int32) => []) (fun (w26 : Int32) => [.int w26]) (fun w26 => ?_) (fun k27 hk27 => ?_)
      · exact j_iret C dX7_most_48
      refine j_if_ge C 29 dX7_most_19 (by decide) (fun c28 => ?_) (fun c28 => ?_)
      · refine j_iload_n C dX7_most_29 1 rfl rfl ?_
        refine j_aload_n C dX7_most_30 0 rfl rfl ?_
        refine j_getI C wfl_X7_162 dX7_most_31 (fun x29 => ?_)
        refine j_icmp_ge C 46 dX7_most_34 (by decide) (fun c30 => ?_) (fun c30 => ?_)
        · refine j_bipush C (-4 : Int32) dX7_most_46 (by decide) ?_
          refine J.sub (lv' := []) [] rfl ?_
          exact hk27 (-4 : Int32)
        · refine j_aload_n C dX7_most_37 0 rfl rfl ?_
          refine j_getR C wfl_X7_39 dX7_most_38 (fun a31 => ?_)
          refine j_iload_n C dX7_most_41 1 rfl rfl ?_
          refine j_iaload C dX7_most_42 (fun x32 => ?_)
          refine j_goto C 48 dX7_most_43 (by decide) ?_
          refine J.sub (lv' := []) [] rfl ?_
          exact hk27 x32
      · refine j_aload_n C dX7_most_22 0 rfl rfl ?_
        refine j_getI C wfl_X7_162 dX7_most_23 (fun x33 => ?_)
        refine j_goto C 48 dX7_most_26 (by decide) ?_
        refine J.sub (lv' := []) [] rfl ?_
        exact hk27 x33
  · refine j_iconst C (-1 : Int32) dX7_most_6 (by decide) ?_
    exact j_iret C dX7_most_7
def f_X7_noQueue (a0 : Nat) (h : Hp) : Option (Int32 × Hp) :=
  bnd (gO h a0 7) fun _ => bnd (gI h a0 7 9) fun x1 => bnd (pF h a0 7 9 (.int (0 : Int32))) fun h2 => some (x1, h2)
set_option maxHeartbeats 4000000 in
set_option maxRecDepth 100000 in
theorem c_X7_noQueue (l : Launch) (D : hD) (a0 : Nat) (h : Hp) (x : (Int32 × Hp)) (e : f_X7_noQueue a0 h = some x) : (∃ fs, gO h a0 7 = some fs) ∧ Ct l D yX7_noQueue cX7_noQueue 2 (some .int) 0 0 [.ref a0] h (some (.int x.1)) x.2 := by
  obtain ⟨fs, g1, g2⟩ := bnd_some e
  refine ⟨⟨fs, g1⟩, ?_⟩
  refine ct_of (out := oI) g2 (by decide +kernel) rfl (fun B C hin hl hd => ?_)
  subst hl; subst hd
  show J B _ _ h 0 [(0, .ref a0)] []
  refine j_aload_n C dX7_noQueue_0 0 rfl rfl ?_
  refine j_getI C wfl_X7_98 dX7_noQueue_1 (fun x1 => ?_)
  refine j_istore_n (lv' := [(1, .int x1), (0, .ref a0)]) C dX7_noQueue_4 rfl rfl rfl ?_
  refine j_aload_n C dX7_noQueue_5 1 rfl rfl ?_
  refine j_iconst C (0 : Int32) dX7_noQueue_6 (by decide) ?_
  refine j_put C wfp_X7_98 dX7_noQueue_7 ⟨_, rfl⟩ (fun h2 => ?_)
  refine j_iload_n C dX7_noQueue_10 0 rfl rfl ?_
  exact j_iret C dX7_noQueue_11
def f_X7_orders (a0 : Nat) (h : Hp) : Option (Int64 × Hp) :=
  bnd (gO h a0 7) fun _ => bnd (f_X7_counts a0 h) fun h1 => bnd (f_X7_size a0 h1) fun x2 => wl2 (fun r5 (i3 : Int32) (h4 : Hp) => if x2 ≤ i3 then (bnd (gR h4 a0 7 21) fun a7 => bnd (gR h4 a0 7 6) fun a8 => bnd (ldI 0 h4 a8 (52 : Int32)) fun x9 => bnd (gR h4 a0 7 6) fun a10 => bnd (ldI 0 h4 a10 (53 : Int32)) fun x11 => bnd (ldL h4 a7 ((((36 : Int32) * (x2 - (1 : Int32))) + ((6 : Int32) * x9)) + x11)) fun y12 => some (y12, h4)) else (bnd (f_X7_counted a0 i3 h4) fun h13 => wl2 (fun r16 (i14 : Int32) (h15 : Hp) => if (36 : Int32) ≤ i14 then (r5 (i3 + (1 : Int32)) h15) else (jn1 (fun (y18 : Int64) => wl2 (fun r22 (y20 : Int64) (i21 : Int32) => if (5 : Int32) ≤ i21 then (bnd (gR h15 a0 7 21) fun a24 => bnd (stL h15 a24 (((36 : Int32) * i3) + i14) y20) fun h25 => r16 (i14 + (1 : Int32)) h25) else (bnd (gR h15 a0 7 16) fun a26 => bnd (ldI 0 h15 a26 i21) fun x27 => jn1 (fun (y28 : Int64) => r22 y28 (i21 + (1 : Int32))) fun k29 => if x27 ≤ 0 then (k29 y20) else (if (6 : Int32) = 0 then none else if (6 : Int32) = 0 then none else bnd (f_X7_isMixed a0 i21 (i14 / (6 : Int32)) (i14 - i14 / (6 : Int32) * (6 : Int32)) h15) fun x31 => if x31 = 0 then (k29 y20) else (bnd (gR h15 a0 7 21) fun a33 => bnd (f_X7_step a0 i21 h15) fun x34 => if (6 : Int32) = 0 then none else bnd (ldL h15 a33 ((((36 : Int32) * (i3 - x34)) + ((6 : Int32) * i21)) + (i14 / (6 : Int32)))) fun y35 => nm (y20 + y35) fun y36 => k29 y36)))) fuel y18 (0 : Int32)) fun k19 => if i3 = 0 then (k19 (1 : Int64)) else (k19 (0 : Int64)))) fuel (0 : Int32) h13)) fuel (0 : Int32) h1
set_option maxHeartbeats 4000000 in
set_option maxRecDepth 100000 in
theorem c_X7_orders (l : Launch) (D : hD) (a0 : Nat) (h : Hp) (x : (Int64 × Hp)) (e : f_X7_orders a0 h = some x) : (∃ fs, gO h a0 7 = some fs) ∧ Ct l D yX7_orders cX7_orders 7 (some .long) 3 64 [.ref a0] h (some (.long x.1)) x.2 := by
  obtain ⟨fs, g1, g2⟩ := bnd_some e
  refine ⟨⟨fs, g1⟩, ?_⟩
  refine ct_of (out := oL) g2 (by decide +kernel) rfl (fun B C hin hl hd => ?_)
  subst hl; subst hd
  show J B _ _ h 0 [(0, .ref a0)] []
  refine j_aload_n C dX7_orders_0 0 rfl rfl ?_
  refine j_cV (st := []) (fun x e => ⟨runsV C wml_X7_144 wce_X7_counts (c_X7_counts (bL B) (bD B) _ _ x e).1 rfl rfl rfl rfl rfl dX7_orders_1, (c_X7_counts (bL B) (bD B) _ _ x e).2⟩) (fun h1 => ?_)
  refine j_aload_n C dX7_orders_4 0 rfl rfl ?_
  refine j_cIp (st := []) (fun x e => ⟨runsV C wml_X7_147 wce_X7_size (c_X7_size (bL B) (bD B) _ _ x e).1 rfl rfl rfl rfl rfl dX7_orders_5, (c_X7_size (bL B) (bD B) _ _ x e).2⟩) (fun x2 => ?_)
  refine j_istore_n (lv' := [(1, .int x2), (0, .ref a0)]) C dX7_orders_8 rfl rfl rfl ?_
  refine j_iconst C (0 : Int32) dX7_orders_9 (by decide) ?_
  refine j_istore_n (lv' := [(2, .int (0 : Int32)), (1, .int x2), (0, .ref a0)]) C dX7_orders_10 rfl rfl rfl ?_
  refine J.sub (lv' := [(0, .ref a0), (1, .int x2), (2, .int (0 : Int32))]) [2, 1, 0] rfl ?_
  refine J.wl2 11 (fun (i3 : Int32) (h4 : Hp) => h4) (fun (i3 : Int32) (h4 : Hp) => [(0, .ref a0), (1, .int x2), (2, .int i3)]) (fun (i3 : Int32) (h4 : Hp) => []) (fun r5 hr5 i3 h4 => ?_) fuel (0 : Int32) h1
  refine j_iload_n C dX7_orders_11 2 rfl rfl ?_
  refine j_iload_n C dX7_orders_12 1 rfl rfl ?_
  refine j_icmp_ge C 139 dX7_orders_13 (by decide) (fun c6 => ?_) (fun c6 => ?_)
  · refine j_aload_n C dX7_orders_139 0 rfl rfl ?_
    refine j_getR C wfl_X7_57 dX7_orders_140 (fun a7 => ?_)
    refine j_bipush C (36 : Int32) dX7_orders_143 (by decide) ?_
    refine j_iload_n C dX7_orders_145 1 rfl rfl ?_
    refine j_iconst C (1 : Int32) dX7_orders_146 (by decide) ?_
    refine j_isub C dX7_orders_147 ?_
    refine j_imul C dX7_orders_148 ?_
    refine j_bipush C (6 : Int32) dX7_orders_149 (by decide) ?_
    refine j_aload_n C dX7_orders_151 0 rfl rfl ?_
    refine j_getR C wfl_X7_23 dX7_orders_152 (fun a8 => ?_)
    refine j_bipush C (52 : Int32) dX7_orders_155 (by decide) ?_
    refine j_iaload C dX7_orders_157 (fun x9 => ?_)
    refine j_imul C dX7_orders_158 ?_
    refine j_iadd C dX7_orders_159 ?_
    refine j_aload_n C dX7_orders_160 0 rfl rfl ?_
    refine j_getR C wfl_X7_23 dX7_orders_161 (fun a10 => ?_)
    refine j_bipush C (53 : Int32) dX7_orders_164 (by decide) ?_
    refine j_iaload C dX7_orders_166 (fun x11 => ?_)
    refine j_iadd C dX7_orders_167 ?_
    refine j_laload C dX7_orders_168 (fun y12 => ?_)
    exact j_lret C dX7_orders_169
  · refine j_aload_n C dX7_orders_16 0 rfl rfl ?_
    refine j_iload_n C dX7_orders_17 2 rfl rfl ?_
    refine j_cV (st := []) (fun x e => ⟨runsV C wml_X7_150 wce_X7_counted (c_X7_counted (bL B) (bD B) _ _ _ x e).1 rfl rfl rfl rfl rfl dX7_orders_18, (c_X7_counted (bL B) (bD B) _ _ _ x e).2⟩) (fun h13 => ?_)
    refine j_iconst C (0 : Int32) dX7_orders_21 (by decide) ?_
    refine j_istore_n (lv' := [(3, .int (0 : Int32)), (0, .ref a0), (1, .int x2), (2, .int i3)]) C dX7_orders_22 rfl rfl rfl ?_
    refine J.sub (lv' := [(0, .ref a0), (1, .int x2), (2, .int i3), (3, .int (0 : Int32))]) [1, 2, 3, 0] rfl ?_
    refine J.wl2 23 (fun (i14 : Int32) (h15 : Hp) => h15) (fun (i14 : Int32) (h15 : Hp) => [(0, .ref a0), (1, .int x2), (2, .int i3), (3, .int i14)]) (fun (i14 : Int32) (h15 : Hp) => []) (fun r16 hr16 i14 h15 => ?_) fuel (0 : Int32) h13
    refine j_iload_n C dX7_orders_23 3 rfl rfl ?_
    refine j_bipush C (36 : Int32) dX7_orders_24 (by decide) ?_
    refine j_icmp_ge C 133 dX7_orders_26 (by decide) (fun c17 => ?_) (fun c17 => ?_)
    · refine j_iinc (lv' := [(2, .int (i3 + (1 : Int32))), (0, .ref a0), (1, .int x2), (3, .int i14)]) C (1 : Int32) dX7_orders_133 2 rfl (by decide) rfl rfl ?_
      refine j_goto C 11 dX7_orders_136 (by decide) ?_
      refine J.sub (lv' := [(0, .ref a0), (1, .int x2), (2, .int (i3 + (1 : Int32)))]) [1, 2, 0] rfl ?_
      exact hr5 (i3 + (1 : Int32)) h15
    · refine j_iload_n C dX7_orders_29 2 rfl rfl ?_
      refine J.jn1 38 (fun (y18 : Int64) => h15) (fun (y18 : Int64) => [(0, .ref a0), (1, .int x2), (2, .int i3), (3, .int i14)]) (fun (y18 : Int64) => [.long y18]) (fun y18 => ?_) (fun k19 hk19 => ?_)
      · refine j_lstore (lv' := [(4, .long y18), (0, .ref a0), (1, .int x2), (2, .int i3), (3, .int i14)]) C dX7_orders_38 rfl rfl ?_
        refine j_iconst C (0 : Int32) dX7_orders_40 (by decide) ?_
        refine j_istore (lv' := [(6, .int (0 : Int32)), (4, .long y18), (0, .ref a0), (1, .int x2), (2, .int i3), (3, .int i14)]) C dX7_orders_41 rfl rfl ?_
        refine J.sub (lv' := [(0, .ref a0), (1, .int x2), (2, .int i3), (3, .int i14), (4, .long y18), (6, .int (0 : Int32))]) [2, 3, 4, 5, 1, 0] rfl ?_
        refine J.wl2 43 (fun (y20 : Int64) (i21 : Int32) => h15) (fun (y20 : Int64) (i21 : Int32) => [(0, .ref a0), (1, .int x2), (2, .int i3), (3, .int i14), (4, .long y20), (6, .int i21)]) (fun (y20 : Int64) (i21 : Int32) => []) (fun r22 hr22 y20 i21 => ?_) fuel y18 (0 : Int32)
        refine j_iload C dX7_orders_43 5 rfl ?_
        refine j_iconst C (5 : Int32) dX7_orders_45 (by decide) ?_
        refine j_icmp_ge C 114 dX7_orders_46 (by decide) (fun c23 => ?_) (fun c23 => ?_)
        · refine j_aload_n C dX7_orders_114 0 rfl rfl ?_
          refine j_getR C wfl_X7_57 dX7_orders_115 (fun a24 => ?_)
          refine j_bipush C (36 : Int32) dX7_orders_118 (by decide) ?_
          refine j_iload_n C dX7_orders_120 2 rfl rfl ?_
          refine j_imul C dX7_orders_121 ?_
          refine j_iload_n C dX7_orders_122 3 rfl rfl ?_
          refine j_iadd C dX7_orders_123 ?_
          refine j_lload C dX7_orders_124 4 rfl ?_
          refine j_lastore C dX7_orders_126 (fun h25 => ?_)
          refine j_iinc (lv' := [(3, .int (i14 + (1 : Int32))), (0, .ref a0), (1, .int x2), (2, .int i3), (4, .long y20), (6, .int i21)]) C (1 : Int32) dX7_orders_127 3 rfl (by decide) rfl rfl ?_
          refine j_goto C 23 dX7_orders_130 (by decide) ?_
          refine J.sub (lv' := [(0, .ref a0), (1, .int x2), (2, .int i3), (3, .int (i14 + (1 : Int32)))]) [1, 2, 3, 0] rfl ?_
          exact hr16 (i14 + (1 : Int32)) h25
        · refine j_aload_n C dX7_orders_49 0 rfl rfl ?_
          refine j_getR C wfl_X7_42 dX7_orders_50 (fun a26 => ?_)
          refine j_iload C dX7_orders_53 5 rfl ?_
          refine j_iaload C dX7_orders_55 (fun x27 => ?_)
          refine J.jn1 108 (fun (y28 : Int64) => h15) (fun (y28 : Int64) => [(0, .ref a0), (1, .int x2), (2, .int i3), (3, .int i14), (4, .long y28), (6, .int i21)]) (fun (y28 : Int64) => []) (fun y28 => ?_) (fun k29 hk29 => ?_)
          · refine j_iinc (lv' := [(6, .int (i21 + (1 : Int32))), (0, .ref a0), (1, .int x2), (2, .int i3), (3, .int i14), (4, .long y28)]) C (1 : Int32) dX7_orders_108 5 rfl (by decide) rfl rfl ?_
            refine j_goto C 43 dX7_orders_111 (by decide) ?_
            refine J.sub (lv' := [(0, .ref a0), (1, .int x2), (2, .int i3), (3, .int i14), (4, .long y28), (6, .int (i21 + (1 : Int32)))]) [1, 2, 3, 4, 5, 0] rfl ?_
            exact hr22 y28 (i21 + (1 : Int32))
          refine j_if_le C 108 dX7_orders_56 (by decide) (fun c30 => ?_) (fun c30 => ?_)
          · exact hk29 y20
          · refine j_aload_n C dX7_orders_59 0 rfl rfl ?_
            refine j_iload C dX7_orders_60 5 rfl ?_
            refine j_iload_n C dX7_orders_62 3 rfl rfl ?_
            refine j_bipush C (6 : Int32) dX7_orders_63 (by decide) ?_
            refine j_idiv C dX7_orders_65 ?_
            refine j_iload_n C dX7_orders_66 3 rfl rfl ?_
            refine j_bipush C (6 : Int32) dX7_orders_67 (by decide) ?_
            refine j_irem C dX7_orders_69 ?_
            refine j_cIp (st := []) (fun x e => ⟨runsV C wml_X7_121 wce_X7_isMixed (c_X7_isMixed (bL B) (bD B) _ _ _ _ _ x e).1 rfl rfl rfl rfl rfl dX7_orders_70, (c_X7_isMixed (bL B) (bD B) _ _ _ _ _ x e).2⟩) (fun x31 => ?_)
            refine j_if_eq C 108 dX7_orders_73 (by decide) (fun c32 => ?_) (fun c32 => ?_)
            · exact hk29 y20
            · refine j_lload C dX7_orders_76 4 rfl ?_
              refine j_aload_n C dX7_orders_78 0 rfl rfl ?_
              refine j_getR C wfl_X7_57 dX7_orders_79 (fun a33 => ?_)
              refine j_bipush C (36 : Int32) dX7_orders_82 (by decide) ?_
              refine j_iload_n C dX7_orders_84 2 rfl rfl ?_
              refine j_aload_n C dX7_orders_85 0 rfl rfl ?_
              refine j_iload C dX7_orders_86 5 rfl ?_
              refine j_cIp (st := [.int i3, .int (36 : Int32), .ref a33, .long y20]) (fun x e => ⟨runsV C wml_X7_154 wce_X7_step (c_X7_step (bL B) (bD B) _ _ _ x e).1 rfl rfl rfl rfl rfl dX7_orders_88, (c_X7_step (bL B) (bD B) _ _ _ x e).2⟩) (fun x34 => ?_)
              refine j_isub C dX7_orders_91 ?_
              refine j_imul C dX7_orders_92 ?_
              refine j_bipush C (6 : Int32) dX7_orders_93 (by decide) ?_
              refine j_iload C dX7_orders_95 5 rfl ?_
              refine j_imul C dX7_orders_97 ?_
              refine j_iadd C dX7_orders_98 ?_
              refine j_iload_n C dX7_orders_99 3 rfl rfl ?_
              refine j_bipush C (6 : Int32) dX7_orders_100 (by decide) ?_
              refine j_idiv C dX7_orders_102 ?_
              refine j_iadd C dX7_orders_103 ?_
              refine j_laload C dX7_orders_104 (fun y35 => ?_)
              refine j_ladd C dX7_orders_105 ?_
              refine j_nmL (fun y36 => ?_)
              refine j_lstore (lv' := [(4, .long y36), (0, .ref a0), (1, .int x2), (2, .int i3), (3, .int i14), (6, .int i21)]) C dX7_orders_106 rfl rfl ?_
              refine J.sub (lv' := [(0, .ref a0), (1, .int x2), (2, .int i3), (3, .int i14), (4, .long y36), (6, .int i21)]) [1, 2, 3, 4, 0, 5] rfl ?_
              exact hk29 y36
      refine j_if_ne C 37 dX7_orders_30 (by decide) (fun c37 => ?_) (fun c37 => ?_)
      · refine j_lconst C (0 : Int64) dX7_orders_37 (by decide) ?_
        exact hk19 (0 : Int64)
      · refine j_lconst C (1 : Int64) dX7_orders_33 (by decide) ?_
        refine j_goto C 38 dX7_orders_34 (by decide) ?_
        exact hk19 (1 : Int64)
def f_X7_pour (a0 : Nat) (p1 : Int32) (h : Hp) : Option (Int32 × Hp) :=
  bnd (gO h a0 7) fun _ => bnd (f_X7_isSack a0 p1 h) fun x1 => if x1 = 0 then (some ((-1 : Int32), h)) else (bnd (f_X7_isWaiting a0 p1 h) fun x3 => jn0 (some ((-2 : Int32), h)) fun k4 => if x3 = 0 then k4 else (bnd (f_X7_mayNow a0 p1 h) fun x6 => if x6 = 0 then k4 else (bnd (f_X7_known a0 h) fun h8 => bnd (gR h8 a0 7 6) fun a9 => bnd (gR h8 a0 7 6) fun a10 => bnd (ldI 0 h8 a10 (51 : Int32)) fun x11 => bnd (f_X7_ends a0 x11 p1 h8) fun x12 => bnd (stI 0 h8 a9 (51 : Int32) x12) fun h13 => bnd (gR h13 a0 7 6) fun a14 => bnd (gR h13 a0 7 6) fun a15 => bnd (ldI 0 h13 a15 (52 : Int32)) fun x16 => bnd (stI 0 h13 a14 (53 : Int32) x16) fun h17 => bnd (gR h17 a0 7 6) fun a18 => bnd (f_X7_of a0 p1 (0 : Int32) h17) fun x19 => bnd (stI 0 h17 a18 (52 : Int32) x19) fun h20 => bnd (gR h20 a0 7 6) fun a21 => bnd (stI 0 h20 a21 (((5 : Int32) * p1) + (4 : Int32)) (1 : Int32)) fun h22 => bnd (pF h22 a0 7 9 (.int (0 : Int32))) fun h23 => bnd (gR h23 a0 7 6) fun a24 => bnd (ldI 0 h23 a24 (51 : Int32)) fun x25 => some (x25, h23))))
set_option maxHeartbeats 4000000 in
set_option maxRecDepth 100000 in
theorem c_X7_pour (l : Launch) (D : hD) (a0 : Nat) (p1 : Int32) (h : Hp) (x : (Int32 × Hp)) (e : f_X7_pour a0 p1 h = some x) : (∃ fs, gO h a0 7 = some fs) ∧ Ct l D yX7_pour cX7_pour 2 (some .int) 2 46 [.ref a0, .int p1] h (some (.int x.1)) x.2 := by
  obtain ⟨fs, g1, g2⟩ := bnd_some e
  refine ⟨⟨fs, g1⟩, ?_⟩
  refine ct_of (out := oI) g2 (by decide +kernel) rfl (fun B C hin hl hd => ?_)
  subst hl; subst hd
  show J B _ _ h 0 [(0, .ref a0), (1, .int p1)] []
  refine j_aload_n C dX7_pour_0 0 rfl rfl ?_
  refine j_iload_n C dX7_pour_1 1 rfl rfl ?_
  refine j_cIp (st := []) (fun x e => ⟨runsV C wml_X7_118 wce_X7_isSack (c_X7_isSack (bL B) (bD B) _ _ _ x e).1 rfl rfl rfl rfl rfl dX7_pour_2, (c_X7_isSack (bL B) (bD B) _ _ _ x e).2⟩) (fun x1 => ?_)
  refine j_if_ne C 10 dX7_pour_5 (by decide) (fun c2 => ?_) (fun c2 => ?_)
  · refine j_aload_n C dX7_pour_10 0 rfl rfl ?_
    refine j_iload_n C dX7_pour_11 1 rfl rfl ?_
    refine j_cIp (st := []) (fun x e => ⟨runsV C wml_X7_125 wce_X7_isWaiting (c_X7_isWaiting (bL B) (bD B) _ _ _ x e).1 rfl rfl rfl rfl rfl dX7_pour_12, (c_X7_isWaiting (bL B) (bD B) _ _ _ x e).2⟩) (fun x3 => ?_)
    refine J.jn0 (h0 := h) (lv0 := []) (st0 := []) 26 ?_ (fun k4 hk4 => ?_)
    · refine j_bipush C (-2 : Int32) dX7_pour_26 (by decide) ?_
      exact j_iret C dX7_pour_28
    refine j_if_eq C 26 dX7_pour_15 (by decide) (fun c5 => ?_) (fun c5 => ?_)
    · refine J.sub (lv' := []) [] rfl ?_
      exact hk4
    · refine j_aload_n C dX7_pour_18 0 rfl rfl ?_
      refine j_iload_n C dX7_pour_19 1 rfl rfl ?_
      refine j_cIp (st := []) (fun x e => ⟨runsV C wml_X7_128 wce_X7_mayNow (c_X7_mayNow (bL B) (bD B) _ _ _ x e).1 rfl rfl rfl rfl rfl dX7_pour_20, (c_X7_mayNow (bL B) (bD B) _ _ _ x e).2⟩) (fun x6 => ?_)
      refine j_if_ne C 29 dX7_pour_23 (by decide) (fun c7 => ?_) (fun c7 => ?_)
      · refine j_aload_n C dX7_pour_29 0 rfl rfl ?_
        refine j_cV (st := []) (fun x e => ⟨runsV C wml_X7_135 wce_X7_known (c_X7_known (bL B) (bD B) _ _ x e).1 rfl rfl rfl rfl rfl dX7_pour_30, (c_X7_known (bL B) (bD B) _ _ x e).2⟩) (fun h8 => ?_)
        refine j_aload_n C dX7_pour_33 0 rfl rfl ?_
        refine j_getR C wfl_X7_23 dX7_pour_34 (fun a9 => ?_)
        refine j_bipush C (51 : Int32) dX7_pour_37 (by decide) ?_
        refine j_aload_n C dX7_pour_39 0 rfl rfl ?_
        refine j_aload_n C dX7_pour_40 0 rfl rfl ?_
        refine j_getR C wfl_X7_23 dX7_pour_41 (fun a10 => ?_)
        refine j_bipush C (51 : Int32) dX7_pour_44 (by decide) ?_
        refine j_iaload C dX7_pour_46 (fun x11 => ?_)
        refine j_iload_n C dX7_pour_47 1 rfl rfl ?_
        refine j_cIp (st := [.int (51 : Int32), .ref a9]) (fun x e => ⟨runsV C wml_X7_138 wce_X7_ends (c_X7_ends (bL B) (bD B) _ _ _ _ x e).1 rfl rfl rfl rfl rfl dX7_pour_48, (c_X7_ends (bL B) (bD B) _ _ _ _ x e).2⟩) (fun x12 => ?_)
        refine j_iastore C dX7_pour_51 (fun h13 => ?_)
        refine j_aload_n C dX7_pour_52 0 rfl rfl ?_
        refine j_getR C wfl_X7_23 dX7_pour_53 (fun a14 => ?_)
        refine j_bipush C (53 : Int32) dX7_pour_56 (by decide) ?_
        refine j_aload_n C dX7_pour_58 0 rfl rfl ?_
        refine j_getR C wfl_X7_23 dX7_pour_59 (fun a15 => ?_)
        refine j_bipush C (52 : Int32) dX7_pour_62 (by decide) ?_
        refine j_iaload C dX7_pour_64 (fun x16 => ?_)
        refine j_iastore C dX7_pour_65 (fun h17 => ?_)
        refine j_aload_n C dX7_pour_66 0 rfl rfl ?_
        refine j_getR C wfl_X7_23 dX7_pour_67 (fun a18 => ?_)
        refine j_bipush C (52 : Int32) dX7_pour_70 (by decide) ?_
        refine j_aload_n C dX7_pour_72 0 rfl rfl ?_
        refine j_iload_n C dX7_pour_73 1 rfl rfl ?_
        refine j_iconst C (0 : Int32) dX7_pour_74 (by decide) ?_
        refine j_cIp (st := [.int (52 : Int32), .ref a18]) (fun x e => ⟨runsV C wml_X7_114 wce_X7_of (c_X7_of (bL B) (bD B) _ _ _ _ x e).1 rfl rfl rfl rfl rfl dX7_pour_75, (c_X7_of (bL B) (bD B) _ _ _ _ x e).2⟩) (fun x19 => ?_)
        refine j_iastore C dX7_pour_78 (fun h20 => ?_)
        refine j_aload_n C dX7_pour_79 0 rfl rfl ?_
        refine j_getR C wfl_X7_23 dX7_pour_80 (fun a21 => ?_)
        refine j_iconst C (5 : Int32) dX7_pour_83 (by decide) ?_
        refine j_iload_n C dX7_pour_84 1 rfl rfl ?_
        refine j_imul C dX7_pour_85 ?_
        refine j_iconst C (4 : Int32) dX7_pour_86 (by decide) ?_
        refine j_iadd C dX7_pour_87 ?_
        refine j_iconst C (1 : Int32) dX7_pour_88 (by decide) ?_
        refine j_iastore C dX7_pour_89 (fun h22 => ?_)
        refine j_aload_n C dX7_pour_90 0 rfl rfl ?_
        refine j_iconst C (0 : Int32) dX7_pour_91 (by decide) ?_
        refine j_put C wfp_X7_98 dX7_pour_92 ⟨_, rfl⟩ (fun h23 => ?_)
        refine j_aload_n C dX7_pour_95 0 rfl rfl ?_
        refine j_getR C wfl_X7_23 dX7_pour_96 (fun a24 => ?_)
        refine j_bipush C (51 : Int32) dX7_pour_99 (by decide) ?_
        refine j_iaload C dX7_pour_101 (fun x25 => ?_)
        exact j_iret C dX7_pour_102
      · refine J.sub (lv' := []) [] rfl ?_
        exact hk4
  · refine j_iconst C (-1 : Int32) dX7_pour_8 (by decide) ?_
    exact j_iret C dX7_pour_9
def f_X7_queue (a0 : Nat) (p1 : Int32) (h : Hp) : Option (Int32 × Hp) :=
  bnd (gO h a0 7) fun _ => bnd (f_X7_isSack a0 p1 h) fun x1 => if x1 = 0 then (some ((-1 : Int32), h)) else (bnd (f_X7_isWaiting a0 p1 h) fun x3 => wl2 (fun r6 (i4 : Int32) (i5 : Int32) => bnd (gI h a0 7 9) fun x7 => if x7 ≤ i5 then (if i4 = 0 then (some ((-2 : Int32), h)) else (bnd (gR h a0 7 10) fun a10 => bnd (gI h a0 7 9) fun x11 => bnd (stI 0 h a10 x11 p1) fun h12 => bnd (gI h12 a0 7 9) fun x13 => bnd (pF h12 a0 7 9 (.int (x13 + (1 : Int32)))) fun h14 => bnd (gI h14 a0 7 9) fun x15 => some (x15, h14))) else (jn1 (fun (w16 : Int32) => r6 w16 (i5 + (1 : Int32))) fun k17 => jn0 (k17 (0 : Int32)) fun k18 => if i4 = 0 then k18 else (bnd (gR h a0 7 10) fun a20 => bnd (ldI 0 h a20 i5) fun x21 => if x21 = p1 then k18 else (k17 (1 : Int32))))) fuel x3 (0 : Int32))
set_option maxHeartbeats 4000000 in
set_option maxRecDepth 100000 in
theorem c_X7_queue (l : Launch) (D : hD) (a0 : Nat) (p1 : Int32) (h : Hp) (x : (Int32 × Hp)) (e : f_X7_queue a0 p1 h = some x) : (∃ fs, gO h a0 7 = some fs) ∧ Ct l D yX7_queue cX7_queue 4 (some .int) 2 46 [.ref a0, .int p1] h (some (.int x.1)) x.2 := by
  obtain ⟨fs, g1, g2⟩ := bnd_some e
  refine ⟨⟨fs, g1⟩, ?_⟩
  refine ct_of (out := oI) g2 (by decide +kernel) rfl (fun B C hin hl hd => ?_)
  subst hl; subst hd
  show J B _ _ h 0 [(0, .ref a0), (1, .int p1)] []
  refine j_aload_n C dX7_queue_0 0 rfl rfl ?_
  refine j_iload_n C dX7_queue_1 1 rfl rfl ?_
  refine j_cIp (st := []) (fun x e => ⟨runsV C wml_X7_118 wce_X7_isSack (c_X7_isSack (bL B) (bD B) _ _ _ x e).1 rfl rfl rfl rfl rfl dX7_queue_2, (c_X7_isSack (bL B) (bD B) _ _ _ x e).2⟩) (fun x1 => ?_)
  refine j_if_ne C 10 dX7_queue_5 (by decide) (fun c2 => ?_) (fun c2 => ?_)
  · refine j_aload_n C dX7_queue_10 0 rfl rfl ?_
    refine j_iload_n C dX7_queue_11 1 rfl rfl ?_
    refine j_cIp (st := []) (fun x e => ⟨runsV C wml_X7_125 wce_X7_isWaiting (c_X7_isWaiting (bL B) (bD B) _ _ _ x e).1 rfl rfl rfl rfl rfl dX7_queue_12, (c_X7_isWaiting (bL B) (bD B) _ _ _ x e).2⟩) (fun x3 => ?_)
    refine j_istore_n (lv' := [(2, .int x3), (0, .ref a0), (1, .int p1)]) C dX7_queue_15 rfl rfl rfl ?_
    refine j_iconst C (0 : Int32) dX7_queue_16 (by decide) ?_
    refine j_istore_n (lv' := [(3, .int (0 : Int32)), (2, .int x3), (0, .ref a0), (1, .int p1)]) C dX7_queue_17 rfl rfl rfl ?_
    refine J.sub (lv' := [(0, .ref a0), (1, .int p1), (2, .int x3), (3, .int (0 : Int32))]) [2, 3, 1, 0] rfl ?_
    refine J.wl2 18 (fun (i4 : Int32) (i5 : Int32) => h) (fun (i4 : Int32) (i5 : Int32) => [(0, .ref a0), (1, .int p1), (2, .int i4), (3, .int i5)]) (fun (i4 : Int32) (i5 : Int32) => []) (fun r6 hr6 i4 i5 => ?_) fuel x3 (0 : Int32)
    refine j_iload_n C dX7_queue_18 3 rfl rfl ?_
    refine j_aload_n C dX7_queue_19 0 rfl rfl ?_
    refine j_getI C wfl_X7_98 dX7_queue_20 (fun x7 => ?_)
    refine j_icmp_ge C 52 dX7_queue_23 (by decide) (fun c8 => ?_) (fun c8 => ?_)
    · refine j_iload_n C dX7_queue_52 2 rfl rfl ?_
      refine j_if_ne C 59 dX7_queue_53 (by decide) (fun c9 => ?_) (fun c9 => ?_)
      · refine j_aload_n C dX7_queue_59 0 rfl rfl ?_
        refine j_getR C wfl_X7_26 dX7_queue_60 (fun a10 => ?_)
        refine j_aload_n C dX7_queue_63 0 rfl rfl ?_
        refine j_getI C wfl_X7_98 dX7_queue_64 (fun x11 => ?_)
        refine j_iload_n C dX7_queue_67 1 rfl rfl ?_
        refine j_iastore C dX7_queue_68 (fun h12 => ?_)
        refine j_aload_n C dX7_queue_69 0 rfl rfl ?_
        refine j_dup C dX7_queue_70 (fun _ => rfl) ?_
        refine j_getI C wfl_X7_98 dX7_queue_71 (fun x13 => ?_)
        refine j_iconst C (1 : Int32) dX7_queue_74 (by decide) ?_
        refine j_iadd C dX7_queue_75 ?_
        refine j_put C wfp_X7_98 dX7_queue_76 ⟨_, rfl⟩ (fun h14 => ?_)
        refine j_aload_n C dX7_queue_79 0 rfl rfl ?_
        refine j_getI C wfl_X7_98 dX7_queue_80 (fun x15 => ?_)
        exact j_iret C dX7_queue_83
      · refine j_bipush C (-2 : Int32) dX7_queue_56 (by decide) ?_
        exact j_iret C dX7_queue_58
    · refine j_iload_n C dX7_queue_26 2 rfl rfl ?_
      refine J.jn1 45 (fun (w16 : Int32) => h) (fun (w16 : Int32) => [(0, .ref a0), (1, .int p1), (3, .int i5)]) (fun (w16 : Int32) => [.int w16]) (fun w16 => ?_) (fun k17 hk17 => ?_)
      · refine j_istore_n (lv' := [(2, .int w16), (0, .ref a0), (1, .int p1), (3, .int i5)]) C dX7_queue_45 rfl rfl rfl ?_
        refine j_iinc (lv' := [(3, .int (i5 + (1 : Int32))), (2, .int w16), (0, .ref a0), (1, .int p1)]) C (1 : Int32) dX7_queue_46 3 rfl (by decide) rfl rfl ?_
        refine j_goto C 18 dX7_queue_49 (by decide) ?_
        refine J.sub (lv' := [(0, .ref a0), (1, .int p1), (2, .int w16), (3, .int (i5 + (1 : Int32)))]) [2, 3, 1, 0] rfl ?_
        exact hr6 w16 (i5 + (1 : Int32))
      refine J.jn0 (h0 := h) (lv0 := [(0, .ref a0), (1, .int p1), (3, .int i5)]) (st0 := []) 44 ?_ (fun k18 hk18 => ?_)
      · refine j_iconst C (0 : Int32) dX7_queue_44 (by decide) ?_
        exact hk17 (0 : Int32)
      refine j_if_eq C 44 dX7_queue_27 (by decide) (fun c19 => ?_) (fun c19 => ?_)
      · refine J.sub (lv' := [(0, .ref a0), (1, .int p1), (3, .int i5)]) [0, 1, 3] rfl ?_
        exact hk18
      · refine j_aload_n C dX7_queue_30 0 rfl rfl ?_
        refine j_getR C wfl_X7_26 dX7_queue_31 (fun a20 => ?_)
        refine j_iload_n C dX7_queue_34 3 rfl rfl ?_
        refine j_iaload C dX7_queue_35 (fun x21 => ?_)
        refine j_iload_n C dX7_queue_36 1 rfl rfl ?_
        refine j_icmp_eq C 44 dX7_queue_37 (by decide) (fun c22 => ?_) (fun c22 => ?_)
        · refine J.sub (lv' := [(0, .ref a0), (1, .int p1), (3, .int i5)]) [0, 1, 3] rfl ?_
          exact hk18
        · refine j_iconst C (1 : Int32) dX7_queue_40 (by decide) ?_
          refine j_goto C 45 dX7_queue_41 (by decide) ?_
          refine J.sub (lv' := [(0, .ref a0), (1, .int p1), (3, .int i5)]) [0, 1, 3] rfl ?_
          exact hk17 (1 : Int32)
  · refine j_iconst C (-1 : Int32) dX7_queue_8 (by decide) ?_
    exact j_iret C dX7_queue_9
def f_X7_sack (a0 : Nat) (p1 : Int32) (p2 : Int32) (h : Hp) : Option Int32 :=
  bnd (gO h a0 7) fun _ => bnd (f_X7_isSack a0 p1 h) fun x1 => jn1 (fun (w2 : Int32) => some w2) fun k3 => jn0 (k3 (-1 : Int32)) fun k4 => if x1 = 0 then k4 else (bnd (f_X7_in p2.toInt64 (0 : Int64) (4 : Int64)) fun x6 => if x6 = 0 then k4 else (bnd (f_X7_of a0 p1 p2 h) fun x8 => k3 x8))
set_option maxHeartbeats 4000000 in
set_option maxRecDepth 100000 in
theorem c_X7_sack (l : Launch) (D : hD) (a0 : Nat) (p1 : Int32) (p2 : Int32) (h : Hp) (x : Int32) (e : f_X7_sack a0 p1 p2 h = some x) : (∃ fs, gO h a0 7 = some fs) ∧ Ct l D yX7_sack cX7_sack 3 (some .int) 2 46 [.ref a0, .int p1, .int p2] h (some (.int x)) h := by
  obtain ⟨fs, g1, g2⟩ := bnd_some e
  refine ⟨⟨fs, g1⟩, ?_⟩
  refine ct_of (out := (oIp h)) g2 (by decide +kernel) rfl (fun B C hin hl hd => ?_)
  subst hl; subst hd
  show J B _ _ h 0 [(0, .ref a0), (1, .int p1), (2, .int p2)] []
  refine j_aload_n C dX7_sack_0 0 rfl rfl ?_
  refine j_iload_n C dX7_sack_1 1 rfl rfl ?_
  refine j_cIp (st := []) (fun x e => ⟨runsV C wml_X7_118 wce_X7_isSack (c_X7_isSack (bL B) (bD B) _ _ _ x e).1 rfl rfl rfl rfl rfl dX7_sack_2, (c_X7_isSack (bL B) (bD B) _ _ _ x e).2⟩) (fun x1 => ?_)
  refine J.jn1 30 (fun (w2 : Int32) => h) (fun (w2 : Int32) => []) (fun (w2 : Int32) => [.int w2]) (fun w2 => ?_) (fun k3 hk3 => ?_)
  · exact j_iretp C dX7_sack_30
  refine J.jn0 (h0 := h) (lv0 := []) (st0 := []) 29 ?_ (fun k4 hk4 => ?_)
  · refine j_iconst C (-1 : Int32) dX7_sack_29 (by decide) ?_
    exact hk3 (-1 : Int32)
  refine j_if_eq C 29 dX7_sack_5 (by decide) (fun c5 => ?_) (fun c5 => ?_)
  · refine J.sub (lv' := []) [] rfl ?_
    exact hk4
  · refine j_iload_n C dX7_sack_8 2 rfl rfl ?_
    refine j_i2l C dX7_sack_9 ?_
    refine j_lconst C (0 : Int64) dX7_sack_10 (by decide) ?_
    refine j_ldc2_w C dX7_sack_11 wcl_X7_94 ?_
    refine j_cIp (st := []) (fun x e => ⟨runsS C wml_X7_69 wce_X7_in rfl rfl rfl rfl rfl dX7_sack_14, c_X7_in (bL B) (bD B) _ _ _ _ x e⟩) (fun x6 => ?_)
    refine j_if_eq C 29 dX7_sack_17 (by decide) (fun c7 => ?_) (fun c7 => ?_)
    · refine J.sub (lv' := []) [] rfl ?_
      exact hk4
    · refine j_aload_n C dX7_sack_20 0 rfl rfl ?_
      refine j_iload_n C dX7_sack_21 1 rfl rfl ?_
      refine j_iload_n C dX7_sack_22 2 rfl rfl ?_
      refine j_cIp (st := []) (fun x e => ⟨runsV C wml_X7_114 wce_X7_of (c_X7_of (bL B) (bD B) _ _ _ _ x e).1 rfl rfl rfl rfl rfl dX7_sack_23, (c_X7_of (bL B) (bD B) _ _ _ _ x e).2⟩) (fun x8 => ?_)
      refine j_goto C 30 dX7_sack_26 (by decide) ?_
      refine J.sub (lv' := []) [] rfl ?_
      exact hk3 x8
def f_X7_sell (a0 : Nat) (p1 : Int32) (h : Hp) : Option (Int32 × Hp) :=
  bnd (gO h a0 7) fun _ => bnd (f_X7_isSack a0 p1 h) fun x1 => if x1 = 0 then (some ((-1 : Int32), h)) else (bnd (f_X7_isWaiting a0 p1 h) fun x3 => if x3 = 0 then (some ((-2 : Int32), h)) else (bnd (f_X7_known a0 h) fun h5 => bnd (gR h5 a0 7 6) fun a6 => bnd (stI 0 h5 a6 (((5 : Int32) * p1) + (4 : Int32)) (2 : Int32)) fun h7 => bnd (pF h7 a0 7 9 (.int (0 : Int32))) fun h8 => bnd (f_X7_of a0 p1 (1 : Int32) h8) fun x9 => some (x9, h8)))
set_option maxHeartbeats 4000000 in
set_option maxRecDepth 100000 in
theorem c_X7_sell (l : Launch) (D : hD) (a0 : Nat) (p1 : Int32) (h : Hp) (x : (Int32 × Hp)) (e : f_X7_sell a0 p1 h = some x) : (∃ fs, gO h a0 7 = some fs) ∧ Ct l D yX7_sell cX7_sell 2 (some .int) 2 46 [.ref a0, .int p1] h (some (.int x.1)) x.2 := by
  obtain ⟨fs, g1, g2⟩ := bnd_some e
  refine ⟨⟨fs, g1⟩, ?_⟩
  refine ct_of (out := oI) g2 (by decide +kernel) rfl (fun B C hin hl hd => ?_)
  subst hl; subst hd
  show J B _ _ h 0 [(0, .ref a0), (1, .int p1)] []
  refine j_aload_n C dX7_sell_0 0 rfl rfl ?_
  refine j_iload_n C dX7_sell_1 1 rfl rfl ?_
  refine j_cIp (st := []) (fun x e => ⟨runsV C wml_X7_118 wce_X7_isSack (c_X7_isSack (bL B) (bD B) _ _ _ x e).1 rfl rfl rfl rfl rfl dX7_sell_2, (c_X7_isSack (bL B) (bD B) _ _ _ x e).2⟩) (fun x1 => ?_)
  refine j_if_ne C 10 dX7_sell_5 (by decide) (fun c2 => ?_) (fun c2 => ?_)
  · refine j_aload_n C dX7_sell_10 0 rfl rfl ?_
    refine j_iload_n C dX7_sell_11 1 rfl rfl ?_
    refine j_cIp (st := []) (fun x e => ⟨runsV C wml_X7_125 wce_X7_isWaiting (c_X7_isWaiting (bL B) (bD B) _ _ _ x e).1 rfl rfl rfl rfl rfl dX7_sell_12, (c_X7_isWaiting (bL B) (bD B) _ _ _ x e).2⟩) (fun x3 => ?_)
    refine j_if_ne C 21 dX7_sell_15 (by decide) (fun c4 => ?_) (fun c4 => ?_)
    · refine j_aload_n C dX7_sell_21 0 rfl rfl ?_
      refine j_cV (st := []) (fun x e => ⟨runsV C wml_X7_135 wce_X7_known (c_X7_known (bL B) (bD B) _ _ x e).1 rfl rfl rfl rfl rfl dX7_sell_22, (c_X7_known (bL B) (bD B) _ _ x e).2⟩) (fun h5 => ?_)
      refine j_aload_n C dX7_sell_25 0 rfl rfl ?_
      refine j_getR C wfl_X7_23 dX7_sell_26 (fun a6 => ?_)
      refine j_iconst C (5 : Int32) dX7_sell_29 (by decide) ?_
      refine j_iload_n C dX7_sell_30 1 rfl rfl ?_
      refine j_imul C dX7_sell_31 ?_
      refine j_iconst C (4 : Int32) dX7_sell_32 (by decide) ?_
      refine j_iadd C dX7_sell_33 ?_
      refine j_iconst C (2 : Int32) dX7_sell_34 (by decide) ?_
      refine j_iastore C dX7_sell_35 (fun h7 => ?_)
      refine j_aload_n C dX7_sell_36 0 rfl rfl ?_
      refine j_iconst C (0 : Int32) dX7_sell_37 (by decide) ?_
      refine j_put C wfp_X7_98 dX7_sell_38 ⟨_, rfl⟩ (fun h8 => ?_)
      refine j_aload_n C dX7_sell_41 0 rfl rfl ?_
      refine j_iload_n C dX7_sell_42 1 rfl rfl ?_
      refine j_iconst C (1 : Int32) dX7_sell_43 (by decide) ?_
      refine j_cIp (st := []) (fun x e => ⟨runsV C wml_X7_114 wce_X7_of (c_X7_of (bL B) (bD B) _ _ _ _ x e).1 rfl rfl rfl rfl rfl dX7_sell_44, (c_X7_of (bL B) (bD B) _ _ _ _ x e).2⟩) (fun x9 => ?_)
      exact j_iret C dX7_sell_47
    · refine j_bipush C (-2 : Int32) dX7_sell_18 (by decide) ?_
      exact j_iret C dX7_sell_20
  · refine j_iconst C (-1 : Int32) dX7_sell_8 (by decide) ?_
    exact j_iret C dX7_sell_9
def f_X7_bread (a0 : Nat) (h : Hp) : Option Int32 :=
  bnd (gO h a0 7) fun _ => wl2 (fun r3 (i1 : Int32) (i2 : Int32) => bnd (gI h a0 7 9) fun x4 => if x4 ≤ i2 then (some i1) else (bnd (gR h a0 7 10) fun a6 => bnd (ldI 0 h a6 (i2 - (2 : Int32))) fun x7 => bnd (f_X7_of a0 x7 (0 : Int32) h) fun x8 => bnd (gR h a0 7 10) fun a9 => bnd (ldI 0 h a9 (i2 - (1 : Int32))) fun x10 => bnd (f_X7_of a0 x10 (0 : Int32) h) fun x11 => bnd (gR h a0 7 10) fun a12 => bnd (ldI 0 h a12 i2) fun x13 => bnd (f_X7_of a0 x13 (0 : Int32) h) fun x14 => jn1 (fun (w15 : Int32) => nm (i1 + w15) fun v17 => r3 v17 (i2 + (1 : Int32))) fun k16 => jn0 (k16 (0 : Int32)) fun k18 => if x8 = x11 then k18 else (if x11 = x14 then k18 else (if x8 = x14 then k18 else (k16 (1 : Int32)))))) fuel (0 : Int32) (2 : Int32)
set_option maxHeartbeats 4000000 in
set_option maxRecDepth 100000 in
theorem c_X7_bread (l : Launch) (D : hD) (a0 : Nat) (h : Hp) (x : Int32) (e : f_X7_bread a0 h = some x) : (∃ fs, gO h a0 7 = some fs) ∧ Ct l D yX7_bread cX7_bread 6 (some .int) 1 22 [.ref a0] h (some (.int x)) h := by
  obtain ⟨fs, g1, g2⟩ := bnd_some e
  refine ⟨⟨fs, g1⟩, ?_⟩
  refine ct_of (out := (oIp h)) g2 (by decide +kernel) rfl (fun B C hin hl hd => ?_)
  subst hl; subst hd
  show J B _ _ h 0 [(0, .ref a0)] []
  refine j_iconst C (0 : Int32) dX7_bread_0 (by decide) ?_
  refine j_istore_n (lv' := [(1, .int (0 : Int32)), (0, .ref a0)]) C dX7_bread_1 rfl rfl rfl ?_
  refine j_iconst C (2 : Int32) dX7_bread_2 (by decide) ?_
  refine j_istore_n (lv' := [(2, .int (2 : Int32)), (1, .int (0 : Int32)), (0, .ref a0)]) C dX7_bread_3 rfl rfl rfl ?_
  refine J.sub (lv' := [(0, .ref a0), (1, .int (0 : Int32)), (2, .int (2 : Int32))]) [2, 1, 0] rfl ?_
  refine J.wl2 4 (fun (i1 : Int32) (i2 : Int32) => h) (fun (i1 : Int32) (i2 : Int32) => [(0, .ref a0), (1, .int i1), (2, .int i2)]) (fun (i1 : Int32) (i2 : Int32) => []) (fun r3 hr3 i1 i2 => ?_) fuel (0 : Int32) (2 : Int32)
  refine j_iload_n C dX7_bread_4 2 rfl rfl ?_
  refine j_aload_n C dX7_bread_5 0 rfl rfl ?_
  refine j_getI C wfl_X7_98 dX7_bread_6 (fun x4 => ?_)
  refine j_icmp_ge C 87 dX7_bread_9 (by decide) (fun c5 => ?_) (fun c5 => ?_)
  · refine j_iload_n C dX7_bread_87 1 rfl rfl ?_
    exact j_iretp C dX7_bread_88
  · refine j_aload_n C dX7_bread_12 0 rfl rfl ?_
    refine j_aload_n C dX7_bread_13 0 rfl rfl ?_
    refine j_getR C wfl_X7_26 dX7_bread_14 (fun a6 => ?_)
    refine j_iload_n C dX7_bread_17 2 rfl rfl ?_
    refine j_iconst C (2 : Int32) dX7_bread_18 (by decide) ?_
    refine j_isub C dX7_bread_19 ?_
    refine j_iaload C dX7_bread_20 (fun x7 => ?_)
    refine j_iconst C (0 : Int32) dX7_bread_21 (by decide) ?_
    refine j_cIp (st := []) (fun x e => ⟨runsV C wml_X7_114 wce_X7_of (c_X7_of (bL B) (bD B) _ _ _ _ x e).1 rfl rfl rfl rfl rfl dX7_bread_22, (c_X7_of (bL B) (bD B) _ _ _ _ x e).2⟩) (fun x8 => ?_)
    refine j_istore_n (lv' := [(3, .int x8), (0, .ref a0), (1, .int i1), (2, .int i2)]) C dX7_bread_25 rfl rfl rfl ?_
    refine j_aload_n C dX7_bread_26 1 rfl rfl ?_
    refine j_aload_n C dX7_bread_27 1 rfl rfl ?_
    refine j_getR C wfl_X7_26 dX7_bread_28 (fun a9 => ?_)
    refine j_iload_n C dX7_bread_31 3 rfl rfl ?_
    refine j_iconst C (1 : Int32) dX7_bread_32 (by decide) ?_
    refine j_isub C dX7_bread_33 ?_
    refine j_iaload C dX7_bread_34 (fun x10 => ?_)
    refine j_iconst C (0 : Int32) dX7_bread_35 (by decide) ?_
    refine j_cIp (st := []) (fun x e => ⟨runsV C wml_X7_114 wce_X7_of (c_X7_of (bL B) (bD B) _ _ _ _ x e).1 rfl rfl rfl rfl rfl dX7_bread_36, (c_X7_of (bL B) (bD B) _ _ _ _ x e).2⟩) (fun x11 => ?_)
    refine j_istore (lv' := [(4, .int x11), (3, .int x8), (0, .ref a0), (1, .int i1), (2, .int i2)]) C dX7_bread_39 rfl rfl ?_
    refine j_aload_n C dX7_bread_41 2 rfl rfl ?_
    refine j_aload_n C dX7_bread_42 2 rfl rfl ?_
    refine j_getR C wfl_X7_26 dX7_bread_43 (fun a12 => ?_)
    refine j_iload_n C dX7_bread_46 4 rfl rfl ?_
    refine j_iaload C dX7_bread_47 (fun x13 => ?_)
    refine j_iconst C (0 : Int32) dX7_bread_48 (by decide) ?_
    refine j_cIp (st := []) (fun x e => ⟨runsV C wml_X7_114 wce_X7_of (c_X7_of (bL B) (bD B) _ _ _ _ x e).1 rfl rfl rfl rfl rfl dX7_bread_49, (c_X7_of (bL B) (bD B) _ _ _ _ x e).2⟩) (fun x14 => ?_)
    refine j_istore (lv' := [(5, .int x14), (4, .int x11), (3, .int x8), (0, .ref a0), (1, .int i1), (2, .int i2)]) C dX7_bread_52 rfl rfl ?_
    refine j_iload_n C dX7_bread_54 4 rfl rfl ?_
    refine j_iload_n C dX7_bread_55 2 rfl rfl ?_
    refine j_iload C dX7_bread_56 1 rfl ?_
    refine J.jn1 79 (fun (w15 : Int32) => h) (fun (w15 : Int32) => [(0, .ref a0), (2, .int i2)]) (fun (w15 : Int32) => [.int w15, .int i1]) (fun w15 => ?_) (fun k16 hk16 => ?_)
    · refine j_iadd C dX7_bread_79 ?_
      refine j_nmI (fun v17 => ?_)
      refine j_istore_n (lv' := [(1, .int v17), (0, .ref a0), (2, .int i2)]) C dX7_bread_80 rfl rfl rfl ?_
      refine j_iinc (lv' := [(2, .int (i2 + (1 : Int32))), (1, .int v17), (0, .ref a0)]) C (1 : Int32) dX7_bread_81 2 rfl (by decide) rfl rfl ?_
      refine j_goto C 4 dX7_bread_84 (by decide) ?_
      refine J.sub (lv' := [(0, .ref a0), (1, .int v17), (2, .int (i2 + (1 : Int32)))]) [2, 1, 0] rfl ?_
      exact hr3 v17 (i2 + (1 : Int32))
    refine J.jn0 (h0 := h) (lv0 := [(0, .ref a0), (2, .int i2)]) (st0 := [.int i1]) 78 ?_ (fun k18 hk18 => ?_)
    · refine j_iconst C (0 : Int32) dX7_bread_78 (by decide) ?_
      exact hk16 (0 : Int32)
    refine j_icmp_eq C 78 dX7_bread_58 (by decide) (fun c19 => ?_) (fun c19 => ?_)
    · refine J.sub (lv' := [(0, .ref a0), (2, .int i2)]) [3, 5] rfl ?_
      exact hk18
    · refine j_iload C dX7_bread_61 1 rfl ?_
      refine j_iload C dX7_bread_63 0 rfl ?_
      refine j_icmp_eq C 78 dX7_bread_65 (by decide) (fun c20 => ?_) (fun c20 => ?_)
      · refine J.sub (lv' := [(0, .ref a0), (2, .int i2)]) [3, 5] rfl ?_
        exact hk18
      · refine j_iload_n C dX7_bread_68 2 rfl rfl ?_
        refine j_iload C dX7_bread_69 0 rfl ?_
        refine j_icmp_eq C 78 dX7_bread_71 (by decide) (fun c21 => ?_) (fun c21 => ?_)
        · refine J.sub (lv' := [(0, .ref a0), (2, .int i2)]) [3, 5] rfl ?_
          exact hk18
        · refine j_iconst C (1 : Int32) dX7_bread_74 (by decide) ?_
          refine j_goto C 79 dX7_bread_75 (by decide) ?_
          refine J.sub (lv' := [(0, .ref a0), (2, .int i2)]) [3, 5] rfl ?_
          exact hk16 (1 : Int32)
