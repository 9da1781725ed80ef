def f_X1_takeRest (a0 : Nat) (p1 : Int32) (h : Hp) : Option Hp :=
  bnd (gO h a0 1) fun _ => bnd (pF h a0 1 7 (.int (0 : Int32))) fun h1 => wl2 (fun r4 (i2 : Int32) (h3 : Hp) => bnd (gI h3 a0 1 4) fun x5 => if x5 ≤ i2 then (some h3) else (jn1 (fun (h7 : Hp) => r4 (i2 + (1 : Int32)) h7) fun k8 => if ((p1 >>> (i2 &&& 31)) &&& (1 : Int32)) = 0 then (bnd (gR h3 a0 1 6) fun a10 => bnd (gI h3 a0 1 7) fun x11 => bnd (stI 0 h3 a10 x11 i2) fun h12 => bnd (gI h12 a0 1 7) fun x13 => bnd (pF h12 a0 1 7 (.int (x13 + (1 : Int32)))) fun h14 => k8 h14) else (k8 h3))) fuel (0 : Int32) h1
set_option maxHeartbeats 4000000 in
set_option maxRecDepth 100000 in
theorem c_X1_takeRest (l : Launch) (D : hD) (a0 : Nat) (p1 : Int32) (h : Hp) (x : Hp) (e : f_X1_takeRest a0 p1 h = some x) : (∃ fs, gO h a0 1 = some fs) ∧ Ct l D yX1_takeRest cX1_takeRest 3 none 0 0 [.ref a0, .int p1] h none x := by
  obtain ⟨fs, g1, g2⟩ := bnd_some e
  refine ⟨⟨fs, g1⟩, ?_⟩
  refine ct_of (out := oV) g2 (by decide +kernel) rfl (fun B C hin hl hd => ?_)
  subst hl; subst hd
  show J B _ _ h 0 [(0, .ref a0), (1, .int p1)] []
  refine j_aload_n C dX1_takeRest_0 0 rfl rfl ?_
  refine j_iconst C (0 : Int32) dX1_takeRest_1 (by decide) ?_
  refine j_put C wfp_X1_122 dX1_takeRest_2 ⟨_, rfl⟩ (fun h1 => ?_)
  refine j_iconst C (0 : Int32) dX1_takeRest_5 (by decide) ?_
  refine j_istore_n (lv' := [(2, .int (0 : Int32)), (0, .ref a0), (1, .int p1)]) C dX1_takeRest_6 rfl rfl rfl ?_
  refine J.sub (lv' := [(0, .ref a0), (1, .int p1), (2, .int (0 : Int32))]) [1, 2, 0] rfl ?_
  refine J.wl2 7 (fun (i2 : Int32) (h3 : Hp) => h3) (fun (i2 : Int32) (h3 : Hp) => [(0, .ref a0), (1, .int p1), (2, .int i2)]) (fun (i2 : Int32) (h3 : Hp) => []) (fun r4 hr4 i2 h3 => ?_) fuel (0 : Int32) h1
  refine j_iload_n C dX1_takeRest_7 2 rfl rfl ?_
  refine j_aload_n C dX1_takeRest_8 0 rfl rfl ?_
  refine j_getI C wfl_X1_92 dX1_takeRest_9 (fun x5 => ?_)
  refine j_icmp_ge C 49 dX1_takeRest_12 (by decide) (fun c6 => ?_) (fun c6 => ?_)
  · exact j_vret C dX1_takeRest_49
  · refine j_iload_n C dX1_takeRest_15 1 rfl rfl ?_
    refine j_iload_n C dX1_takeRest_16 2 rfl rfl ?_
    refine j_ishr C dX1_takeRest_17 ?_
    refine j_iconst C (1 : Int32) dX1_takeRest_18 (by decide) ?_
    refine j_iand C dX1_takeRest_19 ?_
    refine J.jn1 43 (fun (h7 : Hp) => h7) (fun (h7 : Hp) => [(0, .ref a0), (1, .int p1), (2, .int i2)]) (fun (h7 : Hp) => []) (fun h7 => ?_) (fun k8 hk8 => ?_)
    · refine j_iinc (lv' := [(2, .int (i2 + (1 : Int32))), (0, .ref a0), (1, .int p1)]) C (1 : Int32) dX1_takeRest_43 2 rfl (by decide) rfl rfl ?_
      refine j_goto C 7 dX1_takeRest_46 (by decide) ?_
      refine J.sub (lv' := [(0, .ref a0), (1, .int p1), (2, .int (i2 + (1 : Int32)))]) [1, 2, 0] rfl ?_
      exact hr4 (i2 + (1 : Int32)) h7
    refine j_if_ne C 43 dX1_takeRest_20 (by decide) (fun c9 => ?_) (fun c9 => ?_)
    · exact hk8 h3
    · refine j_aload_n C dX1_takeRest_23 0 rfl rfl ?_
      refine j_getR C wfl_X1_24 dX1_takeRest_24 (fun a10 => ?_)
      refine j_aload_n C dX1_takeRest_27 0 rfl rfl ?_
      refine j_getI C wfl_X1_122 dX1_takeRest_28 (fun x11 => ?_)
      refine j_iload_n C dX1_takeRest_31 2 rfl rfl ?_
      refine j_iastore C dX1_takeRest_32 (fun h12 => ?_)
      refine j_aload_n C dX1_takeRest_33 0 rfl rfl ?_
      refine j_dup C dX1_takeRest_34 (fun _ => rfl) ?_
      refine j_getI C wfl_X1_122 dX1_takeRest_35 (fun x13 => ?_)
      refine j_iconst C (1 : Int32) dX1_takeRest_38 (by decide) ?_
      refine j_iadd C dX1_takeRest_39 ?_
      refine j_put C wfp_X1_122 dX1_takeRest_40 ⟨_, rfl⟩ (fun h14 => ?_)
      exact hk8 h14
def f_X1_fillEnds (a0 : Nat) (p1 : Int32) (p2 : Int32) (p3 : Int32) (p4 : Nat) (h : Hp) : Option Hp :=
  bnd (gO h a0 1) fun _ => bnd (gR h a0 1 8) fun a1 => bnd (gI h a0 1 5) fun x2 => bnd2 (f_X6_roomFor a1 (x2 * (36 : Int32)) h) fun a3 h4 => bnd (pF h4 a0 1 8 (.ref a3)) fun h5 => bnd (gR h5 a0 1 8) fun a6 => bnd (f_J7_fill_53178 a6 (1000000 : Int32) h5) fun h7 => jn1 (fun (h8 : Hp) => wl2 (fun r12 (i10 : Int32) (h11 : Hp) => bnd (gI h11 a0 1 5) fun x13 => jn0 (some h11) fun k14 => if x13 ≤ i10 then k14 else (bnd (aLn h11 p4) fun x16 => if x16 ≤ i10 then k14 else (bnd (f_X1_takeRest a0 i10 h11) fun h18 => bnd (stI 0 h18 p4 i10 (1000000 : Int32)) fun h19 => wl2 (fun r22 (i20 : Int32) (h21 : Hp) => if (6 : Int32) ≤ i20 then (r12 (i10 + (1 : Int32)) h21) else (bnd (f_X6_firstBefore p1) fun x24 => wl2 (fun r27 (i25 : Int32) (h26 : Hp) => if (6 : Int32) ≤ i25 then (r22 (i20 + (1 : Int32)) h26) else (bnd (gR h26 a0 1 8) fun a29 => bnd (f_X6_memoryOf i20 i25) fun x30 => bnd (ldI 0 h26 a29 ((i10 * (36 : Int32)) + x30)) fun x31 => jn1 (fun (h32 : Hp) => r27 (i25 + (1 : Int32)) h32) fun k33 => if (1000000 : Int32) ≤ x31 then (k33 h26) else (bnd (ldI 0 h26 p4 i10) fun x35 => bnd (stI 0 h26 p4 i10 (mn x35 x31)) fun h36 => bnd (f_X6_heldBefore p1 i20) fun x37 => bnd (f_X1_pourOneMore a0 i10 i20 i25 x37 x31 h36) fun h38 => k33 h38))) fuel x24 h21)) fuel (0 : Int32) h19))) fuel (0 : Int32) h8) fun k9 => if p3 < 0 then (k9 h7) else (if (36 : Int32) ≤ p3 then (k9 h7) else (bnd (gR h7 a0 1 8) fun a41 => bnd (stI 0 h7 a41 p3 p2) fun h42 => k9 h42))
set_option maxHeartbeats 4000000 in
set_option maxRecDepth 100000 in
theorem c_X1_fillEnds (l : Launch) (D : hD) (a0 : Nat) (p1 : Int32) (p2 : Int32) (p3 : Int32) (p4 : Nat) (h : Hp) (x : Hp) (e : f_X1_fillEnds a0 p1 p2 p3 p4 h = some x) : (∃ fs, gO h a0 1 = some fs) ∧ Ct l D yX1_fillEnds cX1_fillEnds 9 none 2 42 [.ref a0, .int p1, .int p2, .int p3, .ref p4] h none x := by
  obtain ⟨fs, g1, g2⟩ := bnd_some e
  refine ⟨⟨fs, g1⟩, ?_⟩
  refine ct_of (out := oV) g2 (by decide +kernel) rfl (fun B C hin hl hd => ?_)
  subst hl; subst hd
  show J B _ _ h 0 [(0, .ref a0), (1, .int p1), (2, .int p2), (3, .int p3), (4, .ref p4)] []
  refine j_aload_n C dX1_fillEnds_0 0 rfl rfl ?_
  refine j_aload_n C dX1_fillEnds_1 0 rfl rfl ?_
  refine j_getR C wfl_X1_27 dX1_fillEnds_2 (fun a1 => ?_)
  refine j_aload_n C dX1_fillEnds_5 0 rfl rfl ?_
  refine j_getI C wfl_X1_40 dX1_fillEnds_6 (fun x2 => ?_)
  refine j_bipush C (36 : Int32) dX1_fillEnds_9 (by decide) ?_
  refine j_imul C dX1_fillEnds_11 ?_
  refine j_cR (st := [.ref a0]) (fun x e => ⟨runsS C wml_X1_44 wce_X6_roomFor rfl rfl rfl rfl rfl dX1_fillEnds_12, c_X6_roomFor (bL B) (bD B) _ _ _ x e⟩) (fun a3 h4 => ?_)
  refine j_put C wfp_X1_27 dX1_fillEnds_15 ⟨_, rfl⟩ (fun h5 => ?_)
  refine j_aload_n C dX1_fillEnds_18 0 rfl rfl ?_
  refine j_getR C wfl_X1_27 dX1_fillEnds_19 (fun a6 => ?_)
  refine j_ldc C dX1_fillEnds_22 wco_X1_64 ?_
  refine j_cV (st := []) (fun x e => ⟨runsS C wml_X1_102 wce_J7_fill_53178 rfl rfl rfl rfl rfl dX1_fillEnds_24, c_J7_fill_53178 (bL B) (bD B) _ _ _ x e⟩) (fun h7 => ?_)
  refine j_iload_n C dX1_fillEnds_27 3 rfl rfl ?_
  refine J.jn1 44 (fun (h8 : Hp) => h8) (fun (h8 : Hp) => [(0, .ref a0), (1, .int p1), (4, .ref p4)]) (fun (h8 : Hp) => []) (fun h8 => ?_) (fun k9 hk9 => ?_)
  · refine j_iconst C (0 : Int32) dX1_fillEnds_44 (by decide) ?_
    refine j_istore (lv' := [(5, .int (0 : Int32)), (0, .ref a0), (1, .int p1), (4, .ref p4)]) C dX1_fillEnds_45 rfl rfl ?_
    refine J.sub (lv' := [(0, .ref a0), (1, .int p1), (4, .ref p4), (5, .int (0 : Int32))]) [1, 2, 3, 0] rfl ?_
    refine J.wl2 47 (fun (i10 : Int32) (h11 : Hp) => h11) (fun (i10 : Int32) (h11 : Hp) => [(0, .ref a0), (1, .int p1), (4, .ref p4), (5, .int i10)]) (fun (i10 : Int32) (h11 : Hp) => []) (fun r12 hr12 i10 h11 => ?_) fuel (0 : Int32) h8
    refine j_iload C dX1_fillEnds_47 3 rfl ?_
    refine j_aload_n C dX1_fillEnds_49 0 rfl rfl ?_
    refine j_getI C wfl_X1_40 dX1_fillEnds_50 (fun x13 => ?_)
    refine J.jn0 (h0 := h11) (lv0 := []) (st0 := []) 178 ?_ (fun k14 hk14 => ?_)
    · exact j_vret C dX1_fillEnds_178
    refine j_icmp_ge C 178 dX1_fillEnds_53 (by decide) (fun c15 => ?_) (fun c15 => ?_)
    · refine J.sub (lv' := []) [] rfl ?_
      exact hk14
    · refine j_iload C dX1_fillEnds_56 3 rfl ?_
      refine j_aload C dX1_fillEnds_58 2 rfl ?_
      refine j_alen C dX1_fillEnds_60 (fun x16 => ?_)
      refine j_icmp_ge C 178 dX1_fillEnds_61 (by decide) (fun c17 => ?_) (fun c17 => ?_)
      · refine J.sub (lv' := []) [] rfl ?_
        exact hk14
      · refine j_aload_n C dX1_fillEnds_64 0 rfl rfl ?_
        refine j_iload C dX1_fillEnds_65 3 rfl ?_
        refine j_cV (st := []) (fun x e => ⟨runsV C wml_X1_108 wce_X1_takeRest (c_X1_takeRest (bL B) (bD B) _ _ _ x e).1 rfl rfl rfl rfl rfl dX1_fillEnds_67, (c_X1_takeRest (bL B) (bD B) _ _ _ x e).2⟩) (fun h18 => ?_)
        refine j_aload C dX1_fillEnds_70 2 rfl ?_
        refine j_iload C dX1_fillEnds_72 3 rfl ?_
        refine j_ldc C dX1_fillEnds_74 wco_X1_64 ?_
        refine j_iastore C dX1_fillEnds_76 (fun h19 => ?_)
        refine j_iconst C (0 : Int32) dX1_fillEnds_77 (by decide) ?_
        refine j_istore (lv' := [(6, .int (0 : Int32)), (0, .ref a0), (1, .int p1), (4, .ref p4), (5, .int i10)]) C dX1_fillEnds_78 rfl rfl ?_
        refine J.sub (lv' := [(0, .ref a0), (1, .int p1), (4, .ref p4), (5, .int i10), (6, .int (0 : Int32))]) [1, 2, 3, 4, 0] rfl ?_
        refine J.wl2 80 (fun (i20 : Int32) (h21 : Hp) => h21) (fun (i20 : Int32) (h21 : Hp) => [(0, .ref a0), (1, .int p1), (4, .ref p4), (5, .int i10), (6, .int i20)]) (fun (i20 : Int32) (h21 : Hp) => []) (fun r22 hr22 i20 h21 => ?_) fuel (0 : Int32) h19
        refine j_iload C dX1_fillEnds_80 4 rfl ?_
        refine j_bipush C (6 : Int32) dX1_fillEnds_82 (by decide) ?_
        refine j_icmp_ge C 172 dX1_fillEnds_84 (by decide) (fun c23 => ?_) (fun c23 => ?_)
        · refine j_iinc (lv' := [(5, .int (i10 + (1 : Int32))), (0, .ref a0), (1, .int p1), (4, .ref p4), (6, .int i20)]) C (1 : Int32) dX1_fillEnds_172 3 rfl (by decide) rfl rfl ?_
          refine j_goto C 47 dX1_fillEnds_175 (by decide) ?_
          refine J.sub (lv' := [(0, .ref a0), (1, .int p1), (4, .ref p4), (5, .int (i10 + (1 : Int32)))]) [1, 2, 3, 0] rfl ?_
          exact hr12 (i10 + (1 : Int32)) h21
        · refine j_iload_n C dX1_fillEnds_87 1 rfl rfl ?_
          refine j_cIp (st := []) (fun x e => ⟨runsS C wml_X1_112 wce_X6_firstBefore rfl rfl rfl rfl rfl dX1_fillEnds_88, c_X6_firstBefore (bL B) (bD B) _ _ x e⟩) (fun x24 => ?_)
          refine j_istore (lv' := [(7, .int x24), (0, .ref a0), (1, .int p1), (4, .ref p4), (5, .int i10), (6, .int i20)]) C dX1_fillEnds_91 rfl rfl ?_
          refine J.sub (lv' := [(0, .ref a0), (1, .int p1), (4, .ref p4), (5, .int i10), (6, .int i20), (7, .int x24)]) [1, 2, 3, 4, 5, 0] rfl ?_
          refine J.wl2 93 (fun (i25 : Int32) (h26 : Hp) => h26) (fun (i25 : Int32) (h26 : Hp) => [(0, .ref a0), (1, .int p1), (4, .ref p4), (5, .int i10), (6, .int i20), (7, .int i25)]) (fun (i25 : Int32) (h26 : Hp) => []) (fun r27 hr27 i25 h26 => ?_) fuel x24 h21
          refine j_iload C dX1_fillEnds_93 5 rfl ?_
          refine j_bipush C (6 : Int32) dX1_fillEnds_95 (by decide) ?_
          refine j_icmp_ge C 166 dX1_fillEnds_97 (by decide) (fun c28 => ?_) (fun c28 => ?_)
          · refine j_iinc (lv' := [(6, .int (i20 + (1 : Int32))), (0, .ref a0), (1, .int p1), (4, .ref p4), (5, .int i10), (7, .int i25)]) C (1 : Int32) dX1_fillEnds_166 4 rfl (by decide) rfl rfl ?_
            refine j_goto C 80 dX1_fillEnds_169 (by decide) ?_
            refine J.sub (lv' := [(0, .ref a0), (1, .int p1), (4, .ref p4), (5, .int i10), (6, .int (i20 + (1 : Int32)))]) [1, 2, 3, 4, 0] rfl ?_
            exact hr22 (i20 + (1 : Int32)) h26
          · refine j_aload_n C dX1_fillEnds_100 0 rfl rfl ?_
            refine j_getR C wfl_X1_27 dX1_fillEnds_101 (fun a29 => ?_)
            refine j_iload C dX1_fillEnds_104 3 rfl ?_
            refine j_bipush C (36 : Int32) dX1_fillEnds_106 (by decide) ?_
            refine j_imul C dX1_fillEnds_108 ?_
            refine j_iload C dX1_fillEnds_109 4 rfl ?_
            refine j_iload C dX1_fillEnds_111 5 rfl ?_
            refine j_cIp (st := [.int (i10 * (36 : Int32)), .ref a29]) (fun x e => ⟨runsS C wml_X1_77 wce_X6_memoryOf rfl rfl rfl rfl rfl dX1_fillEnds_113, c_X6_memoryOf (bL B) (bD B) _ _ _ x e⟩) (fun x30 => ?_)
            refine j_iadd C dX1_fillEnds_116 ?_
            refine j_iaload C dX1_fillEnds_117 (fun x31 => ?_)
            refine j_istore (lv' := [(8, .int x31), (0, .ref a0), (1, .int p1), (4, .ref p4), (5, .int i10), (6, .int i20), (7, .int i25)]) C dX1_fillEnds_118 rfl rfl ?_
            refine j_iload C dX1_fillEnds_120 0 rfl ?_
            refine j_ldc C dX1_fillEnds_122 wco_X1_64 ?_
            refine J.jn1 160 (fun (h32 : Hp) => h32) (fun (h32 : Hp) => [(0, .ref a0), (1, .int p1), (4, .ref p4), (5, .int i10), (6, .int i20), (7, .int i25)]) (fun (h32 : Hp) => []) (fun h32 => ?_) (fun k33 hk33 => ?_)
            · refine j_iinc (lv' := [(7, .int (i25 + (1 : Int32))), (0, .ref a0), (1, .int p1), (4, .ref p4), (5, .int i10), (6, .int i20)]) C (1 : Int32) dX1_fillEnds_160 5 rfl (by decide) rfl rfl ?_
              refine j_goto C 93 dX1_fillEnds_163 (by decide) ?_
              refine J.sub (lv' := [(0, .ref a0), (1, .int p1), (4, .ref p4), (5, .int i10), (6, .int i20), (7, .int (i25 + (1 : Int32)))]) [1, 2, 3, 4, 5, 0] rfl ?_
              exact hr27 (i25 + (1 : Int32)) h32
            refine j_icmp_ge C 160 dX1_fillEnds_124 (by decide) (fun c34 => ?_) (fun c34 => ?_)
            · refine J.sub (lv' := [(0, .ref a0), (1, .int p1), (4, .ref p4), (5, .int i10), (6, .int i20), (7, .int i25)]) [1, 2, 3, 4, 5, 6] rfl ?_
              exact hk33 h26
            · refine j_aload C dX1_fillEnds_127 3 rfl ?_
              refine j_iload C dX1_fillEnds_129 4 rfl ?_
              refine j_aload C dX1_fillEnds_131 3 rfl ?_
              refine j_iload C dX1_fillEnds_133 4 rfl ?_
              refine j_iaload C dX1_fillEnds_135 (fun x35 => ?_)
              refine j_iload C dX1_fillEnds_136 0 rfl ?_
              refine j_min C wob_X1_71 wma_min_s wma_i wma_min_c rfl rfl rfl dX1_fillEnds_138 ?_
              refine j_iastore C dX1_fillEnds_141 (fun h36 => ?_)
              refine j_aload_n C dX1_fillEnds_142 1 rfl rfl ?_
              refine j_iload C dX1_fillEnds_143 4 rfl ?_
              refine j_iload C dX1_fillEnds_145 5 rfl ?_
              refine j_iload C dX1_fillEnds_147 6 rfl ?_
              refine j_iload_n C dX1_fillEnds_149 2 rfl rfl ?_
              refine j_iload C dX1_fillEnds_150 5 rfl ?_
              refine j_cIp (st := [.int i25, .int i20, .int i10, .ref a0]) (fun x e => ⟨runsS C wml_X1_115 wce_X6_heldBefore rfl rfl rfl rfl rfl dX1_fillEnds_152, c_X6_heldBefore (bL B) (bD B) _ _ _ x e⟩) (fun x37 => ?_)
              refine j_iload C dX1_fillEnds_155 0 rfl ?_
              refine j_cV (st := []) (fun x e => ⟨runsV C wml_X1_118 wce_X1_pourOneMore (c_X1_pourOneMore (bL B) (bD B) _ _ _ _ _ _ _ x e).1 rfl rfl rfl rfl rfl dX1_fillEnds_157, (c_X1_pourOneMore (bL B) (bD B) _ _ _ _ _ _ _ x e).2⟩) (fun h38 => ?_)
              refine J.sub (lv' := [(0, .ref a0), (1, .int p1), (4, .ref p4), (5, .int i10), (6, .int i20), (7, .int i25)]) [1, 2, 3, 4, 5, 6] rfl ?_
              exact hk33 h38
  refine j_if_lt C 44 dX1_fillEnds_28 (by decide) (fun c39 => ?_) (fun c39 => ?_)
  · refine J.sub (lv' := [(0, .ref a0), (1, .int p1), (4, .ref p4)]) [0, 1, 4] rfl ?_
    exact hk9 h7
  · refine j_iload_n C dX1_fillEnds_31 3 rfl rfl ?_
    refine j_bipush C (36 : Int32) dX1_fillEnds_32 (by decide) ?_
    refine j_icmp_ge C 44 dX1_fillEnds_34 (by decide) (fun c40 => ?_) (fun c40 => ?_)
    · refine J.sub (lv' := [(0, .ref a0), (1, .int p1), (4, .ref p4)]) [0, 1, 4] rfl ?_
      exact hk9 h7
    · refine j_aload_n C dX1_fillEnds_37 0 rfl rfl ?_
      refine j_getR C wfl_X1_27 dX1_fillEnds_38 (fun a41 => ?_)
      refine j_iload_n C dX1_fillEnds_41 3 rfl rfl ?_
      refine j_iload_n C dX1_fillEnds_42 2 rfl rfl ?_
      refine j_iastore C dX1_fillEnds_43 (fun h42 => ?_)
      refine J.sub (lv' := [(0, .ref a0), (1, .int p1), (4, .ref p4)]) [0, 1, 4] rfl ?_
      exact hk9 h42
def f_X1_takeWaiting (a0 : Nat) (p1 : Nat) (h : Hp) : Option Hp :=
  bnd (gO h a0 1) fun _ => bnd (pF h a0 1 4 (.int (0 : Int32))) fun h1 => wl2 (fun r4 (i2 : Int32) (h3 : Hp) => jn0 (bnd (gI h3 a0 1 4) fun x6 => bnd (pF h3 a0 1 5 (.int ((1 : Int32) <<< (x6 &&& 31)))) fun h7 => some h7) fun k5 => if (10 : Int32) ≤ i2 then k5 else (bnd (gI h3 a0 1 4) fun x9 => if (10 : Int32) ≤ x9 then k5 else (bnd (f_X2_waits p1 i2 h3) fun x11 => jn1 (fun (h12 : Hp) => r4 (i2 + (1 : Int32)) h12) fun k13 => if x11 = 0 then (k13 h3) else (bnd (gR h3 a0 1 0) fun a15 => bnd (gI h3 a0 1 4) fun x16 => bnd (stI 0 h3 a15 x16 i2) fun h17 => bnd (gR h17 a0 1 1) fun a18 => bnd (gI h17 a0 1 4) fun x19 => bnd (gR h17 p1 2 3) fun a20 => bnd (ldI 0 h17 a20 i2) fun x21 => bnd (stI 0 h17 a18 x19 x21) fun h22 => bnd (gR h22 a0 1 2) fun a23 => bnd (gI h22 a0 1 4) fun x24 => bnd (gR h22 p1 2 4) fun a25 => bnd (ldI 0 h22 a25 i2) fun x26 => bnd (stI 0 h22 a23 x24 x26) fun h27 => bnd (gR h27 a0 1 3) fun a28 => bnd (gI h27 a0 1 4) fun x29 => bnd (gR h27 p1 2 6) fun a30 => bnd (ldI 0 h27 a30 i2) fun x31 => bnd (stI 0 h27 a28 x29 x31) fun h32 => bnd (gI h32 a0 1 4) fun x33 => bnd (pF h32 a0 1 4 (.int (x33 + (1 : Int32)))) fun h34 => k13 h34)))) fuel (0 : Int32) h1
set_option maxHeartbeats 4000000 in
set_option maxRecDepth 100000 in
theorem c_X1_takeWaiting (l : Launch) (D : hD) (a0 : Nat) (p1 : Nat) (h : Hp) (x : Hp) (e : f_X1_takeWaiting a0 p1 h = some x) : (∃ fs, gO h a0 1 = some fs) ∧ Ct l D yX1_takeWaiting cX1_takeWaiting 3 none 2 42 [.ref a0, .ref p1] h none x := by
  obtain ⟨fs, g1, g2⟩ := bnd_some e
  refine ⟨⟨fs, g1⟩, ?_⟩
  refine ct_of (out := oV) g2 (by decide +kernel) rfl (fun B C hin hl hd => ?_)
  subst hl; subst hd
  show J B _ _ h 0 [(0, .ref a0), (1, .ref p1)] []
  refine j_aload_n C dX1_takeWaiting_0 0 rfl rfl ?_
  refine j_iconst C (0 : Int32) dX1_takeWaiting_1 (by decide) ?_
  refine j_put C wfp_X1_92 dX1_takeWaiting_2 ⟨_, rfl⟩ (fun h1 => ?_)
  refine j_iconst C (0 : Int32) dX1_takeWaiting_5 (by decide) ?_
  refine j_istore_n (lv' := [(2, .int (0 : Int32)), (0, .ref a0), (1, .ref p1)]) C dX1_takeWaiting_6 rfl rfl rfl ?_
  refine J.sub (lv' := [(0, .ref a0), (1, .ref p1), (2, .int (0 : Int32))]) [1, 2, 0] rfl ?_
  refine J.wl2 7 (fun (i2 : Int32) (h3 : Hp) => h3) (fun (i2 : Int32) (h3 : Hp) => [(0, .ref a0), (1, .ref p1), (2, .int i2)]) (fun (i2 : Int32) (h3 : Hp) => []) (fun r4 hr4 i2 h3 => ?_) fuel (0 : Int32) h1
  refine j_iload_n C dX1_takeWaiting_7 2 rfl rfl ?_
  refine j_bipush C (10 : Int32) dX1_takeWaiting_8 (by decide) ?_
  refine J.jn0 (h0 := h3) (lv0 := [(0, .ref a0)]) (st0 := []) 101 ?_ (fun k5 hk5 => ?_)
  · refine j_aload_n C dX1_takeWaiting_101 0 rfl rfl ?_
    refine j_iconst C (1 : Int32) dX1_takeWaiting_102 (by decide) ?_
    refine j_aload_n C dX1_takeWaiting_103 0 rfl rfl ?_
    refine j_getI C wfl_X1_92 dX1_takeWaiting_104 (fun x6 => ?_)
    refine j_ishl C dX1_takeWaiting_107 ?_
    refine j_put C wfp_X1_40 dX1_takeWaiting_108 ⟨_, rfl⟩ (fun h7 => ?_)
    exact j_vret C dX1_takeWaiting_111
  refine j_icmp_ge C 101 dX1_takeWaiting_10 (by decide) (fun c8 => ?_) (fun c8 => ?_)
  · refine J.sub (lv' := [(0, .ref a0)]) [0] rfl ?_
    exact hk5
  · refine j_aload_n C dX1_takeWaiting_13 0 rfl rfl ?_
    refine j_getI C wfl_X1_92 dX1_takeWaiting_14 (fun x9 => ?_)
    refine j_bipush C (10 : Int32) dX1_takeWaiting_17 (by decide) ?_
    refine j_icmp_ge C 101 dX1_takeWaiting_19 (by decide) (fun c10 => ?_) (fun c10 => ?_)
    · refine J.sub (lv' := [(0, .ref a0)]) [0] rfl ?_
      exact hk5
    · refine j_aload_n C dX1_takeWaiting_22 1 rfl rfl ?_
      refine j_iload_n C dX1_takeWaiting_23 2 rfl rfl ?_
      refine j_cIp (st := []) (fun x e => ⟨runsV C wml_X1_95 wce_X2_waits (c_X2_waits (bL B) (bD B) _ _ _ x e).1 rfl rfl rfl rfl rfl dX1_takeWaiting_24, (c_X2_waits (bL B) (bD B) _ _ _ x e).2⟩) (fun x11 => ?_)
      refine J.jn1 95 (fun (h12 : Hp) => h12) (fun (h12 : Hp) => [(0, .ref a0), (1, .ref p1), (2, .int i2)]) (fun (h12 : Hp) => []) (fun h12 => ?_) (fun k13 hk13 => ?_)
      · refine j_iinc (lv' := [(2, .int (i2 + (1 : Int32))), (0, .ref a0), (1, .ref p1)]) C (1 : Int32) dX1_takeWaiting_95 2 rfl (by decide) rfl rfl ?_
        refine j_goto C 7 dX1_takeWaiting_98 (by decide) ?_
        refine J.sub (lv' := [(0, .ref a0), (1, .ref p1), (2, .int (i2 + (1 : Int32)))]) [1, 2, 0] rfl ?_
        exact hr4 (i2 + (1 : Int32)) h12
      refine j_if_eq C 95 dX1_takeWaiting_27 (by decide) (fun c14 => ?_) (fun c14 => ?_)
      · exact hk13 h3
      · refine j_aload_n C dX1_takeWaiting_30 0 rfl rfl ?_
        refine j_getR C wfl_X1_9 dX1_takeWaiting_31 (fun a15 => ?_)
        refine j_aload_n C dX1_takeWaiting_34 0 rfl rfl ?_
        refine j_getI C wfl_X1_92 dX1_takeWaiting_35 (fun x16 => ?_)
        refine j_iload_n C dX1_takeWaiting_38 2 rfl rfl ?_
        refine j_iastore C dX1_takeWaiting_39 (fun h17 => ?_)
        refine j_aload_n C dX1_takeWaiting_40 0 rfl rfl ?_
        refine j_getR C wfl_X1_15 dX1_takeWaiting_41 (fun a18 => ?_)
        refine j_aload_n C dX1_takeWaiting_44 0 rfl rfl ?_
        refine j_getI C wfl_X1_92 dX1_takeWaiting_45 (fun x19 => ?_)
        refine j_aload_n C dX1_takeWaiting_48 1 rfl rfl ?_
        refine j_getR C wfl_X1_99 dX1_takeWaiting_49 (fun a20 => ?_)
        refine j_iload_n C dX1_takeWaiting_52 2 rfl rfl ?_
        refine j_iaload C dX1_takeWaiting_53 (fun x21 => ?_)
        refine j_iastore C dX1_takeWaiting_54 (fun h22 => ?_)
        refine j_aload_n C dX1_takeWaiting_55 0 rfl rfl ?_
        refine j_getR C wfl_X1_18 dX1_takeWaiting_56 (fun a23 => ?_)
        refine j_aload_n C dX1_takeWaiting_59 0 rfl rfl ?_
        refine j_getI C wfl_X1_92 dX1_takeWaiting_60 (fun x24 => ?_)
        refine j_aload_n C dX1_takeWaiting_63 1 rfl rfl ?_
        refine j_getR C wfl_X1_100 dX1_takeWaiting_64 (fun a25 => ?_)
        refine j_iload_n C dX1_takeWaiting_67 2 rfl rfl ?_
        refine j_iaload C dX1_takeWaiting_68 (fun x26 => ?_)
        refine j_iastore C dX1_takeWaiting_69 (fun h27 => ?_)
        refine j_aload_n C dX1_takeWaiting_70 0 rfl rfl ?_
        refine j_getR C wfl_X1_21 dX1_takeWaiting_71 (fun a28 => ?_)
        refine j_aload_n C dX1_takeWaiting_74 0 rfl rfl ?_
        refine j_getI C wfl_X1_92 dX1_takeWaiting_75 (fun x29 => ?_)
        refine j_aload_n C dX1_takeWaiting_78 1 rfl rfl ?_
        refine j_getR C wfl_X1_101 dX1_takeWaiting_79 (fun a30 => ?_)
        refine j_iload_n C dX1_takeWaiting_82 2 rfl rfl ?_
        refine j_iaload C dX1_takeWaiting_83 (fun x31 => ?_)
        refine j_iastore C dX1_takeWaiting_84 (fun h32 => ?_)
        refine j_aload_n C dX1_takeWaiting_85 0 rfl rfl ?_
        refine j_dup C dX1_takeWaiting_86 (fun _ => rfl) ?_
        refine j_getI C wfl_X1_92 dX1_takeWaiting_87 (fun x33 => ?_)
        refine j_iconst C (1 : Int32) dX1_takeWaiting_90 (by decide) ?_
        refine j_iadd C dX1_takeWaiting_91 ?_
        refine j_put C wfp_X1_92 dX1_takeWaiting_92 ⟨_, rfl⟩ (fun h34 => ?_)
        exact hk13 h34
def f_X1_soonest (a0 : Nat) (p1 : Nat) (p2 : Int32) (h : Hp) : Option (Int32 × Hp) :=
  bnd (gO h a0 1) fun _ => bnd (f_X1_takeWaiting a0 p1 h) fun h1 => bnd (gR h1 a0 1 9) fun a2 => bnd (gI h1 a0 1 5) fun x3 => bnd2 (f_X6_roomFor a2 x3 h1) fun a4 h5 => bnd (pF h5 a0 1 9 (.ref a4)) fun h6 => bnd (gI h6 p1 2 0) fun x7 => bnd (gI h6 p1 2 8) fun x8 => bnd (f_X2_memoryNow p1 h6) fun x9 => bnd (gR h6 a0 1 9) fun a10 => bnd (f_X1_fillEnds a0 x7 x8 x9 a10 h6) fun h11 => wl2 (fun r14 (i12 : Int32) (i13 : Int32) => bnd (gI h11 a0 1 5) fun x15 => jn0 (some (i12, h11)) fun k16 => if x15 ≤ i13 then k16 else (bnd (gR h11 a0 1 9) fun a18 => bnd (aLn h11 a18) fun x19 => if x19 ≤ i13 then k16 else (bnd (f_J6_bitCount_0f7a4 i13) fun x21 => jn1 (fun (z22 : Int32) => r14 z22 (i13 + (1 : Int32))) fun k23 => if x21 = p2 then (bnd (gR h11 a0 1 9) fun a25 => bnd (ldI 0 h11 a25 i13) fun x26 => nm (mn i12 x26) fun v27 => k23 v27) else (k23 i12)))) fuel (1000000 : Int32) (0 : Int32)
set_option maxHeartbeats 4000000 in
set_option maxRecDepth 100000 in
theorem c_X1_soonest (l : Launch) (D : hD) (a0 : Nat) (p1 : Nat) (p2 : Int32) (h : Hp) (x : (Int32 × Hp)) (e : f_X1_soonest a0 p1 p2 h = some x) : (∃ fs, gO h a0 1 = some fs) ∧ Ct l D yX1_soonest cX1_soonest 5 (some .int) 3 70 [.ref a0, .ref p1, .int p2] h (some (.int x.1)) x.2 := by
  obtain ⟨fs, g1, g2⟩ := bnd_some e
  refine ⟨⟨fs, g1⟩, ?_⟩
  refine ct_of (out := oI) g2 (by decide +kernel) rfl (fun B C hin hl hd => ?_)
  subst hl; subst hd
  show J B _ _ h 0 [(0, .ref a0), (1, .ref p1), (2, .int p2)] []
  refine j_aload_n C dX1_soonest_0 0 rfl rfl ?_
  refine j_aload_n C dX1_soonest_1 1 rfl rfl ?_
  refine j_cV (st := []) (fun x e => ⟨runsV C wml_X1_36 wce_X1_takeWaiting (c_X1_takeWaiting (bL B) (bD B) _ _ _ x e).1 rfl rfl rfl rfl rfl dX1_soonest_2, (c_X1_takeWaiting (bL B) (bD B) _ _ _ x e).2⟩) (fun h1 => ?_)
  refine j_aload_n C dX1_soonest_5 0 rfl rfl ?_
  refine j_aload_n C dX1_soonest_6 0 rfl rfl ?_
  refine j_getR C wfl_X1_30 dX1_soonest_7 (fun a2 => ?_)
  refine j_aload_n C dX1_soonest_10 0 rfl rfl ?_
  refine j_getI C wfl_X1_40 dX1_soonest_11 (fun x3 => ?_)
  refine j_cR (st := [.ref a0]) (fun x e => ⟨runsS C wml_X1_44 wce_X6_roomFor rfl rfl rfl rfl rfl dX1_soonest_14, c_X6_roomFor (bL B) (bD B) _ _ _ x e⟩) (fun a4 h5 => ?_)
  refine j_put C wfp_X1_30 dX1_soonest_17 ⟨_, rfl⟩ (fun h6 => ?_)
  refine j_aload_n C dX1_soonest_20 0 rfl rfl ?_
  refine j_aload_n C dX1_soonest_21 1 rfl rfl ?_
  refine j_getI C wfl_X1_48 dX1_soonest_22 (fun x7 => ?_)
  refine j_aload_n C dX1_soonest_25 1 rfl rfl ?_
  refine j_getI C wfl_X1_53 dX1_soonest_26 (fun x8 => ?_)
  refine j_aload_n C dX1_soonest_29 1 rfl rfl ?_
  refine j_cIp (st := [.int x8, .int x7, .ref a0]) (fun x e => ⟨runsV C wml_X1_56 wce_X2_memoryNow (c_X2_memoryNow (bL B) (bD B) _ _ x e).1 rfl rfl rfl rfl rfl dX1_soonest_30, (c_X2_memoryNow (bL B) (bD B) _ _ x e).2⟩) (fun x9 => ?_)
  refine j_aload_n C dX1_soonest_33 0 rfl rfl ?_
  refine j_getR C wfl_X1_30 dX1_soonest_34 (fun a10 => ?_)
  refine j_cV (st := []) (fun x e => ⟨runsV C wml_X1_60 wce_X1_fillEnds (c_X1_fillEnds (bL B) (bD B) _ _ _ _ _ _ x e).1 rfl rfl rfl rfl rfl dX1_soonest_37, (c_X1_fillEnds (bL B) (bD B) _ _ _ _ _ _ x e).2⟩) (fun h11 => ?_)
  refine j_ldc C dX1_soonest_40 wco_X1_64 ?_
  refine j_istore_n (lv' := [(3, .int (1000000 : Int32)), (0, .ref a0), (1, .ref p1), (2, .int p2)]) C dX1_soonest_42 rfl rfl rfl ?_
  refine j_iconst C (0 : Int32) dX1_soonest_43 (by decide) ?_
  refine j_istore (lv' := [(4, .int (0 : Int32)), (3, .int (1000000 : Int32)), (0, .ref a0), (1, .ref p1), (2, .int p2)]) C dX1_soonest_44 rfl rfl ?_
  refine J.sub (lv' := [(0, .ref a0), (2, .int p2), (3, .int (1000000 : Int32)), (4, .int (0 : Int32))]) [2, 4, 1, 0] rfl ?_
  refine J.wl2 46 (fun (i12 : Int32) (i13 : Int32) => h11) (fun (i12 : Int32) (i13 : Int32) => [(0, .ref a0), (2, .int p2), (3, .int i12), (4, .int i13)]) (fun (i12 : Int32) (i13 : Int32) => []) (fun r14 hr14 i12 i13 => ?_) fuel (1000000 : Int32) (0 : Int32)
  refine j_iload C dX1_soonest_46 3 rfl ?_
  refine j_aload_n C dX1_soonest_48 0 rfl rfl ?_
  refine j_getI C wfl_X1_40 dX1_soonest_49 (fun x15 => ?_)
  refine J.jn0 (h0 := h11) (lv0 := [(3, .int i12)]) (st0 := []) 92 ?_ (fun k16 hk16 => ?_)
  · refine j_iload_n C dX1_soonest_92 0 rfl rfl ?_
    exact j_iret C dX1_soonest_93
  refine j_icmp_ge C 92 dX1_soonest_52 (by decide) (fun c17 => ?_) (fun c17 => ?_)
  · refine J.sub (lv' := [(3, .int i12)]) [2] rfl ?_
    exact hk16
  · refine j_iload C dX1_soonest_55 3 rfl ?_
    refine j_aload_n C dX1_soonest_57 0 rfl rfl ?_
    refine j_getR C wfl_X1_30 dX1_soonest_58 (fun a18 => ?_)
    refine j_alen C dX1_soonest_61 (fun x19 => ?_)
    refine j_icmp_ge C 92 dX1_soonest_62 (by decide) (fun c20 => ?_) (fun c20 => ?_)
    · refine J.sub (lv' := [(3, .int i12)]) [2] rfl ?_
      exact hk16
    · refine j_iload C dX1_soonest_65 3 rfl ?_
      refine j_cIp (st := []) (fun x e => ⟨runsS C wml_X1_65 wce_J6_bitCount_0f7a4 rfl rfl rfl rfl rfl dX1_soonest_67, c_J6_bitCount_0f7a4 (bL B) (bD B) _ _ x e⟩) (fun x21 => ?_)
      refine j_iload_n C dX1_soonest_70 1 rfl rfl ?_
      refine J.jn1 86 (fun (z22 : Int32) => h11) (fun (z22 : Int32) => [(0, .ref a0), (2, .int p2), (3, .int z22), (4, .int i13)]) (fun (z22 : Int32) => []) (fun z22 => ?_) (fun k23 hk23 => ?_)
      · refine j_iinc (lv' := [(4, .int (i13 + (1 : Int32))), (0, .ref a0), (2, .int p2), (3, .int z22)]) C (1 : Int32) dX1_soonest_86 3 rfl (by decide) rfl rfl ?_
        refine j_goto C 46 dX1_soonest_89 (by decide) ?_
        refine J.sub (lv' := [(0, .ref a0), (2, .int p2), (3, .int z22), (4, .int (i13 + (1 : Int32)))]) [1, 2, 3, 0] rfl ?_
        exact hr14 z22 (i13 + (1 : Int32))
      refine j_icmp_ne C 86 dX1_soonest_71 (by decide) (fun c24 => ?_) (fun c24 => ?_)
      · exact hk23 i12
      · refine j_iload_n C dX1_soonest_74 2 rfl rfl ?_
        refine j_aload_n C dX1_soonest_75 0 rfl rfl ?_
        refine j_getR C wfl_X1_30 dX1_soonest_76 (fun a25 => ?_)
        refine j_iload C dX1_soonest_79 3 rfl ?_
        refine j_iaload C dX1_soonest_81 (fun x26 => ?_)
        refine j_min C wob_X1_71 wma_min_s wma_i wma_min_c rfl rfl rfl dX1_soonest_82 ?_
        refine j_nmI (fun v27 => ?_)
        refine j_istore_n (lv' := [(3, .int v27), (0, .ref a0), (2, .int p2), (4, .int i13)]) C dX1_soonest_85 rfl rfl rfl ?_
        refine J.sub (lv' := [(0, .ref a0), (2, .int p2), (3, .int v27), (4, .int i13)]) [1, 2, 0, 3] rfl ?_
        exact hk23 v27
def f_X6_most (a0 : Nat) (p1 : Int32) (h : Hp) : Option (Int32 × Hp) :=
  bnd (gO h a0 6) fun _ => if (-2 : Int32) ≤ p1 then (bnd (gR h a0 6 11) fun a2 => bnd (gR h a0 6 4) fun a3 => bnd (f_X0_takeAll a2 a3 h) fun h4 => bnd (gR h4 a0 6 11) fun a5 => bnd (gR h4 a0 6 4) fun a6 => bnd2 (f_X0_longest a5 a6 h4) fun x7 h8 => if p1 = (-1 : Int32) then (some (x7, h8)) else (if p1 = (-2 : Int32) then (bnd (gR h8 a0 6 12) fun a17 => bnd (gR h8 a0 6 4) fun a18 => bnd2 (f_X1_soonest a17 a18 x7 h8) fun x19 h20 => some (x19, h20)) else (jn1 (fun (w11 : Int32) => some (w11, h8)) fun k12 => if x7 ≤ p1 then (k12 (-4 : Int32)) else (bnd (gR h8 a0 6 11) fun a14 => bnd (gR h8 a0 6 4) fun a15 => bnd (f_X0_rowSack a14 a15 p1 h8) fun x16 => k12 x16)))) else (some ((-1 : Int32), h))
set_option maxHeartbeats 4000000 in
set_option maxRecDepth 100000 in
theorem c_X6_most (l : Launch) (D : hD) (a0 : Nat) (p1 : Int32) (h : Hp) (x : (Int32 × Hp)) (e : f_X6_most a0 p1 h = some x) : (∃ fs, gO h a0 6 = some fs) ∧ Ct l D yX6_most cX6_most 3 (some .int) 4 100 [.ref a0, .int p1] h (some (.int x.1)) x.2 := by
  obtain ⟨fs, g1, g2⟩ := bnd_some e
  refine ⟨⟨fs, g1⟩, ?_⟩
  refine ct_of (out := oI) g2 (by decide +kernel) rfl (fun B C hin hl hd => ?_)
  subst hl; subst hd
  show J B _ _ h 0 [(0, .ref a0), (1, .int p1)] []
  refine j_iload_n C dX6_most_0 1 rfl rfl ?_
  refine j_bipush C (-2 : Int32) dX6_most_1 (by decide) ?_
  refine j_icmp_ge C 8 dX6_most_3 (by decide) (fun c1 => ?_) (fun c1 => ?_)
  · refine j_aload_n C dX6_most_8 0 rfl rfl ?_
    refine j_getR C wfl_X6_44 dX6_most_9 (fun a2 => ?_)
    refine j_aload_n C dX6_most_12 0 rfl rfl ?_
    refine j_getR C wfl_X6_27 dX6_most_13 (fun a3 => ?_)
    refine j_cV (st := []) (fun x e => ⟨runsV C wml_X6_180 wce_X0_takeAll (c_X0_takeAll (bL B) (bD B) _ _ _ x e).1 rfl rfl rfl rfl rfl dX6_most_16, (c_X0_takeAll (bL B) (bD B) _ _ _ x e).2⟩) (fun h4 => ?_)
    refine j_aload_n C dX6_most_19 0 rfl rfl ?_
    refine j_getR C wfl_X6_44 dX6_most_20 (fun a5 => ?_)
    refine j_aload_n C dX6_most_23 0 rfl rfl ?_
    refine j_getR C wfl_X6_27 dX6_most_24 (fun a6 => ?_)
    refine j_cI (st := []) (fun x e => ⟨runsV C wml_X6_187 wce_X0_longest (c_X0_longest (bL B) (bD B) _ _ _ x e).1 rfl rfl rfl rfl rfl dX6_most_27, (c_X0_longest (bL B) (bD B) _ _ _ x e).2⟩) (fun x7 h8 => ?_)
    refine j_istore_n (lv' := [(2, .int x7), (0, .ref a0), (1, .int p1)]) C dX6_most_30 rfl rfl rfl ?_
    refine j_iload_n C dX6_most_31 2 rfl rfl ?_
    refine j_iconst C (-1 : Int32) dX6_most_32 (by decide) ?_
    refine j_icmp_ne C 38 dX6_most_33 (by decide) (fun c9 => ?_) (fun c9 => ?_)
    · refine j_iload_n C dX6_most_38 2 rfl rfl ?_
      refine j_bipush C (-2 : Int32) dX6_most_39 (by decide) ?_
      refine j_icmp_ne C 57 dX6_most_41 (by decide) (fun c10 => ?_) (fun c10 => ?_)
      · refine j_iload_n C dX6_most_57 2 rfl rfl ?_
        refine j_iload_n C dX6_most_58 0 rfl rfl ?_
        refine J.jn1 79 (fun (w11 : Int32) => h8) (fun (w11 : Int32) => []) (fun (w11 : Int32) => [.int w11]) (fun w11 => ?_) (fun k12 hk12 => ?_)
        · exact j_iret C dX6_most_79
        refine j_icmp_ge C 77 dX6_most_59 (by decide) (fun c13 => ?_) (fun c13 => ?_)
        · refine j_bipush C (-4 : Int32) dX6_most_77 (by decide) ?_
          refine J.sub (lv' := []) [] rfl ?_
          exact hk12 (-4 : Int32)
        · refine j_aload_n C dX6_most_62 1 rfl rfl ?_
          refine j_getR C wfl_X6_44 dX6_most_63 (fun a14 => ?_)
          refine j_aload_n C dX6_most_66 1 rfl rfl ?_
          refine j_getR C wfl_X6_27 dX6_most_67 (fun a15 => ?_)
          refine j_iload_n C dX6_most_70 2 rfl rfl ?_
          refine j_cIp (st := []) (fun x e => ⟨runsV C wml_X6_194 wce_X0_rowSack (c_X0_rowSack (bL B) (bD B) _ _ _ _ x e).1 rfl rfl rfl rfl rfl dX6_most_71, (c_X0_rowSack (bL B) (bD B) _ _ _ _ x e).2⟩) (fun x16 => ?_)
          refine j_goto C 79 dX6_most_74 (by decide) ?_
          refine J.sub (lv' := []) [] rfl ?_
          exact hk12 x16
      · refine j_aload_n C dX6_most_44 1 rfl rfl ?_
        refine j_getR C wfl_X6_51 dX6_most_45 (fun a17 => ?_)
        refine j_aload_n C dX6_most_48 1 rfl rfl ?_
        refine j_getR C wfl_X6_27 dX6_most_49 (fun a18 => ?_)
        refine j_iload_n C dX6_most_52 0 rfl rfl ?_
        refine j_cI (st := []) (fun x e => ⟨runsV C wml_X6_190 wce_X1_soonest (c_X1_soonest (bL B) (bD B) _ _ _ _ x e).1 rfl rfl rfl rfl rfl dX6_most_53, (c_X1_soonest (bL B) (bD B) _ _ _ _ x e).2⟩) (fun x19 h20 => ?_)
        exact j_iret C dX6_most_56
    · refine j_iload_n C dX6_most_36 0 rfl rfl ?_
      exact j_iret C dX6_most_37
  · refine j_iconst C (-1 : Int32) dX6_most_6 (by decide) ?_
    exact j_iret C dX6_most_7
def f_X6_noQueue (a0 : Nat) (h : Hp) : Option (Int32 × Hp) :=
  bnd (gO h a0 6) fun _ => bnd (gI h a0 6 10) fun x1 => bnd (pF h a0 6 10 (.int (0 : Int32))) fun h2 => some (x1, h2)
set_option maxHeartbeats 4000000 in
set_option maxRecDepth 100000 in
theorem c_X6_noQueue (l : Launch) (D : hD) (a0 : Nat) (h : Hp) (x : (Int32 × Hp)) (e : f_X6_noQueue a0 h = some x) : (∃ fs, gO h a0 6 = some fs) ∧ Ct l D yX6_noQueue cX6_noQueue 2 (some .int) 0 0 [.ref a0] h (some (.int x.1)) x.2 := by
  obtain ⟨fs, g1, g2⟩ := bnd_some e
  refine ⟨⟨fs, g1⟩, ?_⟩
  refine ct_of (out := oI) g2 (by decide +kernel) rfl (fun B C hin hl hd => ?_)
  subst hl; subst hd
  show J B _ _ h 0 [(0, .ref a0)] []
  refine j_aload_n C dX6_noQueue_0 0 rfl rfl ?_
  refine j_getI C wfl_X6_88 dX6_noQueue_1 (fun x1 => ?_)
  refine j_istore_n (lv' := [(1, .int x1), (0, .ref a0)]) C dX6_noQueue_4 rfl rfl rfl ?_
  refine j_aload_n C dX6_noQueue_5 1 rfl rfl ?_
  refine j_iconst C (0 : Int32) dX6_noQueue_6 (by decide) ?_
  refine j_put C wfp_X6_88 dX6_noQueue_7 ⟨_, rfl⟩ (fun h2 => ?_)
  refine j_iload_n C dX6_noQueue_10 0 rfl rfl ?_
  exact j_iret C dX6_noQueue_11
def f_X0_countWays (a0 : Nat) (p1 : Nat) (h : Hp) : Option (Int32 × Hp) :=
  bnd (gO h a0 0) fun _ => bnd2 (f_X0_fillAnswers a0 p1 (1 : Int32) h) fun x1 h2 => some (x1, h2)
set_option maxHeartbeats 4000000 in
set_option maxRecDepth 100000 in
theorem c_X0_countWays (l : Launch) (D : hD) (a0 : Nat) (p1 : Nat) (h : Hp) (x : (Int32 × Hp)) (e : f_X0_countWays a0 p1 h = some x) : (∃ fs, gO h a0 0 = some fs) ∧ Ct l D yX0_countWays cX0_countWays 2 (some .int) 3 78 [.ref a0, .ref p1] h (some (.int x.1)) x.2 := by
  obtain ⟨fs, g1, g2⟩ := bnd_some e
  refine ⟨⟨fs, g1⟩, ?_⟩
  refine ct_of (out := oI) g2 (by decide +kernel) rfl (fun B C hin hl hd => ?_)
  subst hl; subst hd
  show J B _ _ h 0 [(0, .ref a0), (1, .ref p1)] []
  refine j_aload_n C dX0_countWays_0 0 rfl rfl ?_
  refine j_aload_n C dX0_countWays_1 1 rfl rfl ?_
  refine j_iconst C (1 : Int32) dX0_countWays_2 (by decide) ?_
  refine j_cI (st := []) (fun x e => ⟨runsV C wml_X0_57 wce_X0_fillAnswers (c_X0_fillAnswers (bL B) (bD B) _ _ _ _ x e).1 rfl rfl rfl rfl rfl dX0_countWays_3, (c_X0_fillAnswers (bL B) (bD B) _ _ _ _ x e).2⟩) (fun x1 h2 => ?_)
  exact j_iret C dX0_countWays_6
def f_X6_orders (a0 : Nat) (h : Hp) : Option (Int64 × Hp) :=
  bnd (gO h a0 6) fun _ => bnd (gR h a0 6 11) fun a1 => bnd (gR h a0 6 4) fun a2 => bnd (f_X0_takeAll a1 a2 h) fun h3 => bnd (gR h3 a0 6 11) fun a4 => bnd (gR h3 a0 6 4) fun a5 => bnd2 (f_X0_countWays a4 a5 h3) fun x6 h7 => some (x6.toInt64, h7)
set_option maxHeartbeats 4000000 in
set_option maxRecDepth 100000 in
theorem c_X6_orders (l : Launch) (D : hD) (a0 : Nat) (h : Hp) (x : (Int64 × Hp)) (e : f_X6_orders a0 h = some x) : (∃ fs, gO h a0 6 = some fs) ∧ Ct l D yX6_orders cX6_orders 1 (some .long) 4 99 [.ref a0] h (some (.long x.1)) x.2 := by
  obtain ⟨fs, g1, g2⟩ := bnd_some e
  refine ⟨⟨fs, g1⟩, ?_⟩
  refine ct_of (out := oL) g2 (by decide +kernel) rfl (fun B C hin hl hd => ?_)
  subst hl; subst hd
  show J B _ _ h 0 [(0, .ref a0)] []
  refine j_aload_n C dX6_orders_0 0 rfl rfl ?_
  refine j_getR C wfl_X6_44 dX6_orders_1 (fun a1 => ?_)
  refine j_aload_n C dX6_orders_4 0 rfl rfl ?_
  refine j_getR C wfl_X6_27 dX6_orders_5 (fun a2 => ?_)
  refine j_cV (st := []) (fun x e => ⟨runsV C wml_X6_180 wce_X0_takeAll (c_X0_takeAll (bL B) (bD B) _ _ _ x e).1 rfl rfl rfl rfl rfl dX6_orders_8, (c_X0_takeAll (bL B) (bD B) _ _ _ x e).2⟩) (fun h3 => ?_)
  refine j_aload_n C dX6_orders_11 0 rfl rfl ?_
  refine j_getR C wfl_X6_44 dX6_orders_12 (fun a4 => ?_)
  refine j_aload_n C dX6_orders_15 0 rfl rfl ?_
  refine j_getR C wfl_X6_27 dX6_orders_16 (fun a5 => ?_)
  refine j_cI (st := []) (fun x e => ⟨runsV C wml_X6_183 wce_X0_countWays (c_X0_countWays (bL B) (bD B) _ _ _ x e).1 rfl rfl rfl rfl rfl dX6_orders_19, (c_X0_countWays (bL B) (bD B) _ _ _ x e).2⟩) (fun x6 h7 => ?_)
  refine j_i2l C dX6_orders_22 ?_
  exact j_lret C dX6_orders_23
def f_X2_hourAfter (a0 : Nat) (p1 : Int32) (p2 : Int32) (h : Hp) : Option Int32 :=
  bnd (gO h a0 2) fun _ => bnd (f_X2_has a0 p2 h) fun x1 => jn1 (fun (w2 : Int32) => some w2) fun k3 => if x1 = 0 then (k3 p1) else (bnd (gR h a0 2 6) fun a5 => bnd (ldI 0 h a5 p2) fun x6 => bnd (gR h a0 2 4) fun a7 => bnd (ldI 0 h a7 p2) fun x8 => k3 ((mx p1 x6) + x8))
set_option maxHeartbeats 4000000 in
set_option maxRecDepth 100000 in
theorem c_X2_hourAfter (l : Launch) (D : hD) (a0 : Nat) (p1 : Int32) (p2 : Int32) (h : Hp) (x : Int32) (e : f_X2_hourAfter a0 p1 p2 h = some x) : (∃ fs, gO h a0 2 = some fs) ∧ Ct l D yX2_hourAfter cX2_hourAfter 3 (some .int) 1 21 [.ref a0, .int p1, .int p2] h (some (.int x)) h := by
  obtain ⟨fs, g1, g2⟩ := bnd_some e
  refine ⟨⟨fs, g1⟩, ?_⟩
  refine ct_of (out := (oIp h)) g2 (by decide +kernel) rfl (fun B C hin hl hd => ?_)
  subst hl; subst hd
  show J B _ _ h 0 [(0, .ref a0), (1, .int p1), (2, .int p2)] []
  refine j_aload_n C dX2_hourAfter_0 0 rfl rfl ?_
  refine j_iload_n C dX2_hourAfter_1 2 rfl rfl ?_
  refine j_cIp (st := []) (fun x e => ⟨runsV C wml_X2_58 wce_X2_has (c_X2_has (bL B) (bD B) _ _ _ x e).1 rfl rfl rfl rfl rfl dX2_hourAfter_2, (c_X2_has (bL B) (bD B) _ _ _ x e).2⟩) (fun x1 => ?_)
  refine J.jn1 29 (fun (w2 : Int32) => h) (fun (w2 : Int32) => []) (fun (w2 : Int32) => [.int w2]) (fun w2 => ?_) (fun k3 hk3 => ?_)
  · exact j_iretp C dX2_hourAfter_29
  refine j_if_eq C 28 dX2_hourAfter_5 (by decide) (fun c4 => ?_) (fun c4 => ?_)
  · refine j_iload_n C dX2_hourAfter_28 1 rfl rfl ?_
    refine J.sub (lv' := []) [] rfl ?_
    exact hk3 p1
  · refine j_iload_n C dX2_hourAfter_8 1 rfl rfl ?_
    refine j_aload_n C dX2_hourAfter_9 0 rfl rfl ?_
    refine j_getR C wfl_X2_21 dX2_hourAfter_10 (fun a5 => ?_)
    refine j_iload_n C dX2_hourAfter_13 2 rfl rfl ?_
    refine j_iaload C dX2_hourAfter_14 (fun x6 => ?_)
    refine j_max C wob_X2_74 wma_max_s wma_i wma_max_c rfl rfl rfl dX2_hourAfter_15 ?_
    refine j_aload_n C dX2_hourAfter_18 0 rfl rfl ?_
    refine j_getR C wfl_X2_15 dX2_hourAfter_19 (fun a7 => ?_)
    refine j_iload_n C dX2_hourAfter_22 2 rfl rfl ?_
    refine j_iaload C dX2_hourAfter_23 (fun x8 => ?_)
    refine j_iadd C dX2_hourAfter_24 ?_
    refine j_goto C 29 dX2_hourAfter_25 (by decide) ?_
    refine J.sub (lv' := []) [] rfl ?_
    exact hk3 ((mx p1 x6) + x8)
def f_X2_setPoured (a0 : Nat) (p1 : Int32) (h : Hp) : Option Hp :=
  bnd (gO h a0 2) fun _ => bnd (f_X2_has a0 p1 h) fun x1 => if x1 = 0 then (some h) else (bnd (gI h a0 2 8) fun x3 => bnd (f_X2_hourAfter a0 x3 p1 h) fun x4 => bnd (pF h a0 2 8 (.int x4)) fun h5 => bnd (gI h5 a0 2 0) fun x6 => bnd (gI h5 a0 2 9) fun x7 => bnd (f_X6_heldBefore x6 x7) fun x8 => bnd (pF h5 a0 2 10 (.int x8)) fun h9 => bnd (gR h9 a0 2 3) fun a10 => bnd (ldI 0 h9 a10 p1) fun x11 => bnd (pF h9 a0 2 9 (.int x11)) fun h12 => bnd (gR h12 a0 2 7) fun a13 => bnd (stI 0 h12 a13 p1 (1 : Int32)) fun h14 => some h14)
set_option maxHeartbeats 4000000 in
set_option maxRecDepth 100000 in
theorem c_X2_setPoured (l : Launch) (D : hD) (a0 : Nat) (p1 : Int32) (h : Hp) (x : Hp) (e : f_X2_setPoured a0 p1 h = some x) : (∃ fs, gO h a0 2 = some fs) ∧ Ct l D yX2_setPoured cX2_setPoured 2 none 2 43 [.ref a0, .int p1] h none x := by
  obtain ⟨fs, g1, g2⟩ := bnd_some e
  refine ⟨⟨fs, g1⟩, ?_⟩
  refine ct_of (out := oV) g2 (by decide +kernel) rfl (fun B C hin hl hd => ?_)
  subst hl; subst hd
  show J B _ _ h 0 [(0, .ref a0), (1, .int p1)] []
  refine j_aload_n C dX2_setPoured_0 0 rfl rfl ?_
  refine j_iload_n C dX2_setPoured_1 1 rfl rfl ?_
  refine j_cIp (st := []) (fun x e => ⟨runsV C wml_X2_58 wce_X2_has (c_X2_has (bL B) (bD B) _ _ _ x e).1 rfl rfl rfl rfl rfl dX2_setPoured_2, (c_X2_has (bL B) (bD B) _ _ _ x e).2⟩) (fun x1 => ?_)
  refine j_if_ne C 9 dX2_setPoured_5 (by decide) (fun c2 => ?_) (fun c2 => ?_)
  · refine j_aload_n C dX2_setPoured_9 0 rfl rfl ?_
    refine j_aload_n C dX2_setPoured_10 0 rfl rfl ?_
    refine j_aload_n C dX2_setPoured_11 0 rfl rfl ?_
    refine j_getI C wfl_X2_40 dX2_setPoured_12 (fun x3 => ?_)
    refine j_iload_n C dX2_setPoured_15 1 rfl rfl ?_
    refine j_cIp (st := [.ref a0]) (fun x e => ⟨runsV C wml_X2_79 wce_X2_hourAfter (c_X2_hourAfter (bL B) (bD B) _ _ _ _ x e).1 rfl rfl rfl rfl rfl dX2_setPoured_16, (c_X2_hourAfter (bL B) (bD B) _ _ _ _ x e).2⟩) (fun x4 => ?_)
    refine j_put C wfp_X2_40 dX2_setPoured_19 ⟨_, rfl⟩ (fun h5 => ?_)
    refine j_aload_n C dX2_setPoured_22 0 rfl rfl ?_
    refine j_aload_n C dX2_setPoured_23 0 rfl rfl ?_
    refine j_getI C wfl_X2_30 dX2_setPoured_24 (fun x6 => ?_)
    refine j_aload_n C dX2_setPoured_27 0 rfl rfl ?_
    refine j_getI C wfl_X2_43 dX2_setPoured_28 (fun x7 => ?_)
    refine j_cIp (st := [.ref a0]) (fun x e => ⟨runsS C wml_X2_82 wce_X6_heldBefore rfl rfl rfl rfl rfl dX2_setPoured_31, c_X6_heldBefore (bL B) (bD B) _ _ _ x e⟩) (fun x8 => ?_)
    refine j_put C wfp_X2_46 dX2_setPoured_34 ⟨_, rfl⟩ (fun h9 => ?_)
    refine j_aload_n C dX2_setPoured_37 0 rfl rfl ?_
    refine j_aload_n C dX2_setPoured_38 0 rfl rfl ?_
    refine j_getR C wfl_X2_9 dX2_setPoured_39 (fun a10 => ?_)
    refine j_iload_n C dX2_setPoured_42 1 rfl rfl ?_
    refine j_iaload C dX2_setPoured_43 (fun x11 => ?_)
    refine j_put C wfp_X2_43 dX2_setPoured_44 ⟨_, rfl⟩ (fun h12 => ?_)
    refine j_aload_n C dX2_setPoured_47 0 rfl rfl ?_
    refine j_getR C wfl_X2_24 dX2_setPoured_48 (fun a13 => ?_)
    refine j_iload_n C dX2_setPoured_51 1 rfl rfl ?_
    refine j_iconst C (1 : Int32) dX2_setPoured_52 (by decide) ?_
    refine j_iastore C dX2_setPoured_53 (fun h14 => ?_)
    exact j_vret C dX2_setPoured_54
  · exact j_vret C dX2_setPoured_8
def f_X6_pour (a0 : Nat) (p1 : Int32) (h : Hp) : Option (Int32 × Hp) :=
  bnd (gO h a0 6) fun _ => bnd (gR h a0 6 4) fun a1 => bnd (f_X2_has a1 p1 h) fun x2 => if x2 = 0 then (some ((-1 : Int32), h)) else (bnd (gR h a0 6 4) fun a4 => bnd (f_X2_waits a4 p1 h) fun x5 => jn0 (some ((-2 : Int32), h)) fun k6 => if x5 = 0 then k6 else (bnd (gR h a0 6 4) fun a8 => bnd (f_X2_fitsNow a8 p1 h) fun x9 => if x9 = 0 then k6 else (bnd (f_X6_remember a0 h) fun h11 => bnd (pF h11 a0 6 10 (.int (0 : Int32))) fun h12 => bnd (gR h12 a0 6 4) fun a13 => bnd (f_X2_setPoured a13 p1 h12) fun h14 => bnd (gR h14 a0 6 4) fun a15 => bnd (gI h14 a15 2 8) fun x16 => some (x16, h14))))
set_option maxHeartbeats 4000000 in
set_option maxRecDepth 100000 in
theorem c_X6_pour (l : Launch) (D : hD) (a0 : Nat) (p1 : Int32) (h : Hp) (x : (Int32 × Hp)) (e : f_X6_pour a0 p1 h = some x) : (∃ fs, gO h a0 6 = some fs) ∧ Ct l D yX6_pour cX6_pour 2 (some .int) 3 69 [.ref a0, .int p1] h (some (.int x.1)) x.2 := by
  obtain ⟨fs, g1, g2⟩ := bnd_some e
  refine ⟨⟨fs, g1⟩, ?_⟩
  refine ct_of (out := oI) g2 (by decide +kernel) rfl (fun B C hin hl hd => ?_)
  subst hl; subst hd
  show J B _ _ h 0 [(0, .ref a0), (1, .int p1)] []
  refine j_aload_n C dX6_pour_0 0 rfl rfl ?_
  refine j_getR C wfl_X6_27 dX6_pour_1 (fun a1 => ?_)
  refine j_iload_n C dX6_pour_4 1 rfl rfl ?_
  refine j_cIp (st := []) (fun x e => ⟨runsV C wml_X6_97 wce_X2_has (c_X2_has (bL B) (bD B) _ _ _ x e).1 rfl rfl rfl rfl rfl dX6_pour_5, (c_X2_has (bL B) (bD B) _ _ _ x e).2⟩) (fun x2 => ?_)
  refine j_if_ne C 13 dX6_pour_8 (by decide) (fun c3 => ?_) (fun c3 => ?_)
  · refine j_aload_n C dX6_pour_13 0 rfl rfl ?_
    refine j_getR C wfl_X6_27 dX6_pour_14 (fun a4 => ?_)
    refine j_iload_n C dX6_pour_17 1 rfl rfl ?_
    refine j_cIp (st := []) (fun x e => ⟨runsV C wml_X6_116 wce_X2_waits (c_X2_waits (bL B) (bD B) _ _ _ x e).1 rfl rfl rfl rfl rfl dX6_pour_18, (c_X2_waits (bL B) (bD B) _ _ _ x e).2⟩) (fun x5 => ?_)
    refine J.jn0 (h0 := h) (lv0 := []) (st0 := []) 35 ?_ (fun k6 hk6 => ?_)
    · refine j_bipush C (-2 : Int32) dX6_pour_35 (by decide) ?_
      exact j_iret C dX6_pour_37
    refine j_if_eq C 35 dX6_pour_21 (by decide) (fun c7 => ?_) (fun c7 => ?_)
    · refine J.sub (lv' := []) [] rfl ?_
      exact hk6
    · refine j_aload_n C dX6_pour_24 0 rfl rfl ?_
      refine j_getR C wfl_X6_27 dX6_pour_25 (fun a8 => ?_)
      refine j_iload_n C dX6_pour_28 1 rfl rfl ?_
      refine j_cIp (st := []) (fun x e => ⟨runsV C wml_X6_119 wce_X2_fitsNow (c_X2_fitsNow (bL B) (bD B) _ _ _ x e).1 rfl rfl rfl rfl rfl dX6_pour_29, (c_X2_fitsNow (bL B) (bD B) _ _ _ x e).2⟩) (fun x9 => ?_)
      refine j_if_ne C 38 dX6_pour_32 (by decide) (fun c10 => ?_) (fun c10 => ?_)
      · refine j_aload_n C dX6_pour_38 0 rfl rfl ?_
        refine j_cV (st := []) (fun x e => ⟨runsV C wml_X6_122 wce_X6_remember (c_X6_remember (bL B) (bD B) _ _ x e).1 rfl rfl rfl rfl rfl dX6_pour_39, (c_X6_remember (bL B) (bD B) _ _ x e).2⟩) (fun h11 => ?_)
        refine j_aload_n C dX6_pour_42 0 rfl rfl ?_
        refine j_iconst C (0 : Int32) dX6_pour_43 (by decide) ?_
        refine j_put C wfp_X6_88 dX6_pour_44 ⟨_, rfl⟩ (fun h12 => ?_)
        refine j_aload_n C dX6_pour_47 0 rfl rfl ?_
        refine j_getR C wfl_X6_27 dX6_pour_48 (fun a13 => ?_)
        refine j_iload_n C dX6_pour_51 1 rfl rfl ?_
        refine j_cV (st := []) (fun x e => ⟨runsV C wml_X6_125 wce_X2_setPoured (c_X2_setPoured (bL B) (bD B) _ _ _ x e).1 rfl rfl rfl rfl rfl dX6_pour_52, (c_X2_setPoured (bL B) (bD B) _ _ _ x e).2⟩) (fun h14 => ?_)
        refine j_aload_n C dX6_pour_55 0 rfl rfl ?_
        refine j_getR C wfl_X6_27 dX6_pour_56 (fun a15 => ?_)
        refine j_getI C wfl_X6_129 dX6_pour_59 (fun x16 => ?_)
        exact j_iret C dX6_pour_62
      · refine J.sub (lv' := []) [] rfl ?_
        exact hk6
  · refine j_iconst C (-1 : Int32) dX6_pour_11 (by decide) ?_
    exact j_iret C dX6_pour_12
