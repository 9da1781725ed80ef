def f_X7_number (a0 : Nat) (h : Hp) : Option (Int32 × Hp) :=
  bnd (gO h a0 7) fun _ => wl3 (fun r4 (i1 : Int32) (i2 : Int32) (h3 : Hp) => bnd (gI h3 a0 7 2) fun x5 => bnd (gI h3 a0 7 0) fun x6 => jn0 (bnd (f_X7_in i2.toInt64 (1 : Int64) (2 : Int64)) fun x8 => jn1 (fun (w9 : Int32) => some (w9, h3)) fun k10 => if x8 = 0 then (k10 (-1 : Int32)) else (k10 i1)) fun k7 => if x6 ≤ x5 then k7 else (bnd (gR h3 a0 7 1) fun a13 => bnd (gI h3 a0 7 2) fun x14 => bnd (ldI 1 h3 a13 x14) fun x15 => bnd (f_X7_in x15.toInt64 (48 : Int64) (57 : Int64)) fun x16 => if x16 = 0 then k7 else (jn1 (fun (w18 : Int32) => bnd (gI h3 a0 7 2) fun x20 => bnd (pF h3 a0 7 2 (.int (x20 + (1 : Int32)))) fun h21 => r4 w18 (i2 + (1 : Int32)) h21) fun k19 => if (2 : Int32) ≤ i2 then (k19 i1) else (bnd (gR h3 a0 7 1) fun a23 => bnd (gI h3 a0 7 2) fun x24 => bnd (ldI 1 h3 a23 x24) fun x25 => k19 ((((10 : Int32) * i1) + x25) - (48 : Int32)))))) fuel (0 : Int32) (0 : Int32) h
set_option maxHeartbeats 4000000 in
set_option maxRecDepth 100000 in
theorem c_X7_number (l : Launch) (D : hD) (a0 : Nat) (h : Hp) (x : (Int32 × Hp)) (e : f_X7_number a0 h = some x) : (∃ fs, gO h a0 7 = some fs) ∧ Ct l D yX7_number cX7_number 3 (some .int) 1 25 [.ref a0] h (some (.int x.1)) x.2 := by
  obtain ⟨fs, g1, g2⟩ := bnd_some e
  refine ⟨⟨fs, g1⟩, ?_⟩
  refine ct_of (out := oI) g2 (by decide +kernel) rfl (fun B C hin hl hd => ?_)
  subst hl; subst hd
  show J B _ _ h 0 [(0, .ref a0)] []
  refine j_iconst C (0 : Int32) dX7_number_0 (by decide) ?_
  refine j_istore_n (lv' := [(1, .int (0 : Int32)), (0, .ref a0)]) C dX7_number_1 rfl rfl rfl ?_
  refine j_iconst C (0 : Int32) dX7_number_2 (by decide) ?_
  refine j_istore_n (lv' := [(2, .int (0 : Int32)), (1, .int (0 : Int32)), (0, .ref a0)]) C dX7_number_3 rfl rfl rfl ?_
  refine J.sub (lv' := [(0, .ref a0), (1, .int (0 : Int32)), (2, .int (0 : Int32))]) [2, 1, 0] rfl ?_
  refine J.wl3 4 (fun (i1 : Int32) (i2 : Int32) (h3 : Hp) => h3) (fun (i1 : Int32) (i2 : Int32) (h3 : Hp) => [(0, .ref a0), (1, .int i1), (2, .int i2)]) (fun (i1 : Int32) (i2 : Int32) (h3 : Hp) => []) (fun r4 hr4 i1 i2 h3 => ?_) fuel (0 : Int32) (0 : Int32) h
  refine j_aload_n C dX7_number_4 0 rfl rfl ?_
  refine j_getI C wfl_X7_77 dX7_number_5 (fun x5 => ?_)
  refine j_aload_n C dX7_number_8 0 rfl rfl ?_
  refine j_getI C wfl_X7_73 dX7_number_9 (fun x6 => ?_)
  refine J.jn0 (h0 := h3) (lv0 := [(1, .int i1), (2, .int i2)]) (st0 := []) 80 ?_ (fun k7 hk7 => ?_)
  · refine j_iload_n C dX7_number_80 1 rfl rfl ?_
    refine j_i2l C dX7_number_81 ?_
    refine j_lconst C (1 : Int64) dX7_number_82 (by decide) ?_
    refine j_ldc2_w C dX7_number_83 wcl_X7_84 ?_
    refine j_cIp (st := []) (fun x e => ⟨runsS C wml_X7_69 wce_X7_in rfl rfl rfl rfl rfl dX7_number_86, c_X7_in (bL B) (bD B) _ _ _ _ x e⟩) (fun x8 => ?_)
    refine J.jn1 97 (fun (w9 : Int32) => h3) (fun (w9 : Int32) => []) (fun (w9 : Int32) => [.int w9]) (fun w9 => ?_) (fun k10 hk10 => ?_)
    · exact j_iret C dX7_number_97
    refine j_if_eq C 96 dX7_number_89 (by decide) (fun c11 => ?_) (fun c11 => ?_)
    · refine j_iconst C (-1 : Int32) dX7_number_96 (by decide) ?_
      refine J.sub (lv' := []) [] rfl ?_
      exact hk10 (-1 : Int32)
    · refine j_iload_n C dX7_number_92 0 rfl rfl ?_
      refine j_goto C 97 dX7_number_93 (by decide) ?_
      refine J.sub (lv' := []) [] rfl ?_
      exact hk10 i1
  refine j_icmp_ge C 80 dX7_number_12 (by decide) (fun c12 => ?_) (fun c12 => ?_)
  · refine J.sub (lv' := [(1, .int i1), (2, .int i2)]) [1, 2] rfl ?_
    exact hk7
  · refine j_aload_n C dX7_number_15 0 rfl rfl ?_
    refine j_getR C wfl_X7_7 dX7_number_16 (fun a13 => ?_)
    refine j_aload_n C dX7_number_19 0 rfl rfl ?_
    refine j_getI C wfl_X7_77 dX7_number_20 (fun x14 => ?_)
    refine j_baload C dX7_number_23 (fun x15 => ?_)
    refine j_i2l C dX7_number_24 ?_
    refine j_ldc2_w C dX7_number_25 wcl_X7_80 ?_
    refine j_ldc2_w C dX7_number_28 wcl_X7_82 ?_
    refine j_cIp (st := []) (fun x e => ⟨runsS C wml_X7_69 wce_X7_in rfl rfl rfl rfl rfl dX7_number_31, c_X7_in (bL B) (bD B) _ _ _ _ x e⟩) (fun x16 => ?_)
    refine j_if_eq C 80 dX7_number_34 (by decide) (fun c17 => ?_) (fun c17 => ?_)
    · refine J.sub (lv' := [(1, .int i1), (2, .int i2)]) [1, 2] rfl ?_
      exact hk7
    · refine j_iload_n C dX7_number_37 2 rfl rfl ?_
      refine j_iconst C (2 : Int32) dX7_number_38 (by decide) ?_
      refine J.jn1 63 (fun (w18 : Int32) => h3) (fun (w18 : Int32) => [(0, .ref a0), (2, .int i2)]) (fun (w18 : Int32) => [.int w18]) (fun w18 => ?_) (fun k19 hk19 => ?_)
      · refine j_istore_n (lv' := [(1, .int w18), (0, .ref a0), (2, .int i2)]) C dX7_number_63 rfl rfl rfl ?_
        refine j_iinc (lv' := [(2, .int (i2 + (1 : Int32))), (1, .int w18), (0, .ref a0)]) C (1 : Int32) dX7_number_64 2 rfl (by decide) rfl rfl ?_
        refine j_aload_n C dX7_number_67 2 rfl rfl ?_
        refine j_dup C dX7_number_68 (fun _ => rfl) ?_
        refine j_getI C wfl_X7_77 dX7_number_69 (fun x20 => ?_)
        refine j_iconst C (1 : Int32) dX7_number_72 (by decide) ?_
        refine j_iadd C dX7_number_73 ?_
        refine j_put C wfp_X7_77 dX7_number_74 ⟨_, rfl⟩ (fun h21 => ?_)
        refine j_goto C 4 dX7_number_77 (by decide) ?_
        refine J.sub (lv' := [(0, .ref a0), (1, .int w18), (2, .int (i2 + (1 : Int32)))]) [2, 1, 0] rfl ?_
        exact hr4 w18 (i2 + (1 : Int32)) h21
      refine j_icmp_ge C 62 dX7_number_39 (by decide) (fun c22 => ?_) (fun c22 => ?_)
      · refine j_iload_n C dX7_number_62 1 rfl rfl ?_
        refine J.sub (lv' := [(0, .ref a0), (2, .int i2)]) [0, 2] rfl ?_
        exact hk19 i1
      · refine j_bipush C (10 : Int32) dX7_number_42 (by decide) ?_
        refine j_iload_n C dX7_number_44 1 rfl rfl ?_
        refine j_imul C dX7_number_45 ?_
        refine j_aload_n C dX7_number_46 0 rfl rfl ?_
        refine j_getR C wfl_X7_7 dX7_number_47 (fun a23 => ?_)
        refine j_aload_n C dX7_number_50 0 rfl rfl ?_
        refine j_getI C wfl_X7_77 dX7_number_51 (fun x24 => ?_)
        refine j_baload C dX7_number_54 (fun x25 => ?_)
        refine j_iadd C dX7_number_55 ?_
        refine j_bipush C (48 : Int32) dX7_number_56 (by decide) ?_
        refine j_isub C dX7_number_58 ?_
        refine j_goto C 63 dX7_number_59 (by decide) ?_
        refine J.sub (lv' := [(0, .ref a0), (2, .int i2)]) [0, 2] rfl ?_
        exact hk19 ((((10 : Int32) * i1) + x25) - (48 : Int32))
def f_X7_isItem (a0 : Nat) (h : Hp) : Option (Int32 × Hp) :=
  bnd (gO h a0 7) fun _ => bnd (gR h a0 7 1) fun a1 => bnd (gI h a0 7 2) fun x2 => bnd (ldI 1 h a1 x2) fun x3 => bnd (gI h a0 7 2) fun x4 => bnd (pF h a0 7 2 (.int (x4 + (1 : Int32)))) fun h5 => jn1 (fun (w6 : Int32) => jn1 (fun (w8 : Int32) => wl3 (fun r13 (i10 : Int32) (i11 : Int32) (h12 : Hp) => jn0 (jn1 (fun (w15 : Int32) => bnd (gI h12 a0 7 2) fun x17 => bnd (pF h12 a0 7 2 (.int (x17 + (1 : Int32)))) fun h18 => jn2 (fun (w19 : Int32) (h20 : Hp) => rZ w19 h20) fun k21 => jn1 (fun (h22 : Hp) => k21 (0 : Int32) h22) fun k23 => if w15 = 0 then (k23 h18) else (bnd2 (f_X7_isGood a0 x3 h18) fun x25 h26 => if x25 = 0 then (k23 h26) else (k21 (1 : Int32) h26))) fun k16 => jn0 (k16 (0 : Int32)) fun k28 => if i10 = 0 then k28 else (bnd (gI h12 a0 7 2) fun x30 => bnd (gI h12 a0 7 0) fun x31 => if x31 ≤ x30 then k28 else (bnd (gR h12 a0 7 1) fun a33 => bnd (gI h12 a0 7 2) fun x34 => bnd (ldI 1 h12 a33 x34) fun x35 => if x35 = (59 : Int32) then (k16 (1 : Int32)) else k28))) fun k14 => if w6 ≤ i11 then k14 else (if i10 = 0 then k14 else (jn1 (fun (w39 : Int32) => bnd (gI h12 a0 7 2) fun x41 => jn1 (fun (w42 : Int32) => bnd (pF h12 a0 7 2 (.int (x41 + w42))) fun h44 => bnd (gR h44 a0 7 20) fun a45 => jn2 (fun (w46 : Int32) (h47 : Hp) => bnd (stI 0 h47 a45 i11 w46) fun h49 => bnd (gR h49 a0 7 20) fun a50 => bnd (ldI 0 h49 a50 i11) fun x51 => jn1 (fun (w52 : Int32) => r13 w52 (i11 + (1 : Int32)) h49) fun k53 => if x51 < 0 then (k53 (0 : Int32)) else (k53 (1 : Int32))) fun k48 => if w39 = 0 then (k48 (-1 : Int32) h44) else (bnd2 (f_X7_number a0 h44) fun x56 h57 => k48 x56 h57)) fun k43 => if i11 = 0 then (k43 (0 : Int32)) else (k43 (1 : Int32))) fun k40 => jn0 (k40 (1 : Int32)) fun k59 => if i11 = 0 then k59 else (bnd (gI h12 a0 7 2) fun x61 => bnd (gI h12 a0 7 0) fun x62 => jn0 (k40 (0 : Int32)) fun k63 => if x62 ≤ x61 then k63 else (bnd (gR h12 a0 7 1) fun a65 => bnd (gI h12 a0 7 2) fun x66 => bnd (ldI 1 h12 a65 x66) fun x67 => if x67 = (44 : Int32) then k59 else k63))))) fuel w8 (0 : Int32) h5) fun k9 => if w6 ≤ 0 then (k9 (0 : Int32)) else (k9 (1 : Int32))) fun k7 => if x3 = (115 : Int32) then (k7 (4 : Int32)) else (jn0 (k7 (1 : Int32)) fun k71 => if x3 = (108 : Int32) then k71 else (if x3 = (99 : Int32) then k71 else (k7 (0 : Int32))))
set_option maxHeartbeats 4000000 in
set_option maxRecDepth 100000 in
theorem c_X7_isItem (l : Launch) (D : hD) (a0 : Nat) (h : Hp) (x : (Int32 × Hp)) (e : f_X7_isItem a0 h = some x) : (∃ fs, gO h a0 7 = some fs) ∧ Ct l D yX7_isItem cX7_isItem 5 (some .boolean) 2 48 [.ref a0] h (some (.int x.1)) x.2 := by
  obtain ⟨fs, g1, g2⟩ := bnd_some e
  refine ⟨⟨fs, g1⟩, ?_⟩
  refine ct_of (out := oI) g2 (by decide +kernel) rfl (fun B C hin hl hd => ?_)
  subst hl; subst hd
  show J B _ _ h 0 [(0, .ref a0)] []
  refine j_aload_n C dX7_isItem_0 0 rfl rfl ?_
  refine j_getR C wfl_X7_7 dX7_isItem_1 (fun a1 => ?_)
  refine j_aload_n C dX7_isItem_4 0 rfl rfl ?_
  refine j_getI C wfl_X7_77 dX7_isItem_5 (fun x2 => ?_)
  refine j_baload C dX7_isItem_8 (fun x3 => ?_)
  refine j_istore_n (lv' := [(1, .int x3), (0, .ref a0)]) C dX7_isItem_9 rfl rfl rfl ?_
  refine j_aload_n C dX7_isItem_10 1 rfl rfl ?_
  refine j_dup C dX7_isItem_11 (fun _ => rfl) ?_
  refine j_getI C wfl_X7_77 dX7_isItem_12 (fun x4 => ?_)
  refine j_iconst C (1 : Int32) dX7_isItem_15 (by decide) ?_
  refine j_iadd C dX7_isItem_16 ?_
  refine j_put C wfp_X7_77 dX7_isItem_17 ⟨_, rfl⟩ (fun h5 => ?_)
  refine j_iload_n C dX7_isItem_20 0 rfl rfl ?_
  refine j_bipush C (115 : Int32) dX7_isItem_21 (by decide) ?_
  refine J.jn1 47 (fun (w6 : Int32) => h5) (fun (w6 : Int32) => [(0, .ref a0), (1, .int x3)]) (fun (w6 : Int32) => [.int w6]) (fun w6 => ?_) (fun k7 hk7 => ?_)
  · refine j_istore_n (lv' := [(2, .int w6), (0, .ref a0), (1, .int x3)]) C dX7_isItem_47 rfl rfl rfl ?_
    refine j_iload_n C dX7_isItem_48 0 rfl rfl ?_
    refine J.jn1 57 (fun (w8 : Int32) => h5) (fun (w8 : Int32) => [(0, .ref a0), (1, .int x3), (2, .int w6)]) (fun (w8 : Int32) => [.int w8]) (fun w8 => ?_) (fun k9 hk9 => ?_)
    · refine j_istore_n (lv' := [(3, .int w8), (0, .ref a0), (1, .int x3), (2, .int w6)]) C dX7_isItem_57 rfl rfl rfl ?_
      refine j_iconst C (0 : Int32) dX7_isItem_58 (by decide) ?_
      refine j_istore (lv' := [(4, .int (0 : Int32)), (3, .int w8), (0, .ref a0), (1, .int x3), (2, .int w6)]) C dX7_isItem_59 rfl rfl ?_
      refine J.sub (lv' := [(0, .ref a0), (1, .int x3), (2, .int w6), (3, .int w8), (4, .int (0 : Int32))]) [2, 3, 4, 1, 0] rfl ?_
      refine J.wl3 61 (fun (i10 : Int32) (i11 : Int32) (h12 : Hp) => h12) (fun (i10 : Int32) (i11 : Int32) (h12 : Hp) => [(0, .ref a0), (1, .int x3), (2, .int w6), (3, .int i10), (4, .int i11)]) (fun (i10 : Int32) (i11 : Int32) (h12 : Hp) => []) (fun r13 hr13 i10 i11 h12 => ?_) fuel w8 (0 : Int32) h5
      refine j_iload C dX7_isItem_61 4 rfl ?_
      refine j_iload_n C dX7_isItem_63 2 rfl rfl ?_
      refine J.jn0 (h0 := h12) (lv0 := [(0, .ref a0), (1, .int x3), (3, .int i10)]) (st0 := []) 167 ?_ (fun k14 hk14 => ?_)
      · refine j_iload_n C dX7_isItem_167 2 rfl rfl ?_
        refine J.jn1 201 (fun (w15 : Int32) => h12) (fun (w15 : Int32) => [(0, .ref a0), (1, .int x3)]) (fun (w15 : Int32) => [.int w15]) (fun w15 => ?_) (fun k16 hk16 => ?_)
        · refine j_istore_n (lv' := [(3, .int w15), (0, .ref a0), (1, .int x3)]) C dX7_isItem_201 rfl rfl rfl ?_
          refine j_aload_n C dX7_isItem_202 1 rfl rfl ?_
          refine j_dup C dX7_isItem_203 (fun _ => rfl) ?_
          refine j_getI C wfl_X7_77 dX7_isItem_204 (fun x17 => ?_)
          refine j_iconst C (1 : Int32) dX7_isItem_207 (by decide) ?_
          refine j_iadd C dX7_isItem_208 ?_
          refine j_put C wfp_X7_77 dX7_isItem_209 ⟨_, rfl⟩ (fun h18 => ?_)
          refine j_iload_n C dX7_isItem_212 0 rfl rfl ?_
          refine J.jn2 229 (fun (w19 : Int32) (h20 : Hp) => h20) (fun (w19 : Int32) (h20 : Hp) => []) (fun (w19 : Int32) (h20 : Hp) => [.int w19]) (fun w19 h20 => ?_) (fun k21 hk21 => ?_)
          · exact j_zret C dX7_isItem_229
          refine J.jn1 228 (fun (h22 : Hp) => h22) (fun (h22 : Hp) => []) (fun (h22 : Hp) => []) (fun h22 => ?_) (fun k23 hk23 => ?_)
          · refine j_iconst C (0 : Int32) dX7_isItem_228 (by decide) ?_
            exact hk21 (0 : Int32) h22
          refine j_if_eq C 228 dX7_isItem_213 (by decide) (fun c24 => ?_) (fun c24 => ?_)
          · refine J.sub (lv' := []) [] rfl ?_
            exact hk23 h18
          · refine j_aload_n C dX7_isItem_216 1 rfl rfl ?_
            refine j_iload_n C dX7_isItem_217 2 rfl rfl ?_
            refine j_cI (st := []) (fun x e => ⟨runsV C wml_X7_90 wce_X7_isGood (c_X7_isGood (bL B) (bD B) _ _ _ x e).1 rfl rfl rfl rfl rfl dX7_isItem_218, (c_X7_isGood (bL B) (bD B) _ _ _ x e).2⟩) (fun x25 h26 => ?_)
            refine j_if_eq C 228 dX7_isItem_221 (by decide) (fun c27 => ?_) (fun c27 => ?_)
            · refine J.sub (lv' := []) [] rfl ?_
              exact hk23 h26
            · refine j_iconst C (1 : Int32) dX7_isItem_224 (by decide) ?_
              refine j_goto C 229 dX7_isItem_225 (by decide) ?_
              refine J.sub (lv' := []) [] rfl ?_
              exact hk21 (1 : Int32) h26
        refine J.jn0 (h0 := h12) (lv0 := [(0, .ref a0), (1, .int x3)]) (st0 := []) 200 ?_ (fun k28 hk28 => ?_)
        · refine j_iconst C (0 : Int32) dX7_isItem_200 (by decide) ?_
          exact hk16 (0 : Int32)
        refine j_if_eq C 200 dX7_isItem_168 (by decide) (fun c29 => ?_) (fun c29 => ?_)
        · refine J.sub (lv' := [(0, .ref a0), (1, .int x3)]) [0, 1] rfl ?_
          exact hk28
        · refine j_aload_n C dX7_isItem_171 0 rfl rfl ?_
          refine j_getI C wfl_X7_77 dX7_isItem_172 (fun x30 => ?_)
          refine j_aload_n C dX7_isItem_175 0 rfl rfl ?_
          refine j_getI C wfl_X7_73 dX7_isItem_176 (fun x31 => ?_)
          refine j_icmp_ge C 200 dX7_isItem_179 (by decide) (fun c32 => ?_) (fun c32 => ?_)
          · refine J.sub (lv' := [(0, .ref a0), (1, .int x3)]) [0, 1] rfl ?_
            exact hk28
          · refine j_aload_n C dX7_isItem_182 0 rfl rfl ?_
            refine j_getR C wfl_X7_7 dX7_isItem_183 (fun a33 => ?_)
            refine j_aload_n C dX7_isItem_186 0 rfl rfl ?_
            refine j_getI C wfl_X7_77 dX7_isItem_187 (fun x34 => ?_)
            refine j_baload C dX7_isItem_190 (fun x35 => ?_)
            refine j_bipush C (59 : Int32) dX7_isItem_191 (by decide) ?_
            refine j_icmp_ne C 200 dX7_isItem_193 (by decide) (fun c36 => ?_) (fun c36 => ?_)
            · refine J.sub (lv' := [(0, .ref a0), (1, .int x3)]) [0, 1] rfl ?_
              exact hk28
            · refine j_iconst C (1 : Int32) dX7_isItem_196 (by decide) ?_
              refine j_goto C 201 dX7_isItem_197 (by decide) ?_
              refine J.sub (lv' := [(0, .ref a0), (1, .int x3)]) [0, 1] rfl ?_
              exact hk16 (1 : Int32)
      refine j_icmp_ge C 167 dX7_isItem_64 (by decide) (fun c37 => ?_) (fun c37 => ?_)
      · refine J.sub (lv' := [(0, .ref a0), (1, .int x3), (3, .int i10)]) [0, 1, 3] rfl ?_
        exact hk14
      · refine j_iload_n C dX7_isItem_67 3 rfl rfl ?_
        refine j_if_eq C 167 dX7_isItem_68 (by decide) (fun c38 => ?_) (fun c38 => ?_)
        · refine J.sub (lv' := [(0, .ref a0), (1, .int x3), (3, .int i10)]) [0, 1, 3] rfl ?_
          exact hk14
        · refine j_iload C dX7_isItem_71 4 rfl ?_
          refine J.jn1 106 (fun (w39 : Int32) => h12) (fun (w39 : Int32) => [(0, .ref a0), (1, .int x3), (2, .int w6), (4, .int i11)]) (fun (w39 : Int32) => [.int w39]) (fun w39 => ?_) (fun k40 hk40 => ?_)
          · refine j_istore_n (lv' := [(3, .int w39), (0, .ref a0), (1, .int x3), (2, .int w6), (4, .int i11)]) C dX7_isItem_106 rfl rfl rfl ?_
            refine j_aload_n C dX7_isItem_107 1 rfl rfl ?_
            refine j_dup C dX7_isItem_108 (fun _ => rfl) ?_
            refine j_getI C wfl_X7_77 dX7_isItem_109 (fun x41 => ?_)
            refine j_iload C dX7_isItem_112 4 rfl ?_
            refine J.jn1 122 (fun (w42 : Int32) => h12) (fun (w42 : Int32) => [(0, .ref a0), (1, .int x3), (2, .int w6), (3, .int w39), (4, .int i11)]) (fun (w42 : Int32) => [.int w42, .int x41, .ref a0]) (fun w42 => ?_) (fun k43 hk43 => ?_)
            · refine j_iadd C dX7_isItem_122 ?_
              refine j_put C wfp_X7_77 dX7_isItem_123 ⟨_, rfl⟩ (fun h44 => ?_)
              refine j_aload_n C dX7_isItem_126 0 rfl rfl ?_
              refine j_getR C wfl_X7_54 dX7_isItem_127 (fun a45 => ?_)
              refine j_iload C dX7_isItem_130 4 rfl ?_
              refine j_iload_n C dX7_isItem_132 3 rfl rfl ?_
              refine J.jn2 144 (fun (w46 : Int32) (h47 : Hp) => h47) (fun (w46 : Int32) (h47 : Hp) => [(0, .ref a0), (1, .int x3), (2, .int w6), (4, .int i11)]) (fun (w46 : Int32) (h47 : Hp) => [.int w46, .int i11, .ref a45]) (fun w46 h47 => ?_) (fun k48 hk48 => ?_)
              · refine j_iastore C dX7_isItem_144 (fun h49 => ?_)
                refine j_aload_n C dX7_isItem_145 0 rfl rfl ?_
                refine j_getR C wfl_X7_54 dX7_isItem_146 (fun a50 => ?_)
                refine j_iload C dX7_isItem_149 3 rfl ?_
                refine j_iaload C dX7_isItem_151 (fun x51 => ?_)
                refine J.jn1 160 (fun (w52 : Int32) => h49) (fun (w52 : Int32) => [(0, .ref a0), (1, .int x3), (2, .int w6), (4, .int i11)]) (fun (w52 : Int32) => [.int w52]) (fun w52 => ?_) (fun k53 hk53 => ?_)
                · refine j_istore_n (lv' := [(3, .int w52), (0, .ref a0), (1, .int x3), (2, .int w6), (4, .int i11)]) C dX7_isItem_160 rfl rfl rfl ?_
                  refine j_iinc (lv' := [(4, .int (i11 + (1 : Int32))), (3, .int w52), (0, .ref a0), (1, .int x3), (2, .int w6)]) C (1 : Int32) dX7_isItem_161 4 rfl (by decide) rfl rfl ?_
                  refine j_goto C 61 dX7_isItem_164 (by decide) ?_
                  refine J.sub (lv' := [(0, .ref a0), (1, .int x3), (2, .int w6), (3, .int w52), (4, .int (i11 + (1 : Int32)))]) [2, 3, 4, 1, 0] rfl ?_
                  exact hr13 w52 (i11 + (1 : Int32)) h49
                refine j_if_lt C 159 dX7_isItem_152 (by decide) (fun c54 => ?_) (fun c54 => ?_)
                · refine j_iconst C (0 : Int32) dX7_isItem_159 (by decide) ?_
                  exact hk53 (0 : Int32)
                · refine j_iconst C (1 : Int32) dX7_isItem_155 (by decide) ?_
                  refine j_goto C 160 dX7_isItem_156 (by decide) ?_
                  exact hk53 (1 : Int32)
              refine j_if_eq C 143 dX7_isItem_133 (by decide) (fun c55 => ?_) (fun c55 => ?_)
              · refine j_iconst C (-1 : Int32) dX7_isItem_143 (by decide) ?_
                refine J.sub (lv' := [(0, .ref a0), (1, .int x3), (2, .int w6), (4, .int i11)]) [0, 1, 2, 4] rfl ?_
                exact hk48 (-1 : Int32) h44
              · refine j_aload_n C dX7_isItem_136 0 rfl rfl ?_
                refine j_cI (st := [.int i11, .ref a45]) (fun x e => ⟨runsV C wml_X7_86 wce_X7_number (c_X7_number (bL B) (bD B) _ _ x e).1 rfl rfl rfl rfl rfl dX7_isItem_137, (c_X7_number (bL B) (bD B) _ _ x e).2⟩) (fun x56 h57 => ?_)
                refine j_goto C 144 dX7_isItem_140 (by decide) ?_
                refine J.sub (lv' := [(0, .ref a0), (1, .int x3), (2, .int w6), (4, .int i11)]) [0, 1, 2, 4] rfl ?_
                exact hk48 x56 h57
            refine j_if_ne C 121 dX7_isItem_114 (by decide) (fun c58 => ?_) (fun c58 => ?_)
            · refine j_iconst C (1 : Int32) dX7_isItem_121 (by decide) ?_
              refine J.sub (lv' := [(0, .ref a0), (1, .int x3), (2, .int w6), (3, .int w39), (4, .int i11)]) [1, 2, 3, 0, 4] rfl ?_
              exact hk43 (1 : Int32)
            · refine j_iconst C (0 : Int32) dX7_isItem_117 (by decide) ?_
              refine j_goto C 122 dX7_isItem_118 (by decide) ?_
              refine J.sub (lv' := [(0, .ref a0), (1, .int x3), (2, .int w6), (3, .int w39), (4, .int i11)]) [1, 2, 3, 0, 4] rfl ?_
              exact hk43 (0 : Int32)
          refine J.jn0 (h0 := h12) (lv0 := [(0, .ref a0), (1, .int x3), (2, .int w6), (4, .int i11)]) (st0 := []) 101 ?_ (fun k59 hk59 => ?_)
          · refine j_iconst C (1 : Int32) dX7_isItem_101 (by decide) ?_
            refine j_goto C 106 dX7_isItem_102 (by decide) ?_
            exact hk40 (1 : Int32)
          refine j_if_eq C 101 dX7_isItem_73 (by decide) (fun c60 => ?_) (fun c60 => ?_)
          · refine J.sub (lv' := [(0, .ref a0), (1, .int x3), (2, .int w6), (4, .int i11)]) [0, 1, 2, 4] rfl ?_
            exact hk59
          · refine j_aload_n C dX7_isItem_76 0 rfl rfl ?_
            refine j_getI C wfl_X7_77 dX7_isItem_77 (fun x61 => ?_)
            refine j_aload_n C dX7_isItem_80 0 rfl rfl ?_
            refine j_getI C wfl_X7_73 dX7_isItem_81 (fun x62 => ?_)
            refine J.jn0 (h0 := h12) (lv0 := [(0, .ref a0), (1, .int x3), (2, .int w6), (4, .int i11)]) (st0 := []) 105 ?_ (fun k63 hk63 => ?_)
            · refine j_iconst C (0 : Int32) dX7_isItem_105 (by decide) ?_
              exact hk40 (0 : Int32)
            refine j_icmp_ge C 105 dX7_isItem_84 (by decide) (fun c64 => ?_) (fun c64 => ?_)
            · refine J.sub (lv' := [(0, .ref a0), (1, .int x3), (2, .int w6), (4, .int i11)]) [0, 1, 2, 4] rfl ?_
              exact hk63
            · refine j_aload_n C dX7_isItem_87 0 rfl rfl ?_
              refine j_getR C wfl_X7_7 dX7_isItem_88 (fun a65 => ?_)
              refine j_aload_n C dX7_isItem_91 0 rfl rfl ?_
              refine j_getI C wfl_X7_77 dX7_isItem_92 (fun x66 => ?_)
              refine j_baload C dX7_isItem_95 (fun x67 => ?_)
              refine j_bipush C (44 : Int32) dX7_isItem_96 (by decide) ?_
              refine j_icmp_ne C 105 dX7_isItem_98 (by decide) (fun c68 => ?_) (fun c68 => ?_)
              · refine J.sub (lv' := [(0, .ref a0), (1, .int x3), (2, .int w6), (4, .int i11)]) [0, 1, 2, 4] rfl ?_
                exact hk63
              · refine J.sub (lv' := [(0, .ref a0), (1, .int x3), (2, .int w6), (4, .int i11)]) [0, 1, 2, 4] rfl ?_
                exact hk59
    refine j_if_le C 56 dX7_isItem_49 (by decide) (fun c69 => ?_) (fun c69 => ?_)
    · refine j_iconst C (0 : Int32) dX7_isItem_56 (by decide) ?_
      refine J.sub (lv' := [(0, .ref a0), (1, .int x3), (2, .int w6)]) [1, 2, 0] rfl ?_
      exact hk9 (0 : Int32)
    · refine j_iconst C (1 : Int32) dX7_isItem_52 (by decide) ?_
      refine j_goto C 57 dX7_isItem_53 (by decide) ?_
      refine J.sub (lv' := [(0, .ref a0), (1, .int x3), (2, .int w6)]) [1, 2, 0] rfl ?_
      exact hk9 (1 : Int32)
  refine j_icmp_ne C 30 dX7_isItem_23 (by decide) (fun c70 => ?_) (fun c70 => ?_)
  · refine j_iload_n C dX7_isItem_30 0 rfl rfl ?_
    refine j_bipush C (108 : Int32) dX7_isItem_31 (by decide) ?_
    refine J.jn0 (h0 := h5) (lv0 := [(0, .ref a0), (1, .int x3)]) (st0 := []) 42 ?_ (fun k71 hk71 => ?_)
    · refine j_iconst C (1 : Int32) dX7_isItem_42 (by decide) ?_
      refine j_goto C 47 dX7_isItem_43 (by decide) ?_
      exact hk7 (1 : Int32)
    refine j_icmp_eq C 42 dX7_isItem_33 (by decide) (fun c72 => ?_) (fun c72 => ?_)
    · refine J.sub (lv' := [(0, .ref a0), (1, .int x3)]) [1, 0] rfl ?_
      exact hk71
    · refine j_iload_n C dX7_isItem_36 0 rfl rfl ?_
      refine j_bipush C (99 : Int32) dX7_isItem_37 (by decide) ?_
      refine j_icmp_ne C 46 dX7_isItem_39 (by decide) (fun c73 => ?_) (fun c73 => ?_)
      · refine j_iconst C (0 : Int32) dX7_isItem_46 (by decide) ?_
        refine J.sub (lv' := [(0, .ref a0), (1, .int x3)]) [1, 0] rfl ?_
        exact hk7 (0 : Int32)
      · refine J.sub (lv' := [(0, .ref a0), (1, .int x3)]) [1, 0] rfl ?_
        exact hk71
  · refine j_iconst C (4 : Int32) dX7_isItem_26 (by decide) ?_
    refine j_goto C 47 dX7_isItem_27 (by decide) ?_
    refine J.sub (lv' := [(0, .ref a0), (1, .int x3)]) [1, 0] rfl ?_
    exact hk7 (4 : Int32)
def f_X7_fault (a0 : Nat) (h : Hp) : Option (Int32 × Hp) :=
  bnd (gO h a0 7) fun _ => bnd (pF h a0 7 2 (.int (0 : Int32))) fun h1 => bnd (f_X7_begins a0 h1) fun h2 => wl1 (fun r4 (h3 : Hp) => bnd (gI h3 a0 7 2) fun x5 => bnd (gI h3 a0 7 0) fun x6 => if x6 ≤ x5 then (some ((-4 : Int32), h3)) else (bnd (gI h3 a0 7 2) fun x8 => bnd2 (f_X7_isItem a0 h3) fun x9 h10 => if x9 = 0 then (some (x8, h10)) else (r4 h10))) fuel h2
set_option maxHeartbeats 4000000 in
set_option maxRecDepth 100000 in
theorem c_X7_fault (l : Launch) (D : hD) (a0 : Nat) (h : Hp) (x : (Int32 × Hp)) (e : f_X7_fault a0 h = some x) : (∃ fs, gO h a0 7 = some fs) ∧ Ct l D yX7_fault cX7_fault 2 (some .int) 3 72 [.ref a0] h (some (.int x.1)) x.2 := by
  obtain ⟨fs, g1, g2⟩ := bnd_some e
  refine ⟨⟨fs, g1⟩, ?_⟩
  refine ct_of (out := oI) g2 (by decide +kernel) rfl (fun B C hin hl hd => ?_)
  subst hl; subst hd
  show J B _ _ h 0 [(0, .ref a0)] []
  refine j_aload_n C dX7_fault_0 0 rfl rfl ?_
  refine j_iconst C (0 : Int32) dX7_fault_1 (by decide) ?_
  refine j_put C wfp_X7_77 dX7_fault_2 ⟨_, rfl⟩ (fun h1 => ?_)
  refine j_aload_n C dX7_fault_5 0 rfl rfl ?_
  refine j_cV (st := []) (fun x e => ⟨runsV C wml_X7_61 wce_X7_begins (c_X7_begins (bL B) (bD B) _ _ x e).1 rfl rfl rfl rfl rfl dX7_fault_6, (c_X7_begins (bL B) (bD B) _ _ x e).2⟩) (fun h2 => ?_)
  refine J.wl1 9 (fun (h3 : Hp) => h3) (fun (h3 : Hp) => [(0, .ref a0)]) (fun (h3 : Hp) => []) (fun r4 hr4 h3 => ?_) fuel h2
  refine j_aload_n C dX7_fault_9 0 rfl rfl ?_
  refine j_getI C wfl_X7_77 dX7_fault_10 (fun x5 => ?_)
  refine j_aload_n C dX7_fault_13 0 rfl rfl ?_
  refine j_getI C wfl_X7_73 dX7_fault_14 (fun x6 => ?_)
  refine j_icmp_ge C 37 dX7_fault_17 (by decide) (fun c7 => ?_) (fun c7 => ?_)
  · refine j_bipush C (-4 : Int32) dX7_fault_37 (by decide) ?_
    exact j_iret C dX7_fault_39
  · refine j_aload_n C dX7_fault_20 0 rfl rfl ?_
    refine j_getI C wfl_X7_77 dX7_fault_21 (fun x8 => ?_)
    refine j_istore_n (lv' := [(1, .int x8), (0, .ref a0)]) C dX7_fault_24 rfl rfl rfl ?_
    refine j_aload_n C dX7_fault_25 1 rfl rfl ?_
    refine j_cI (st := []) (fun x e => ⟨runsV C wml_X7_107 wce_X7_isItem (c_X7_isItem (bL B) (bD B) _ _ x e).1 rfl rfl rfl rfl rfl dX7_fault_26, (c_X7_isItem (bL B) (bD B) _ _ x e).2⟩) (fun x9 h10 => ?_)
    refine j_if_ne C 34 dX7_fault_29 (by decide) (fun c11 => ?_) (fun c11 => ?_)
    · refine j_goto C 9 dX7_fault_34 (by decide) ?_
      refine J.sub (lv' := [(0, .ref a0)]) [1] rfl ?_
      exact hr4 h10
    · refine j_iload_n C dX7_fault_32 0 rfl rfl ?_
      exact j_iret C dX7_fault_33
def f_X7_isWaiting (a0 : Nat) (p1 : Int32) (h : Hp) : Option Int32 :=
  bnd (gO h a0 7) fun _ => bnd (f_X7_of a0 p1 (4 : Int32) h) fun x1 => jn1 (fun (w2 : Int32) => rZp w2) fun k3 => if x1 = 0 then (k3 (1 : Int32)) else (k3 (0 : Int32))
set_option maxHeartbeats 4000000 in
set_option maxRecDepth 100000 in
theorem c_X7_isWaiting (l : Launch) (D : hD) (a0 : Nat) (p1 : Int32) (h : Hp) (x : Int32) (e : f_X7_isWaiting a0 p1 h = some x) : (∃ fs, gO h a0 7 = some fs) ∧ Ct l D yX7_isWaiting cX7_isWaiting 2 (some .boolean) 1 22 [.ref a0, .int p1] h (some (.int x)) h := by
  obtain ⟨fs, g1, g2⟩ := bnd_some e
  refine ⟨⟨fs, g1⟩, ?_⟩
  refine ct_of (out := (oIp h)) g2 (by decide +kernel) rfl (fun B C hin hl hd => ?_)
  subst hl; subst hd
  show J B _ _ h 0 [(0, .ref a0), (1, .int p1)] []
  refine j_aload_n C dX7_isWaiting_0 0 rfl rfl ?_
  refine j_iload_n C dX7_isWaiting_1 1 rfl rfl ?_
  refine j_iconst C (4 : Int32) dX7_isWaiting_2 (by decide) ?_
  refine j_cIp (st := []) (fun x e => ⟨runsV C wml_X7_114 wce_X7_of (c_X7_of (bL B) (bD B) _ _ _ _ x e).1 rfl rfl rfl rfl rfl dX7_isWaiting_3, (c_X7_of (bL B) (bD B) _ _ _ _ x e).2⟩) (fun x1 => ?_)
  refine J.jn1 14 (fun (w2 : Int32) => h) (fun (w2 : Int32) => []) (fun (w2 : Int32) => [.int w2]) (fun w2 => ?_) (fun k3 hk3 => ?_)
  · exact j_zretp C dX7_isWaiting_14
  refine j_if_ne C 13 dX7_isWaiting_6 (by decide) (fun c4 => ?_) (fun c4 => ?_)
  · refine j_iconst C (0 : Int32) dX7_isWaiting_13 (by decide) ?_
    refine J.sub (lv' := []) [] rfl ?_
    exact hk3 (0 : Int32)
  · refine j_iconst C (1 : Int32) dX7_isWaiting_9 (by decide) ?_
    refine j_goto C 14 dX7_isWaiting_10 (by decide) ?_
    refine J.sub (lv' := []) [] rfl ?_
    exact hk3 (1 : Int32)
def f_X7_hasMany (a0 : Nat) (p1 : Int32) (h : Hp) : Option Int32 :=
  bnd (gO h a0 7) fun _ => wl2 (fun r3 (i1 : Int32) (i2 : Int32) => bnd (gR h a0 7 6) fun a4 => bnd (ldI 0 h a4 (50 : Int32)) fun x5 => if x5 ≤ i2 then (some i1) else (bnd (f_X7_isWaiting a0 i2 h) fun x7 => jn1 (fun (w8 : Int32) => nm (i1 + w8) fun v10 => r3 v10 (i2 + (1 : Int32))) fun k9 => jn0 (k9 (0 : Int32)) fun k11 => if x7 = 0 then k11 else (bnd (f_X7_of a0 i2 (2 : Int32) h) fun x13 => if x13 = p1 then (k9 (1 : Int32)) else k11))) fuel (0 : Int32) (0 : Int32)
set_option maxHeartbeats 4000000 in
set_option maxRecDepth 100000 in
theorem c_X7_hasMany (l : Launch) (D : hD) (a0 : Nat) (p1 : Int32) (h : Hp) (x : Int32) (e : f_X7_hasMany a0 p1 h = some x) : (∃ fs, gO h a0 7 = some fs) ∧ Ct l D yX7_hasMany cX7_hasMany 4 (some .int) 2 43 [.ref a0, .int p1] h (some (.int x)) h := by
  obtain ⟨fs, g1, g2⟩ := bnd_some e
  refine ⟨⟨fs, g1⟩, ?_⟩
  refine ct_of (out := (oIp h)) g2 (by decide +kernel) rfl (fun B C hin hl hd => ?_)
  subst hl; subst hd
  show J B _ _ h 0 [(0, .ref a0), (1, .int p1)] []
  refine j_iconst C (0 : Int32) dX7_hasMany_0 (by decide) ?_
  refine j_istore_n (lv' := [(2, .int (0 : Int32)), (0, .ref a0), (1, .int p1)]) C dX7_hasMany_1 rfl rfl rfl ?_
  refine j_iconst C (0 : Int32) dX7_hasMany_2 (by decide) ?_
  refine j_istore_n (lv' := [(3, .int (0 : Int32)), (2, .int (0 : Int32)), (0, .ref a0), (1, .int p1)]) C dX7_hasMany_3 rfl rfl rfl ?_
  refine J.sub (lv' := [(0, .ref a0), (1, .int p1), (2, .int (0 : Int32)), (3, .int (0 : Int32))]) [2, 3, 1, 0] rfl ?_
  refine J.wl2 4 (fun (i1 : Int32) (i2 : Int32) => h) (fun (i1 : Int32) (i2 : Int32) => [(0, .ref a0), (1, .int p1), (2, .int i1), (3, .int i2)]) (fun (i1 : Int32) (i2 : Int32) => []) (fun r3 hr3 i1 i2 => ?_) fuel (0 : Int32) (0 : Int32)
  refine j_iload_n C dX7_hasMany_4 3 rfl rfl ?_
  refine j_aload_n C dX7_hasMany_5 0 rfl rfl ?_
  refine j_getR C wfl_X7_23 dX7_hasMany_6 (fun a4 => ?_)
  refine j_bipush C (50 : Int32) dX7_hasMany_9 (by decide) ?_
  refine j_iaload C dX7_hasMany_11 (fun x5 => ?_)
  refine j_icmp_ge C 47 dX7_hasMany_12 (by decide) (fun c6 => ?_) (fun c6 => ?_)
  · refine j_iload_n C dX7_hasMany_47 2 rfl rfl ?_
    exact j_iretp C dX7_hasMany_48
  · refine j_iload_n C dX7_hasMany_15 2 rfl rfl ?_
    refine j_aload_n C dX7_hasMany_16 0 rfl rfl ?_
    refine j_iload_n C dX7_hasMany_17 3 rfl rfl ?_
    refine j_cIp (st := [.int i1]) (fun x e => ⟨runsV C wml_X7_125 wce_X7_isWaiting (c_X7_isWaiting (bL B) (bD B) _ _ _ x e).1 rfl rfl rfl rfl rfl dX7_hasMany_18, (c_X7_isWaiting (bL B) (bD B) _ _ _ x e).2⟩) (fun x7 => ?_)
    refine J.jn1 39 (fun (w8 : Int32) => h) (fun (w8 : Int32) => [(0, .ref a0), (1, .int p1), (3, .int i2)]) (fun (w8 : Int32) => [.int w8, .int i1]) (fun w8 => ?_) (fun k9 hk9 => ?_)
    · refine j_iadd C dX7_hasMany_39 ?_
      refine j_nmI (fun v10 => ?_)
      refine j_istore_n (lv' := [(2, .int v10), (0, .ref a0), (1, .int p1), (3, .int i2)]) C dX7_hasMany_40 rfl rfl rfl ?_
      refine j_iinc (lv' := [(3, .int (i2 + (1 : Int32))), (2, .int v10), (0, .ref a0), (1, .int p1)]) C (1 : Int32) dX7_hasMany_41 3 rfl (by decide) rfl rfl ?_
      refine j_goto C 4 dX7_hasMany_44 (by decide) ?_
      refine J.sub (lv' := [(0, .ref a0), (1, .int p1), (2, .int v10), (3, .int (i2 + (1 : Int32)))]) [2, 3, 1, 0] rfl ?_
      exact hr3 v10 (i2 + (1 : Int32))
    refine J.jn0 (h0 := h) (lv0 := [(0, .ref a0), (1, .int p1), (3, .int i2)]) (st0 := [.int i1]) 38 ?_ (fun k11 hk11 => ?_)
    · refine j_iconst C (0 : Int32) dX7_hasMany_38 (by decide) ?_
      exact hk9 (0 : Int32)
    refine j_if_eq C 38 dX7_hasMany_21 (by decide) (fun c12 => ?_) (fun c12 => ?_)
    · refine J.sub (lv' := [(0, .ref a0), (1, .int p1), (3, .int i2)]) [0, 1, 3] rfl ?_
      exact hk11
    · refine j_aload_n C dX7_hasMany_24 0 rfl rfl ?_
      refine j_iload_n C dX7_hasMany_25 3 rfl rfl ?_
      refine j_iconst C (2 : Int32) dX7_hasMany_26 (by decide) ?_
      refine j_cIp (st := [.int i1]) (fun x e => ⟨runsV C wml_X7_114 wce_X7_of (c_X7_of (bL B) (bD B) _ _ _ _ x e).1 rfl rfl rfl rfl rfl dX7_hasMany_27, (c_X7_of (bL B) (bD B) _ _ _ _ x e).2⟩) (fun x13 => ?_)
      refine j_iload_n C dX7_hasMany_30 1 rfl rfl ?_
      refine j_icmp_ne C 38 dX7_hasMany_31 (by decide) (fun c14 => ?_) (fun c14 => ?_)
      · refine J.sub (lv' := [(0, .ref a0), (1, .int p1), (3, .int i2)]) [0, 1, 3] rfl ?_
        exact hk11
      · refine j_iconst C (1 : Int32) dX7_hasMany_34 (by decide) ?_
        refine j_goto C 39 dX7_hasMany_35 (by decide) ?_
        refine J.sub (lv' := [(0, .ref a0), (1, .int p1), (3, .int i2)]) [0, 1, 3] rfl ?_
        exact hk9 (1 : Int32)
def f_X7_isKind (p1 : Int32) : Option Int32 :=
  bnd (f_X7_in p1.toInt64 (0 : Int64) (4 : Int64)) fun x1 => rZp x1
set_option maxHeartbeats 4000000 in
set_option maxRecDepth 100000 in
theorem c_X7_isKind (l : Launch) (D : hD) (p1 : Int32) (h : Hp) (x : Int32) (e : f_X7_isKind p1 = some x) : Ct l D yX7_isKind cX7_isKind 1 (some .boolean) 1 25 [.int p1] h (some (.int x)) h := by
  unfold f_X7_isKind at e
  refine ct_of (out := (oIp h)) e (by decide +kernel) rfl (fun B C hin hl hd => ?_)
  subst hl; subst hd
  show J B _ _ h 0 [(0, .int p1)] []
  refine j_iload_n C dX7_isKind_0 0 rfl rfl ?_
  refine j_i2l C dX7_isKind_1 ?_
  refine j_lconst C (0 : Int64) dX7_isKind_2 (by decide) ?_
  refine j_ldc2_w C dX7_isKind_3 wcl_X7_94 ?_
  refine j_cIp (st := []) (fun x e => ⟨runsS C wml_X7_69 wce_X7_in rfl rfl rfl rfl rfl dX7_isKind_6, c_X7_in (bL B) (bD B) _ _ _ _ x e⟩) (fun x1 => ?_)
  exact j_zretp C dX7_isKind_9
def f_X7_counted (a0 : Nat) (p1 : Int32) (h : Hp) : Option Hp :=
  bnd (gO h a0 7) fun _ => wl3 (fun r4 (i1 : Int32) (i2 : Int32) (h3 : Hp) => if (5 : Int32) ≤ i2 then (some h3) else (bnd (gR h3 a0 7 16) fun a6 => bnd (gR h3 a0 7 17) fun a7 => bnd (ldI 0 h3 a7 i2) fun x8 => if (x8 + (1 : Int32)) = 0 then none else bnd (stI 0 h3 a6 i2 (i1 - i1 / (x8 + (1 : Int32)) * (x8 + (1 : Int32)))) fun h9 => bnd (gR h9 a0 7 17) fun a10 => bnd (ldI 0 h9 a10 i2) fun x11 => if (x11 + (1 : Int32)) = 0 then none else nm (i1 / (x11 + (1 : Int32))) fun v12 => r4 v12 (i2 + (1 : Int32)) h9)) fuel p1 (0 : Int32) h
set_option maxHeartbeats 4000000 in
set_option maxRecDepth 100000 in
theorem c_X7_counted (l : Launch) (D : hD) (a0 : Nat) (p1 : Int32) (h : Hp) (x : Hp) (e : f_X7_counted a0 p1 h = some x) : (∃ fs, gO h a0 7 = some fs) ∧ Ct l D yX7_counted cX7_counted 4 none 0 0 [.ref a0, .int p1] h none x := by
  obtain ⟨fs, g1, g2⟩ := bnd_some e
  refine ⟨⟨fs, g1⟩, ?_⟩
  refine ct_of (out := oV) g2 (by decide +kernel) rfl (fun B C hin hl hd => ?_)
  subst hl; subst hd
  show J B _ _ h 0 [(0, .ref a0), (1, .int p1)] []
  refine j_iload_n C dX7_counted_0 1 rfl rfl ?_
  refine j_istore_n (lv' := [(2, .int p1), (0, .ref a0), (1, .int p1)]) C dX7_counted_1 rfl rfl rfl ?_
  refine j_iconst C (0 : Int32) dX7_counted_2 (by decide) ?_
  refine j_istore_n (lv' := [(3, .int (0 : Int32)), (2, .int p1), (0, .ref a0), (1, .int p1)]) C dX7_counted_3 rfl rfl rfl ?_
  refine J.sub (lv' := [(0, .ref a0), (2, .int p1), (3, .int (0 : Int32))]) [2, 1, 0] rfl ?_
  refine J.wl3 4 (fun (i1 : Int32) (i2 : Int32) (h3 : Hp) => h3) (fun (i1 : Int32) (i2 : Int32) (h3 : Hp) => [(0, .ref a0), (2, .int i1), (3, .int i2)]) (fun (i1 : Int32) (i2 : Int32) (h3 : Hp) => []) (fun r4 hr4 i1 i2 h3 => ?_) fuel p1 (0 : Int32) h
  refine j_iload_n C dX7_counted_4 2 rfl rfl ?_
  refine j_iconst C (5 : Int32) dX7_counted_5 (by decide) ?_
  refine j_icmp_ge C 42 dX7_counted_6 (by decide) (fun c5 => ?_) (fun c5 => ?_)
  · exact j_vret C dX7_counted_42
  · refine j_aload_n C dX7_counted_9 0 rfl rfl ?_
    refine j_getR C wfl_X7_42 dX7_counted_10 (fun a6 => ?_)
    refine j_iload_n C dX7_counted_13 2 rfl rfl ?_
    refine j_iload_n C dX7_counted_14 1 rfl rfl ?_
    refine j_aload_n C dX7_counted_15 0 rfl rfl ?_
    refine j_getR C wfl_X7_45 dX7_counted_16 (fun a7 => ?_)
    refine j_iload_n C dX7_counted_19 2 rfl rfl ?_
    refine j_iaload C dX7_counted_20 (fun x8 => ?_)
    refine j_iconst C (1 : Int32) dX7_counted_21 (by decide) ?_
    refine j_iadd C dX7_counted_22 ?_
    refine j_irem C dX7_counted_23 ?_
    refine j_iastore C dX7_counted_24 (fun h9 => ?_)
    refine j_iload_n C dX7_counted_25 1 rfl rfl ?_
    refine j_aload_n C dX7_counted_26 0 rfl rfl ?_
    refine j_getR C wfl_X7_45 dX7_counted_27 (fun a10 => ?_)
    refine j_iload_n C dX7_counted_30 2 rfl rfl ?_
    refine j_iaload C dX7_counted_31 (fun x11 => ?_)
    refine j_iconst C (1 : Int32) dX7_counted_32 (by decide) ?_
    refine j_iadd C dX7_counted_33 ?_
    refine j_idiv C dX7_counted_34 ?_
    refine j_nmI (fun v12 => ?_)
    refine j_istore_n (lv' := [(2, .int v12), (0, .ref a0), (3, .int i2)]) C dX7_counted_35 rfl rfl rfl ?_
    refine j_iinc (lv' := [(3, .int (i2 + (1 : Int32))), (2, .int v12), (0, .ref a0)]) C (1 : Int32) dX7_counted_36 2 rfl (by decide) rfl rfl ?_
    refine j_goto C 4 dX7_counted_39 (by decide) ?_
    refine J.sub (lv' := [(0, .ref a0), (2, .int v12), (3, .int (i2 + (1 : Int32)))]) [2, 1, 0] rfl ?_
    exact hr4 v12 (i2 + (1 : Int32)) h9
def f_X7_isMixed (a0 : Nat) (p1 : Int32) (p2 : Int32) (p3 : Int32) (h : Hp) : Option Int32 :=
  bnd (gO h a0 7) fun _ => jn1 (fun (w1 : Int32) => rZp w1) fun k2 => jn0 (k2 (0 : Int32)) fun k3 => if p1 = p2 then k3 else (bnd (gR h a0 7 3) fun a5 => bnd (ldI 0 h a5 (0 : Int32)) fun x6 => jn0 (k2 (1 : Int32)) fun k7 => if x6 = 0 then k7 else (if p1 = p3 then k3 else k7))
set_option maxHeartbeats 4000000 in
set_option maxRecDepth 100000 in
theorem c_X7_isMixed (l : Launch) (D : hD) (a0 : Nat) (p1 : Int32) (p2 : Int32) (p3 : Int32) (h : Hp) (x : Int32) (e : f_X7_isMixed a0 p1 p2 p3 h = some x) : (∃ fs, gO h a0 7 = some fs) ∧ Ct l D yX7_isMixed cX7_isMixed 4 (some .boolean) 0 0 [.ref a0, .int p1, .int p2, .int p3] h (some (.int x)) h := by
  obtain ⟨fs, g1, g2⟩ := bnd_some e
  refine ⟨⟨fs, g1⟩, ?_⟩
  refine ct_of (out := (oIp h)) g2 (by decide +kernel) rfl (fun B C hin hl hd => ?_)
  subst hl; subst hd
  show J B _ _ h 0 [(0, .ref a0), (1, .int p1), (2, .int p2), (3, .int p3)] []
  refine j_iload_n C dX7_isMixed_0 1 rfl rfl ?_
  refine j_iload_n C dX7_isMixed_1 2 rfl rfl ?_
  refine J.jn1 24 (fun (w1 : Int32) => h) (fun (w1 : Int32) => []) (fun (w1 : Int32) => [.int w1]) (fun w1 => ?_) (fun k2 hk2 => ?_)
  · exact j_zretp C dX7_isMixed_24
  refine J.jn0 (h0 := h) (lv0 := []) (st0 := []) 23 ?_ (fun k3 hk3 => ?_)
  · refine j_iconst C (0 : Int32) dX7_isMixed_23 (by decide) ?_
    exact hk2 (0 : Int32)
  refine j_icmp_eq C 23 dX7_isMixed_2 (by decide) (fun c4 => ?_) (fun c4 => ?_)
  · refine J.sub (lv' := []) [] rfl ?_
    exact hk3
  · refine j_aload_n C dX7_isMixed_5 0 rfl rfl ?_
    refine j_getR C wfl_X7_13 dX7_isMixed_6 (fun a5 => ?_)
    refine j_iconst C (0 : Int32) dX7_isMixed_9 (by decide) ?_
    refine j_iaload C dX7_isMixed_10 (fun x6 => ?_)
    refine J.jn0 (h0 := h) (lv0 := []) (st0 := []) 19 ?_ (fun k7 hk7 => ?_)
    · refine j_iconst C (1 : Int32) dX7_isMixed_19 (by decide) ?_
      refine j_goto C 24 dX7_isMixed_20 (by decide) ?_
      exact hk2 (1 : Int32)
    refine j_if_eq C 19 dX7_isMixed_11 (by decide) (fun c8 => ?_) (fun c8 => ?_)
    · refine J.sub (lv' := []) [] rfl ?_
      exact hk7
    · refine j_iload_n C dX7_isMixed_14 1 rfl rfl ?_
      refine j_iload_n C dX7_isMixed_15 3 rfl rfl ?_
      refine j_icmp_eq C 23 dX7_isMixed_16 (by decide) (fun c9 => ?_) (fun c9 => ?_)
      · refine J.sub (lv' := []) [] rfl ?_
        exact hk3
      · refine J.sub (lv' := []) [] rfl ?_
        exact hk7
def f_X7_size (a0 : Nat) (h : Hp) : Option Int32 :=
  bnd (gO h a0 7) fun _ => wl2 (fun r3 (i1 : Int32) (i2 : Int32) => if (5 : Int32) ≤ i2 then (some i1) else (bnd (gR h a0 7 17) fun a5 => bnd (ldI 0 h a5 i2) fun x6 => nm (i1 * (x6 + (1 : Int32))) fun v7 => r3 v7 (i2 + (1 : Int32)))) fuel (1 : Int32) (0 : Int32)
set_option maxHeartbeats 4000000 in
set_option maxRecDepth 100000 in
theorem c_X7_size (l : Launch) (D : hD) (a0 : Nat) (h : Hp) (x : Int32) (e : f_X7_size a0 h = some x) : (∃ fs, gO h a0 7 = some fs) ∧ Ct l D yX7_size cX7_size 3 (some .int) 0 0 [.ref a0] h (some (.int x)) h := by
  obtain ⟨fs, g1, g2⟩ := bnd_some e
  refine ⟨⟨fs, g1⟩, ?_⟩
  refine ct_of (out := (oIp h)) g2 (by decide +kernel) rfl (fun B C hin hl hd => ?_)
  subst hl; subst hd
  show J B _ _ h 0 [(0, .ref a0)] []
  refine j_iconst C (1 : Int32) dX7_size_0 (by decide) ?_
  refine j_istore_n (lv' := [(1, .int (1 : Int32)), (0, .ref a0)]) C dX7_size_1 rfl rfl rfl ?_
  refine j_iconst C (0 : Int32) dX7_size_2 (by decide) ?_
  refine j_istore_n (lv' := [(2, .int (0 : Int32)), (1, .int (1 : Int32)), (0, .ref a0)]) C dX7_size_3 rfl rfl rfl ?_
  refine J.sub (lv' := [(0, .ref a0), (1, .int (1 : Int32)), (2, .int (0 : Int32))]) [2, 1, 0] rfl ?_
  refine J.wl2 4 (fun (i1 : Int32) (i2 : Int32) => h) (fun (i1 : Int32) (i2 : Int32) => [(0, .ref a0), (1, .int i1), (2, .int i2)]) (fun (i1 : Int32) (i2 : Int32) => []) (fun r3 hr3 i1 i2 => ?_) fuel (1 : Int32) (0 : Int32)
  refine j_iload_n C dX7_size_4 2 rfl rfl ?_
  refine j_iconst C (5 : Int32) dX7_size_5 (by decide) ?_
  refine j_icmp_ge C 26 dX7_size_6 (by decide) (fun c4 => ?_) (fun c4 => ?_)
  · refine j_iload_n C dX7_size_26 1 rfl rfl ?_
    exact j_iretp C dX7_size_27
  · refine j_iload_n C dX7_size_9 1 rfl rfl ?_
    refine j_aload_n C dX7_size_10 0 rfl rfl ?_
    refine j_getR C wfl_X7_45 dX7_size_11 (fun a5 => ?_)
    refine j_iload_n C dX7_size_14 2 rfl rfl ?_
    refine j_iaload C dX7_size_15 (fun x6 => ?_)
    refine j_iconst C (1 : Int32) dX7_size_16 (by decide) ?_
    refine j_iadd C dX7_size_17 ?_
    refine j_imul C dX7_size_18 ?_
    refine j_nmI (fun v7 => ?_)
    refine j_istore_n (lv' := [(1, .int v7), (0, .ref a0), (2, .int i2)]) C dX7_size_19 rfl rfl rfl ?_
    refine j_iinc (lv' := [(2, .int (i2 + (1 : Int32))), (1, .int v7), (0, .ref a0)]) C (1 : Int32) dX7_size_20 2 rfl (by decide) rfl rfl ?_
    refine j_goto C 4 dX7_size_23 (by decide) ?_
    refine J.sub (lv' := [(0, .ref a0), (1, .int v7), (2, .int (i2 + (1 : Int32)))]) [2, 1, 0] rfl ?_
    exact hr3 v7 (i2 + (1 : Int32))
def f_X7_step (a0 : Nat) (p1 : Int32) (h : Hp) : Option Int32 :=
  bnd (gO h a0 7) fun _ => wl2 (fun r3 (i1 : Int32) (i2 : Int32) => if p1 ≤ i2 then (some i1) else (bnd (gR h a0 7 17) fun a5 => bnd (ldI 0 h a5 i2) fun x6 => nm (i1 * (x6 + (1 : Int32))) fun v7 => r3 v7 (i2 + (1 : Int32)))) fuel (1 : Int32) (0 : Int32)
set_option maxHeartbeats 4000000 in
set_option maxRecDepth 100000 in
theorem c_X7_step (l : Launch) (D : hD) (a0 : Nat) (p1 : Int32) (h : Hp) (x : Int32) (e : f_X7_step a0 p1 h = some x) : (∃ fs, gO h a0 7 = some fs) ∧ Ct l D yX7_step cX7_step 4 (some .int) 0 0 [.ref a0, .int p1] h (some (.int x)) h := by
  obtain ⟨fs, g1, g2⟩ := bnd_some e
  refine ⟨⟨fs, g1⟩, ?_⟩
  refine ct_of (out := (oIp h)) g2 (by decide +kernel) rfl (fun B C hin hl hd => ?_)
  subst hl; subst hd
  show J B _ _ h 0 [(0, .ref a0), (1, .int p1)] []
  refine j_iconst C (1 : Int32) dX7_step_0 (by decide) ?_
  refine j_istore_n (lv' := [(2, .int (1 : Int32)), (0, .ref a0), (1, .int p1)]) C dX7_step_1 rfl rfl rfl ?_
  refine j_iconst C (0 : Int32) dX7_step_2 (by decide) ?_
  refine j_istore_n (lv' := [(3, .int (0 : Int32)), (2, .int (1 : Int32)), (0, .ref a0), (1, .int p1)]) C dX7_step_3 rfl rfl rfl ?_
  refine J.sub (lv' := [(0, .ref a0), (1, .int p1), (2, .int (1 : Int32)), (3, .int (0 : Int32))]) [2, 3, 1, 0] rfl ?_
  refine J.wl2 4 (fun (i1 : Int32) (i2 : Int32) => h) (fun (i1 : Int32) (i2 : Int32) => [(0, .ref a0), (1, .int p1), (2, .int i1), (3, .int i2)]) (fun (i1 : Int32) (i2 : Int32) => []) (fun r3 hr3 i1 i2 => ?_) fuel (1 : Int32) (0 : Int32)
  refine j_iload_n C dX7_step_4 3 rfl rfl ?_
  refine j_iload_n C dX7_step_5 1 rfl rfl ?_
  refine j_icmp_ge C 26 dX7_step_6 (by decide) (fun c4 => ?_) (fun c4 => ?_)
  · refine j_iload_n C dX7_step_26 2 rfl rfl ?_
    exact j_iretp C dX7_step_27
  · refine j_iload_n C dX7_step_9 2 rfl rfl ?_
    refine j_aload_n C dX7_step_10 0 rfl rfl ?_
    refine j_getR C wfl_X7_45 dX7_step_11 (fun a5 => ?_)
    refine j_iload_n C dX7_step_14 3 rfl rfl ?_
    refine j_iaload C dX7_step_15 (fun x6 => ?_)
    refine j_iconst C (1 : Int32) dX7_step_16 (by decide) ?_
    refine j_iadd C dX7_step_17 ?_
    refine j_imul C dX7_step_18 ?_
    refine j_nmI (fun v7 => ?_)
    refine j_istore_n (lv' := [(2, .int v7), (0, .ref a0), (1, .int p1), (3, .int i2)]) C dX7_step_19 rfl rfl rfl ?_
    refine j_iinc (lv' := [(3, .int (i2 + (1 : Int32))), (2, .int v7), (0, .ref a0), (1, .int p1)]) C (1 : Int32) dX7_step_20 3 rfl (by decide) rfl rfl ?_
    refine j_goto C 4 dX7_step_23 (by decide) ?_
    refine J.sub (lv' := [(0, .ref a0), (1, .int p1), (2, .int v7), (3, .int (i2 + (1 : Int32)))]) [2, 3, 1, 0] rfl ?_
    exact hr3 v7 (i2 + (1 : Int32))
