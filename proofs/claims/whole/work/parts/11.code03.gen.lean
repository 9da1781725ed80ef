def f_X6_halve (a0 : Nat) (p1 : Int32) (p2 : Int32) (h : Hp) : Option (Int32 × Hp) :=
  bnd (gO h a0 6) fun _ => bnd (gR h a0 6 4) fun a1 => bnd (f_X2_has a1 p1 h) fun x2 => jn0 (some ((-1 : Int32), h)) fun k3 => if x2 = 0 then k3 else (if p2 < (1 : Int32) then k3 else (if p2 < (9 : Int32) then (bnd (gR h a0 6 4) fun a7 => bnd (f_X2_waits a7 p1 h) fun x8 => jn0 (some ((-2 : Int32), h)) fun k9 => if x8 = 0 then k9 else (bnd (gR h a0 6 4) fun a11 => bnd (gR h a11 2 4) fun a12 => bnd (ldI 0 h a12 p1) fun x13 => if p2 < x13 then (bnd (gR h a0 6 4) fun a15 => bnd (gI h a15 2 2) fun x16 => if x16 < (10 : Int32) then (bnd (f_X6_remember a0 h) fun h18 => bnd (gR h18 a0 6 4) fun a19 => bnd (f_X2_part a19 p1 p2 h18) fun h20 => bnd (gR h20 a0 6 4) fun a21 => bnd (gI h20 a21 2 2) fun x22 => some ((x22 - (1 : Int32)), h20)) else (some ((-3 : Int32), h))) else k9)) else k3))
set_option maxHeartbeats 4000000 in
set_option maxRecDepth 100000 in
theorem c_X6_halve (l : Launch) (D : hD) (a0 : Nat) (p1 : Int32) (p2 : Int32) (h : Hp) (x : (Int32 × Hp)) (e : f_X6_halve a0 p1 p2 h = some x) : (∃ fs, gO h a0 6 = some fs) ∧ Ct l D yX6_halve cX6_halve 3 (some .int) 3 69 [.ref a0, .int p1, .int p2] h (some (.int x.1)) x.2 := by
  obtain ⟨fs, g1, g2⟩ := bnd_some e
  refine ⟨⟨fs, g1⟩, ?_⟩
  refine ct_of (out := oI) g2 (by decide +kernel) rfl (fun B C hin hl hd => ?_)
  subst hl; subst hd
  show J B _ _ h 0 [(0, .ref a0), (1, .int p1), (2, .int p2)] []
  refine j_aload_n C dX6_halve_0 0 rfl rfl ?_
  refine j_getR C wfl_X6_27 dX6_halve_1 (fun a1 => ?_)
  refine j_iload_n C dX6_halve_4 1 rfl rfl ?_
  refine j_cIp (st := []) (fun x e => ⟨runsV C wml_X6_97 wce_X2_has (c_X2_has (bL B) (bD B) _ _ _ x e).1 rfl rfl rfl rfl rfl dX6_halve_5, (c_X2_has (bL B) (bD B) _ _ _ x e).2⟩) (fun x2 => ?_)
  refine J.jn0 (h0 := h) (lv0 := []) (st0 := []) 22 ?_ (fun k3 hk3 => ?_)
  · refine j_iconst C (-1 : Int32) dX6_halve_22 (by decide) ?_
    exact j_iret C dX6_halve_23
  refine j_if_eq C 22 dX6_halve_8 (by decide) (fun c4 => ?_) (fun c4 => ?_)
  · refine J.sub (lv' := []) [] rfl ?_
    exact hk3
  · refine j_iload_n C dX6_halve_11 2 rfl rfl ?_
    refine j_iconst C (1 : Int32) dX6_halve_12 (by decide) ?_
    refine j_icmp_lt C 22 dX6_halve_13 (by decide) (fun c5 => ?_) (fun c5 => ?_)
    · refine J.sub (lv' := []) [] rfl ?_
      exact hk3
    · refine j_iload_n C dX6_halve_16 2 rfl rfl ?_
      refine j_bipush C (9 : Int32) dX6_halve_17 (by decide) ?_
      refine j_icmp_lt C 24 dX6_halve_19 (by decide) (fun c6 => ?_) (fun c6 => ?_)
      · refine j_aload_n C dX6_halve_24 0 rfl rfl ?_
        refine j_getR C wfl_X6_27 dX6_halve_25 (fun a7 => ?_)
        refine j_iload_n C dX6_halve_28 1 rfl rfl ?_
        refine j_cIp (st := []) (fun x e => ⟨runsV C wml_X6_116 wce_X2_waits (c_X2_waits (bL B) (bD B) _ _ _ x e).1 rfl rfl rfl rfl rfl dX6_halve_29, (c_X2_waits (bL B) (bD B) _ _ _ x e).2⟩) (fun x8 => ?_)
        refine J.jn0 (h0 := h) (lv0 := []) (st0 := []) 48 ?_ (fun k9 hk9 => ?_)
        · refine j_bipush C (-2 : Int32) dX6_halve_48 (by decide) ?_
          exact j_iret C dX6_halve_50
        refine j_if_eq C 48 dX6_halve_32 (by decide) (fun c10 => ?_) (fun c10 => ?_)
        · refine J.sub (lv' := []) [] rfl ?_
          exact hk9
        · refine j_aload_n C dX6_halve_35 0 rfl rfl ?_
          refine j_getR C wfl_X6_27 dX6_halve_36 (fun a11 => ?_)
          refine j_getR C wfl_X6_104 dX6_halve_39 (fun a12 => ?_)
          refine j_iload_n C dX6_halve_42 1 rfl rfl ?_
          refine j_iaload C dX6_halve_43 (fun x13 => ?_)
          refine j_iload_n C dX6_halve_44 2 rfl rfl ?_
          refine j_icmp_gt C 51 dX6_halve_45 (by decide) (fun c14 => ?_) (fun c14 => ?_)
          · refine j_aload_n C dX6_halve_51 0 rfl rfl ?_
            refine j_getR C wfl_X6_27 dX6_halve_52 (fun a15 => ?_)
            refine j_getI C wfl_X6_81 dX6_halve_55 (fun x16 => ?_)
            refine j_bipush C (10 : Int32) dX6_halve_58 (by decide) ?_
            refine j_icmp_lt C 66 dX6_halve_60 (by decide) (fun c17 => ?_) (fun c17 => ?_)
            · refine j_aload_n C dX6_halve_66 0 rfl rfl ?_
              refine j_cV (st := []) (fun x e => ⟨runsV C wml_X6_122 wce_X6_remember (c_X6_remember (bL B) (bD B) _ _ x e).1 rfl rfl rfl rfl rfl dX6_halve_67, (c_X6_remember (bL B) (bD B) _ _ x e).2⟩) (fun h18 => ?_)
              refine j_aload_n C dX6_halve_70 0 rfl rfl ?_
              refine j_getR C wfl_X6_27 dX6_halve_71 (fun a19 => ?_)
              refine j_iload_n C dX6_halve_74 1 rfl rfl ?_
              refine j_iload_n C dX6_halve_75 2 rfl rfl ?_
              refine j_cV (st := []) (fun x e => ⟨runsV C wml_X6_132 wce_X2_part (c_X2_part (bL B) (bD B) _ _ _ _ x e).1 rfl rfl rfl rfl rfl dX6_halve_76, (c_X2_part (bL B) (bD B) _ _ _ _ x e).2⟩) (fun h20 => ?_)
              refine j_aload_n C dX6_halve_79 0 rfl rfl ?_
              refine j_getR C wfl_X6_27 dX6_halve_80 (fun a21 => ?_)
              refine j_getI C wfl_X6_81 dX6_halve_83 (fun x22 => ?_)
              refine j_iconst C (1 : Int32) dX6_halve_86 (by decide) ?_
              refine j_isub C dX6_halve_87 ?_
              exact j_iret C dX6_halve_88
            · refine j_bipush C (-3 : Int32) dX6_halve_63 (by decide) ?_
              exact j_iret C dX6_halve_65
          · refine J.sub (lv' := []) [] rfl ?_
            exact hk9
      · refine J.sub (lv' := []) [] rfl ?_
        exact hk3
def f_X0_sizesBeside (p1 : Nat) (p2 : Int32) (h : Hp) : Option Int32 :=
  wl2 (fun r3 (i1 : Int32) (i2 : Int32) => if (10 : Int32) ≤ i2 then (some i1) else (bnd (f_X2_waits p1 i2 h) fun x5 => jn1 (fun (z6 : Int32) => r3 z6 (i2 + (1 : Int32))) fun k7 => if x5 = 0 then (k7 i1) else (bnd (gR h p1 2 3) fun a9 => bnd (ldI 0 h a9 i2) fun x10 => if x10 = p2 then (k7 i1) else (bnd (gR h p1 2 4) fun a12 => bnd (ldI 0 h a12 i2) fun x13 => nm (i1 + x13) fun v14 => k7 v14)))) fuel (0 : Int32) (0 : Int32)
set_option maxHeartbeats 4000000 in
set_option maxRecDepth 100000 in
theorem c_X0_sizesBeside (l : Launch) (D : hD) (p1 : Nat) (p2 : Int32) (h : Hp) (x : Int32) (e : f_X0_sizesBeside p1 p2 h = some x) : Ct l D yX0_sizesBeside cX0_sizesBeside 4 (some .int) 2 42 [.ref p1, .int p2] h (some (.int x)) h := by
  unfold f_X0_sizesBeside at e
  refine ct_of (out := (oIp h)) e (by decide +kernel) rfl (fun B C hin hl hd => ?_)
  subst hl; subst hd
  show J B _ _ h 0 [(0, .ref p1), (1, .int p2)] []
  refine j_iconst C (0 : Int32) dX0_sizesBeside_0 (by decide) ?_
  refine j_istore_n (lv' := [(2, .int (0 : Int32)), (0, .ref p1), (1, .int p2)]) C dX0_sizesBeside_1 rfl rfl rfl ?_
  refine j_iconst C (0 : Int32) dX0_sizesBeside_2 (by decide) ?_
  refine j_istore_n (lv' := [(3, .int (0 : Int32)), (2, .int (0 : Int32)), (0, .ref p1), (1, .int p2)]) C dX0_sizesBeside_3 rfl rfl rfl ?_
  refine J.sub (lv' := [(0, .ref p1), (1, .int p2), (2, .int (0 : Int32)), (3, .int (0 : Int32))]) [2, 3, 1, 0] rfl ?_
  refine J.wl2 4 (fun (i1 : Int32) (i2 : Int32) => h) (fun (i1 : Int32) (i2 : Int32) => [(0, .ref p1), (1, .int p2), (2, .int i1), (3, .int i2)]) (fun (i1 : Int32) (i2 : Int32) => []) (fun r3 hr3 i1 i2 => ?_) fuel (0 : Int32) (0 : Int32)
  refine j_iload_n C dX0_sizesBeside_4 3 rfl rfl ?_
  refine j_bipush C (10 : Int32) dX0_sizesBeside_5 (by decide) ?_
  refine j_icmp_ge C 43 dX0_sizesBeside_7 (by decide) (fun c4 => ?_) (fun c4 => ?_)
  · refine j_iload_n C dX0_sizesBeside_43 2 rfl rfl ?_
    exact j_iretp C dX0_sizesBeside_44
  · refine j_aload_n C dX0_sizesBeside_10 0 rfl rfl ?_
    refine j_iload_n C dX0_sizesBeside_11 3 rfl rfl ?_
    refine j_cIp (st := []) (fun x e => ⟨runsV C wml_X0_37 wce_X2_waits (c_X2_waits (bL B) (bD B) _ _ _ x e).1 rfl rfl rfl rfl rfl dX0_sizesBeside_12, (c_X2_waits (bL B) (bD B) _ _ _ x e).2⟩) (fun x5 => ?_)
    refine J.jn1 37 (fun (z6 : Int32) => h) (fun (z6 : Int32) => [(0, .ref p1), (1, .int p2), (2, .int z6), (3, .int i2)]) (fun (z6 : Int32) => []) (fun z6 => ?_) (fun k7 hk7 => ?_)
    · refine j_iinc (lv' := [(3, .int (i2 + (1 : Int32))), (0, .ref p1), (1, .int p2), (2, .int z6)]) C (1 : Int32) dX0_sizesBeside_37 3 rfl (by decide) rfl rfl ?_
      refine j_goto C 4 dX0_sizesBeside_40 (by decide) ?_
      refine J.sub (lv' := [(0, .ref p1), (1, .int p2), (2, .int z6), (3, .int (i2 + (1 : Int32)))]) [1, 2, 3, 0] rfl ?_
      exact hr3 z6 (i2 + (1 : Int32))
    refine j_if_eq C 37 dX0_sizesBeside_15 (by decide) (fun c8 => ?_) (fun c8 => ?_)
    · exact hk7 i1
    · refine j_aload_n C dX0_sizesBeside_18 0 rfl rfl ?_
      refine j_getR C wfl_X0_125 dX0_sizesBeside_19 (fun a9 => ?_)
      refine j_iload_n C dX0_sizesBeside_22 3 rfl rfl ?_
      refine j_iaload C dX0_sizesBeside_23 (fun x10 => ?_)
      refine j_iload_n C dX0_sizesBeside_24 1 rfl rfl ?_
      refine j_icmp_eq C 37 dX0_sizesBeside_25 (by decide) (fun c11 => ?_) (fun c11 => ?_)
      · exact hk7 i1
      · refine j_iload_n C dX0_sizesBeside_28 2 rfl rfl ?_
        refine j_aload_n C dX0_sizesBeside_29 0 rfl rfl ?_
        refine j_getR C wfl_X0_128 dX0_sizesBeside_30 (fun a12 => ?_)
        refine j_iload_n C dX0_sizesBeside_33 3 rfl rfl ?_
        refine j_iaload C dX0_sizesBeside_34 (fun x13 => ?_)
        refine j_iadd C dX0_sizesBeside_35 ?_
        refine j_nmI (fun v14 => ?_)
        refine j_istore_n (lv' := [(2, .int v14), (0, .ref p1), (1, .int p2), (3, .int i2)]) C dX0_sizesBeside_36 rfl rfl rfl ?_
        refine J.sub (lv' := [(0, .ref p1), (1, .int p2), (2, .int v14), (3, .int i2)]) [1, 2, 0, 3] rfl ?_
        exact hk7 v14
def f_X0_takeAll (a0 : Nat) (p1 : Nat) (h : Hp) : Option Hp :=
  bnd (gO h a0 0) fun _ => bnd (f_X0_takeNone a0 h) fun h1 => wl2 (fun r4 (i2 : Int32) (h3 : Hp) => if (10 : Int32) ≤ i2 then (some h3) else (bnd (f_X2_waits p1 i2 h3) fun x6 => jn1 (fun (h7 : Hp) => r4 (i2 + (1 : Int32)) h7) fun k8 => if x6 = 0 then (k8 h3) else (bnd (f_X2_kindOf p1 i2 h3) fun x10 => bnd (f_X0_addOne a0 x10 h3) fun h11 => k8 h11))) fuel (0 : Int32) h1
set_option maxHeartbeats 4000000 in
set_option maxRecDepth 100000 in
theorem c_X0_takeAll (l : Launch) (D : hD) (a0 : Nat) (p1 : Nat) (h : Hp) (x : Hp) (e : f_X0_takeAll a0 p1 h = some x) : (∃ fs, gO h a0 0 = some fs) ∧ Ct l D yX0_takeAll cX0_takeAll 3 none 2 43 [.ref a0, .ref p1] h none x := by
  obtain ⟨fs, g1, g2⟩ := bnd_some e
  refine ⟨⟨fs, g1⟩, ?_⟩
  refine ct_of (out := oV) g2 (by decide +kernel) rfl (fun B C hin hl hd => ?_)
  subst hl; subst hd
  show J B _ _ h 0 [(0, .ref a0), (1, .ref p1)] []
  refine j_aload_n C dX0_takeAll_0 0 rfl rfl ?_
  refine j_cV (st := []) (fun x e => ⟨runsV C wml_X0_34 wce_X0_takeNone (c_X0_takeNone (bL B) (bD B) _ _ x e).1 rfl rfl rfl rfl rfl dX0_takeAll_1, (c_X0_takeNone (bL B) (bD B) _ _ x e).2⟩) (fun h1 => ?_)
  refine j_iconst C (0 : Int32) dX0_takeAll_4 (by decide) ?_
  refine j_istore_n (lv' := [(2, .int (0 : Int32)), (0, .ref a0), (1, .ref p1)]) C dX0_takeAll_5 rfl rfl rfl ?_
  refine J.sub (lv' := [(0, .ref a0), (1, .ref p1), (2, .int (0 : Int32))]) [1, 2, 0] rfl ?_
  refine J.wl2 6 (fun (i2 : Int32) (h3 : Hp) => h3) (fun (i2 : Int32) (h3 : Hp) => [(0, .ref a0), (1, .ref p1), (2, .int i2)]) (fun (i2 : Int32) (h3 : Hp) => []) (fun r4 hr4 i2 h3 => ?_) fuel (0 : Int32) h1
  refine j_iload_n C dX0_takeAll_6 2 rfl rfl ?_
  refine j_bipush C (10 : Int32) dX0_takeAll_7 (by decide) ?_
  refine j_icmp_ge C 35 dX0_takeAll_9 (by decide) (fun c5 => ?_) (fun c5 => ?_)
  · exact j_vret C dX0_takeAll_35
  · refine j_aload_n C dX0_takeAll_12 1 rfl rfl ?_
    refine j_iload_n C dX0_takeAll_13 2 rfl rfl ?_
    refine j_cIp (st := []) (fun x e => ⟨runsV C wml_X0_37 wce_X2_waits (c_X2_waits (bL B) (bD B) _ _ _ x e).1 rfl rfl rfl rfl rfl dX0_takeAll_14, (c_X2_waits (bL B) (bD B) _ _ _ x e).2⟩) (fun x6 => ?_)
    refine J.jn1 29 (fun (h7 : Hp) => h7) (fun (h7 : Hp) => [(0, .ref a0), (1, .ref p1), (2, .int i2)]) (fun (h7 : Hp) => []) (fun h7 => ?_) (fun k8 hk8 => ?_)
    · refine j_iinc (lv' := [(2, .int (i2 + (1 : Int32))), (0, .ref a0), (1, .ref p1)]) C (1 : Int32) dX0_takeAll_29 2 rfl (by decide) rfl rfl ?_
      refine j_goto C 6 dX0_takeAll_32 (by decide) ?_
      refine J.sub (lv' := [(0, .ref a0), (1, .ref p1), (2, .int (i2 + (1 : Int32)))]) [1, 2, 0] rfl ?_
      exact hr4 (i2 + (1 : Int32)) h7
    refine j_if_eq C 29 dX0_takeAll_17 (by decide) (fun c9 => ?_) (fun c9 => ?_)
    · exact hk8 h3
    · refine j_aload_n C dX0_takeAll_20 0 rfl rfl ?_
      refine j_aload_n C dX0_takeAll_21 1 rfl rfl ?_
      refine j_iload_n C dX0_takeAll_22 2 rfl rfl ?_
      refine j_cIp (st := [.ref a0]) (fun x e => ⟨runsV C wml_X0_42 wce_X2_kindOf (c_X2_kindOf (bL B) (bD B) _ _ _ x e).1 rfl rfl rfl rfl rfl dX0_takeAll_23, (c_X2_kindOf (bL B) (bD B) _ _ _ x e).2⟩) (fun x10 => ?_)
      refine j_cV (st := []) (fun x e => ⟨runsV C wml_X0_46 wce_X0_addOne (c_X0_addOne (bL B) (bD B) _ _ _ x e).1 rfl rfl rfl rfl rfl dX0_takeAll_26, (c_X0_addOne (bL B) (bD B) _ _ _ x e).2⟩) (fun h11 => ?_)
      exact hk8 h11
def f_X0_total (a0 : Nat) (h : Hp) : Option Int32 :=
  bnd (gO h a0 0) fun _ => wl2 (fun r3 (i1 : Int32) (i2 : Int32) => if (5 : Int32) ≤ i2 then (some i1) else (bnd (gR h a0 0 0) fun a5 => bnd (ldI 0 h a5 i2) fun x6 => nm (i1 + x6) fun v7 => r3 v7 (i2 + (1 : Int32)))) fuel (0 : Int32) (0 : Int32)
set_option maxHeartbeats 4000000 in
set_option maxRecDepth 100000 in
theorem c_X0_total (l : Launch) (D : hD) (a0 : Nat) (h : Hp) (x : Int32) (e : f_X0_total a0 h = some x) : (∃ fs, gO h a0 0 = some fs) ∧ Ct l D yX0_total cX0_total 3 (some .int) 0 0 [.ref a0] h (some (.int x)) h := by
  obtain ⟨fs, g1, g2⟩ := bnd_some e
  refine ⟨⟨fs, g1⟩, ?_⟩
  refine ct_of (out := (oIp h)) g2 (by decide +kernel) rfl (fun B C hin hl hd => ?_)
  subst hl; subst hd
  show J B _ _ h 0 [(0, .ref a0)] []
  refine j_iconst C (0 : Int32) dX0_total_0 (by decide) ?_
  refine j_istore_n (lv' := [(1, .int (0 : Int32)), (0, .ref a0)]) C dX0_total_1 rfl rfl rfl ?_
  refine j_iconst C (0 : Int32) dX0_total_2 (by decide) ?_
  refine j_istore_n (lv' := [(2, .int (0 : Int32)), (1, .int (0 : Int32)), (0, .ref a0)]) C dX0_total_3 rfl rfl rfl ?_
  refine J.sub (lv' := [(0, .ref a0), (1, .int (0 : Int32)), (2, .int (0 : Int32))]) [2, 1, 0] rfl ?_
  refine J.wl2 4 (fun (i1 : Int32) (i2 : Int32) => h) (fun (i1 : Int32) (i2 : Int32) => [(0, .ref a0), (1, .int i1), (2, .int i2)]) (fun (i1 : Int32) (i2 : Int32) => []) (fun r3 hr3 i1 i2 => ?_) fuel (0 : Int32) (0 : Int32)
  refine j_iload_n C dX0_total_4 2 rfl rfl ?_
  refine j_iconst C (5 : Int32) dX0_total_5 (by decide) ?_
  refine j_icmp_ge C 24 dX0_total_6 (by decide) (fun c4 => ?_) (fun c4 => ?_)
  · refine j_iload_n C dX0_total_24 1 rfl rfl ?_
    exact j_iretp C dX0_total_25
  · refine j_iload_n C dX0_total_9 1 rfl rfl ?_
    refine j_aload_n C dX0_total_10 0 rfl rfl ?_
    refine j_getR C wfl_X0_9 dX0_total_11 (fun a5 => ?_)
    refine j_iload_n C dX0_total_14 2 rfl rfl ?_
    refine j_iaload C dX0_total_15 (fun x6 => ?_)
    refine j_iadd C dX0_total_16 ?_
    refine j_nmI (fun v7 => ?_)
    refine j_istore_n (lv' := [(1, .int v7), (0, .ref a0), (2, .int i2)]) C dX0_total_17 rfl rfl rfl ?_
    refine j_iinc (lv' := [(2, .int (i2 + (1 : Int32))), (1, .int v7), (0, .ref a0)]) C (1 : Int32) dX0_total_18 2 rfl (by decide) rfl rfl ?_
    refine j_goto C 4 dX0_total_21 (by decide) ?_
    refine J.sub (lv' := [(0, .ref a0), (1, .int v7), (2, .int (i2 + (1 : Int32)))]) [2, 1, 0] rfl ?_
    exact hr3 v7 (i2 + (1 : Int32))
def f_X0_fewestHalvings (a0 : Nat) (p1 : Nat) (h : Hp) : Option (Int32 × Hp) :=
  bnd (gO h a0 0) fun _ => bnd (f_X0_takeAll a0 p1 h) fun h1 => bnd (f_X0_total a0 h1) fun x2 => wl1 (fun r4 (i3 : Int32) => if (5 : Int32) ≤ i3 then (some ((0 : Int32), h1)) else (bnd (gR h1 a0 0 0) fun a6 => bnd (ldI 0 h1 a6 i3) fun x7 => nm (x2 - x7) fun v8 => bnd (gI h1 p1 2 9) fun x9 => jn1 (fun (w10 : Int32) => if w10 ≤ v8 then (r4 (i3 + (1 : Int32))) else (bnd (f_X0_sizesBeside p1 i3 h1) fun x13 => jn1 (fun (w14 : Int32) => some (w14, h1)) fun k15 => if x13 < w10 then (k15 (-4 : Int32)) else (k15 (w10 - v8)))) fun k11 => if i3 = x9 then (bnd (gR h1 a0 0 0) fun a20 => bnd (ldI 0 h1 a20 i3) fun x21 => k11 x21) else (bnd (gR h1 a0 0 0) fun a18 => bnd (ldI 0 h1 a18 i3) fun x19 => k11 (x19 - (1 : Int32))))) fuel (0 : Int32)
set_option maxHeartbeats 4000000 in
set_option maxRecDepth 100000 in
theorem c_X0_fewestHalvings (l : Launch) (D : hD) (a0 : Nat) (p1 : Nat) (h : Hp) (x : (Int32 × Hp)) (e : f_X0_fewestHalvings a0 p1 h = some x) : (∃ fs, gO h a0 0 = some fs) ∧ Ct l D yX0_fewestHalvings cX0_fewestHalvings 6 (some .int) 3 65 [.ref a0, .ref p1] h (some (.int x.1)) x.2 := by
  obtain ⟨fs, g1, g2⟩ := bnd_some e
  refine ⟨⟨fs, g1⟩, ?_⟩
  refine ct_of (out := oI) g2 (by decide +kernel) rfl (fun B C hin hl hd => ?_)
  subst hl; subst hd
  show J B _ _ h 0 [(0, .ref a0), (1, .ref p1)] []
  refine j_aload_n C dX0_fewestHalvings_0 0 rfl rfl ?_
  refine j_aload_n C dX0_fewestHalvings_1 1 rfl rfl ?_
  refine j_cV (st := []) (fun x e => ⟨runsV C wml_X0_114 wce_X0_takeAll (c_X0_takeAll (bL B) (bD B) _ _ _ x e).1 rfl rfl rfl rfl rfl dX0_fewestHalvings_2, (c_X0_takeAll (bL B) (bD B) _ _ _ x e).2⟩) (fun h1 => ?_)
  refine j_aload_n C dX0_fewestHalvings_5 0 rfl rfl ?_
  refine j_cIp (st := []) (fun x e => ⟨runsV C wml_X0_118 wce_X0_total (c_X0_total (bL B) (bD B) _ _ x e).1 rfl rfl rfl rfl rfl dX0_fewestHalvings_6, (c_X0_total (bL B) (bD B) _ _ x e).2⟩) (fun x2 => ?_)
  refine j_istore_n (lv' := [(2, .int x2), (0, .ref a0), (1, .ref p1)]) C dX0_fewestHalvings_9 rfl rfl rfl ?_
  refine j_iconst C (0 : Int32) dX0_fewestHalvings_10 (by decide) ?_
  refine j_istore_n (lv' := [(3, .int (0 : Int32)), (2, .int x2), (0, .ref a0), (1, .ref p1)]) C dX0_fewestHalvings_11 rfl rfl rfl ?_
  refine J.sub (lv' := [(0, .ref a0), (1, .ref p1), (2, .int x2), (3, .int (0 : Int32))]) [2, 3, 1, 0] rfl ?_
  refine J.wl1 12 (fun (i3 : Int32) => h1) (fun (i3 : Int32) => [(0, .ref a0), (1, .ref p1), (2, .int x2), (3, .int i3)]) (fun (i3 : Int32) => []) (fun r4 hr4 i3 => ?_) fuel (0 : Int32)
  refine j_iload_n C dX0_fewestHalvings_12 3 rfl rfl ?_
  refine j_iconst C (5 : Int32) dX0_fewestHalvings_13 (by decide) ?_
  refine j_icmp_ge C 88 dX0_fewestHalvings_14 (by decide) (fun c5 => ?_) (fun c5 => ?_)
  · refine j_iconst C (0 : Int32) dX0_fewestHalvings_88 (by decide) ?_
    exact j_iret C dX0_fewestHalvings_89
  · refine j_iload_n C dX0_fewestHalvings_17 2 rfl rfl ?_
    refine j_aload_n C dX0_fewestHalvings_18 0 rfl rfl ?_
    refine j_getR C wfl_X0_9 dX0_fewestHalvings_19 (fun a6 => ?_)
    refine j_iload_n C dX0_fewestHalvings_22 3 rfl rfl ?_
    refine j_iaload C dX0_fewestHalvings_23 (fun x7 => ?_)
    refine j_isub C dX0_fewestHalvings_24 ?_
    refine j_nmI (fun v8 => ?_)
    refine j_istore (lv' := [(4, .int v8), (0, .ref a0), (1, .ref p1), (2, .int x2), (3, .int i3)]) C dX0_fewestHalvings_25 rfl rfl ?_
    refine j_iload_n C dX0_fewestHalvings_27 4 rfl rfl ?_
    refine j_aload_n C dX0_fewestHalvings_28 2 rfl rfl ?_
    refine j_getI C wfl_X0_104 dX0_fewestHalvings_29 (fun x9 => ?_)
    refine J.jn1 52 (fun (w10 : Int32) => h1) (fun (w10 : Int32) => [(0, .ref a0), (1, .ref p1), (2, .int x2), (3, .int i3), (4, .int v8)]) (fun (w10 : Int32) => [.int w10]) (fun w10 => ?_) (fun k11 hk11 => ?_)
    · refine j_istore (lv' := [(5, .int w10), (0, .ref a0), (1, .ref p1), (2, .int x2), (3, .int i3), (4, .int v8)]) C dX0_fewestHalvings_52 rfl rfl ?_
      refine j_iload C dX0_fewestHalvings_54 0 rfl ?_
      refine j_iload C dX0_fewestHalvings_56 5 rfl ?_
      refine j_icmp_le C 82 dX0_fewestHalvings_58 (by decide) (fun c12 => ?_) (fun c12 => ?_)
      · refine j_iinc (lv' := [(3, .int (i3 + (1 : Int32))), (5, .int w10), (0, .ref a0), (1, .ref p1), (2, .int x2), (4, .int v8)]) C (1 : Int32) dX0_fewestHalvings_82 4 rfl (by decide) rfl rfl ?_
        refine j_goto C 12 dX0_fewestHalvings_85 (by decide) ?_
        refine J.sub (lv' := [(0, .ref a0), (1, .ref p1), (2, .int x2), (3, .int (i3 + (1 : Int32)))]) [2, 3, 4, 0] rfl ?_
        exact hr4 (i3 + (1 : Int32))
      · refine j_iload C dX0_fewestHalvings_61 0 rfl ?_
        refine j_aload_n C dX0_fewestHalvings_63 2 rfl rfl ?_
        refine j_iload_n C dX0_fewestHalvings_64 4 rfl rfl ?_
        refine j_cIp (st := [.int w10]) (fun x e => ⟨runsS C wml_X0_121 wce_X0_sizesBeside rfl rfl rfl rfl rfl dX0_fewestHalvings_65, c_X0_sizesBeside (bL B) (bD B) _ _ _ x e⟩) (fun x13 => ?_)
        refine J.jn1 81 (fun (w14 : Int32) => h1) (fun (w14 : Int32) => []) (fun (w14 : Int32) => [.int w14]) (fun w14 => ?_) (fun k15 hk15 => ?_)
        · exact j_iret C dX0_fewestHalvings_81
        refine j_icmp_gt C 79 dX0_fewestHalvings_68 (by decide) (fun c16 => ?_) (fun c16 => ?_)
        · refine j_bipush C (-4 : Int32) dX0_fewestHalvings_79 (by decide) ?_
          refine J.sub (lv' := []) [] rfl ?_
          exact hk15 (-4 : Int32)
        · refine j_iload C dX0_fewestHalvings_71 0 rfl ?_
          refine j_iload C dX0_fewestHalvings_73 5 rfl ?_
          refine j_isub C dX0_fewestHalvings_75 ?_
          refine j_goto C 81 dX0_fewestHalvings_76 (by decide) ?_
          refine J.sub (lv' := []) [] rfl ?_
          exact hk15 (w10 - v8)
    refine j_icmp_ne C 44 dX0_fewestHalvings_32 (by decide) (fun c17 => ?_) (fun c17 => ?_)
    · refine j_aload_n C dX0_fewestHalvings_44 1 rfl rfl ?_
      refine j_getR C wfl_X0_9 dX0_fewestHalvings_45 (fun a18 => ?_)
      refine j_iload_n C dX0_fewestHalvings_48 4 rfl rfl ?_
      refine j_iaload C dX0_fewestHalvings_49 (fun x19 => ?_)
      refine j_iconst C (1 : Int32) dX0_fewestHalvings_50 (by decide) ?_
      refine j_isub C dX0_fewestHalvings_51 ?_
      refine J.sub (lv' := [(0, .ref a0), (1, .ref p1), (2, .int x2), (3, .int i3), (4, .int v8)]) [1, 2, 3, 4, 0] rfl ?_
      exact hk11 (x19 - (1 : Int32))
    · refine j_aload_n C dX0_fewestHalvings_35 1 rfl rfl ?_
      refine j_getR C wfl_X0_9 dX0_fewestHalvings_36 (fun a20 => ?_)
      refine j_iload_n C dX0_fewestHalvings_39 4 rfl rfl ?_
      refine j_iaload C dX0_fewestHalvings_40 (fun x21 => ?_)
      refine j_goto C 52 dX0_fewestHalvings_41 (by decide) ?_
      refine J.sub (lv' := [(0, .ref a0), (1, .ref p1), (2, .int x2), (3, .int i3), (4, .int v8)]) [1, 2, 3, 4, 0] rfl ?_
      exact hk11 x21
def f_X6_halvings (a0 : Nat) (h : Hp) : Option (Int32 × Hp) :=
  bnd (gO h a0 6) fun _ => bnd (gR h a0 6 4) fun a1 => bnd (gI h a1 2 0) fun x2 => if x2 = (1 : Int32) then (some ((-2 : Int32), h)) else (bnd (gR h a0 6 11) fun a4 => bnd (gR h a0 6 4) fun a5 => bnd2 (f_X0_fewestHalvings a4 a5 h) fun x6 h7 => some (x6, h7))
set_option maxHeartbeats 4000000 in
set_option maxRecDepth 100000 in
theorem c_X6_halvings (l : Launch) (D : hD) (a0 : Nat) (h : Hp) (x : (Int32 × Hp)) (e : f_X6_halvings a0 h = some x) : (∃ fs, gO h a0 6 = some fs) ∧ Ct l D yX6_halvings cX6_halvings 1 (some .int) 4 90 [.ref a0] h (some (.int x.1)) x.2 := by
  obtain ⟨fs, g1, g2⟩ := bnd_some e
  refine ⟨⟨fs, g1⟩, ?_⟩
  refine ct_of (out := oI) g2 (by decide +kernel) rfl (fun B C hin hl hd => ?_)
  subst hl; subst hd
  show J B _ _ h 0 [(0, .ref a0)] []
  refine j_aload_n C dX6_halvings_0 0 rfl rfl ?_
  refine j_getR C wfl_X6_27 dX6_halvings_1 (fun a1 => ?_)
  refine j_getI C wfl_X6_170 dX6_halvings_4 (fun x2 => ?_)
  refine j_iconst C (1 : Int32) dX6_halvings_7 (by decide) ?_
  refine j_icmp_ne C 14 dX6_halvings_8 (by decide) (fun c3 => ?_) (fun c3 => ?_)
  · refine j_aload_n C dX6_halvings_14 0 rfl rfl ?_
    refine j_getR C wfl_X6_44 dX6_halvings_15 (fun a4 => ?_)
    refine j_aload_n C dX6_halvings_18 0 rfl rfl ?_
    refine j_getR C wfl_X6_27 dX6_halvings_19 (fun a5 => ?_)
    refine j_cI (st := []) (fun x e => ⟨runsV C wml_X6_197 wce_X0_fewestHalvings (c_X0_fewestHalvings (bL B) (bD B) _ _ _ x e).1 rfl rfl rfl rfl rfl dX6_halvings_22, (c_X0_fewestHalvings (bL B) (bD B) _ _ _ x e).2⟩) (fun x6 h7 => ?_)
    exact j_iret C dX6_halvings_25
  · refine j_bipush C (-2 : Int32) dX6_halvings_11 (by decide) ?_
    exact j_iret C dX6_halvings_13
def f_X0_init (a0 : Nat) (h : Hp) : Option Hp :=
  bnd (gO h a0 0) fun _ => bnd2 (nwI 0 h (5 : Int32)) fun a1 h2 => bnd (pF h2 a0 0 0 (.ref a1)) fun h3 => bnd2 (nwI 0 h3 (5 : Int32)) fun a4 h5 => bnd (pF h5 a0 0 1 (.ref a4)) fun h6 => bnd2 (nwI 0 h6 (5 : Int32)) fun a7 h8 => bnd (pF h8 a0 0 2 (.ref a7)) fun h9 => bnd2 (nwI 0 h9 (0 : Int32)) fun a10 h11 => bnd (pF h11 a0 0 4 (.ref a10)) fun h12 => some h12
set_option maxHeartbeats 4000000 in
set_option maxRecDepth 100000 in
theorem c_X0_init (l : Launch) (D : hD) (a0 : Nat) (h : Hp) (x : Hp) (e : f_X0_init a0 h = some x) : (∃ fs, gO h a0 0 = some fs) ∧ Ct l D yX0_init cX0_init 1 none 1 20 [.ref a0] h none x := by
  obtain ⟨fs, g1, g2⟩ := bnd_some e
  refine ⟨⟨fs, g1⟩, ?_⟩
  refine ct_of (out := oV) g2 (by decide +kernel) rfl (fun B C hin hl hd => ?_)
  subst hl; subst hd
  show J B _ _ h 0 [(0, .ref a0)] []
  refine j_aload_n C dX0_init_0 0 rfl rfl ?_
  refine j_objInit C wob_X0_3 wob_i wob_c rfl rfl rfl dX0_init_1 ?_
  refine j_aload_n C dX0_init_4 0 rfl rfl ?_
  refine j_iconst C (5 : Int32) dX0_init_5 (by decide) ?_
  refine j_newI C 0 rfl rfl rfl (by decide) (by intro c h; cases h) warr_int dX0_init_6 (fun a1 h2 => ?_)
  refine j_putF C hin wff_X0_9 dX0_init_8 ⟨_, rfl⟩ (fun h3 => ?_)
  refine j_aload_n C dX0_init_11 0 rfl rfl ?_
  refine j_iconst C (5 : Int32) dX0_init_12 (by decide) ?_
  refine j_newI C 0 rfl rfl rfl (by decide) (by intro c h; cases h) warr_int dX0_init_13 (fun a4 h5 => ?_)
  refine j_putF C hin wff_X0_15 dX0_init_15 ⟨_, rfl⟩ (fun h6 => ?_)
  refine j_aload_n C dX0_init_18 0 rfl rfl ?_
  refine j_iconst C (5 : Int32) dX0_init_19 (by decide) ?_
  refine j_newI C 0 rfl rfl rfl (by decide) (by intro c h; cases h) warr_int dX0_init_20 (fun a7 h8 => ?_)
  refine j_putF C hin wff_X0_18 dX0_init_22 ⟨_, rfl⟩ (fun h9 => ?_)
  refine j_aload_n C dX0_init_25 0 rfl rfl ?_
  refine j_iconst C (0 : Int32) dX0_init_26 (by decide) ?_
  refine j_newI C 0 rfl rfl rfl (by decide) (by intro c h; cases h) warr_int dX0_init_27 (fun a10 h11 => ?_)
  refine j_put C wfp_X0_21 dX0_init_29 ⟨_, rfl⟩ (fun h12 => ?_)
  exact j_vret C dX0_init_32
def f_X1_init (a0 : Nat) (h : Hp) : Option Hp :=
  bnd (gO h a0 1) fun _ => bnd2 (nwI 0 h (10 : Int32)) fun a1 h2 => bnd (pF h2 a0 1 0 (.ref a1)) fun h3 => bnd2 (nwI 0 h3 (10 : Int32)) fun a4 h5 => bnd (pF h5 a0 1 1 (.ref a4)) fun h6 => bnd2 (nwI 0 h6 (10 : Int32)) fun a7 h8 => bnd (pF h8 a0 1 2 (.ref a7)) fun h9 => bnd2 (nwI 0 h9 (10 : Int32)) fun a10 h11 => bnd (pF h11 a0 1 3 (.ref a10)) fun h12 => bnd2 (nwI 0 h12 (10 : Int32)) fun a13 h14 => bnd (pF h14 a0 1 6 (.ref a13)) fun h15 => bnd2 (nwI 0 h15 (0 : Int32)) fun a16 h17 => bnd (pF h17 a0 1 8 (.ref a16)) fun h18 => bnd2 (nwI 0 h18 (0 : Int32)) fun a19 h20 => bnd (pF h20 a0 1 9 (.ref a19)) fun h21 => bnd2 (nwI 0 h21 (0 : Int32)) fun a22 h23 => bnd (pF h23 a0 1 10 (.ref a22)) fun h24 => some h24
set_option maxHeartbeats 4000000 in
set_option maxRecDepth 100000 in
theorem c_X1_init (l : Launch) (D : hD) (a0 : Nat) (h : Hp) (x : Hp) (e : f_X1_init a0 h = some x) : (∃ fs, gO h a0 1 = some fs) ∧ Ct l D yX1_init cX1_init 1 none 1 20 [.ref a0] h none x := by
  obtain ⟨fs, g1, g2⟩ := bnd_some e
  refine ⟨⟨fs, g1⟩, ?_⟩
  refine ct_of (out := oV) g2 (by decide +kernel) rfl (fun B C hin hl hd => ?_)
  subst hl; subst hd
  show J B _ _ h 0 [(0, .ref a0)] []
  refine j_aload_n C dX1_init_0 0 rfl rfl ?_
  refine j_objInit C wob_X1_3 wob_i wob_c rfl rfl rfl dX1_init_1 ?_
  refine j_aload_n C dX1_init_4 0 rfl rfl ?_
  refine j_bipush C (10 : Int32) dX1_init_5 (by decide) ?_
  refine j_newI C 0 rfl rfl rfl (by decide) (by intro c h; cases h) warr_int dX1_init_7 (fun a1 h2 => ?_)
  refine j_putF C hin wff_X1_9 dX1_init_9 ⟨_, rfl⟩ (fun h3 => ?_)
  refine j_aload_n C dX1_init_12 0 rfl rfl ?_
  refine j_bipush C (10 : Int32) dX1_init_13 (by decide) ?_
  refine j_newI C 0 rfl rfl rfl (by decide) (by intro c h; cases h) warr_int dX1_init_15 (fun a4 h5 => ?_)
  refine j_putF C hin wff_X1_15 dX1_init_17 ⟨_, rfl⟩ (fun h6 => ?_)
  refine j_aload_n C dX1_init_20 0 rfl rfl ?_
  refine j_bipush C (10 : Int32) dX1_init_21 (by decide) ?_
  refine j_newI C 0 rfl rfl rfl (by decide) (by intro c h; cases h) warr_int dX1_init_23 (fun a7 h8 => ?_)
  refine j_putF C hin wff_X1_18 dX1_init_25 ⟨_, rfl⟩ (fun h9 => ?_)
  refine j_aload_n C dX1_init_28 0 rfl rfl ?_
  refine j_bipush C (10 : Int32) dX1_init_29 (by decide) ?_
  refine j_newI C 0 rfl rfl rfl (by decide) (by intro c h; cases h) warr_int dX1_init_31 (fun a10 h11 => ?_)
  refine j_putF C hin wff_X1_21 dX1_init_33 ⟨_, rfl⟩ (fun h12 => ?_)
  refine j_aload_n C dX1_init_36 0 rfl rfl ?_
  refine j_bipush C (10 : Int32) dX1_init_37 (by decide) ?_
  refine j_newI C 0 rfl rfl rfl (by decide) (by intro c h; cases h) warr_int dX1_init_39 (fun a13 h14 => ?_)
  refine j_putF C hin wff_X1_24 dX1_init_41 ⟨_, rfl⟩ (fun h15 => ?_)
  refine j_aload_n C dX1_init_44 0 rfl rfl ?_
  refine j_iconst C (0 : Int32) dX1_init_45 (by decide) ?_
  refine j_newI C 0 rfl rfl rfl (by decide) (by intro c h; cases h) warr_int dX1_init_46 (fun a16 h17 => ?_)
  refine j_put C wfp_X1_27 dX1_init_48 ⟨_, rfl⟩ (fun h18 => ?_)
  refine j_aload_n C dX1_init_51 0 rfl rfl ?_
  refine j_iconst C (0 : Int32) dX1_init_52 (by decide) ?_
  refine j_newI C 0 rfl rfl rfl (by decide) (by intro c h; cases h) warr_int dX1_init_53 (fun a19 h20 => ?_)
  refine j_put C wfp_X1_30 dX1_init_55 ⟨_, rfl⟩ (fun h21 => ?_)
  refine j_aload_n C dX1_init_58 0 rfl rfl ?_
  refine j_iconst C (0 : Int32) dX1_init_59 (by decide) ?_
  refine j_newI C 0 rfl rfl rfl (by decide) (by intro c h; cases h) warr_int dX1_init_60 (fun a22 h23 => ?_)
  refine j_put C wfp_X1_33 dX1_init_62 ⟨_, rfl⟩ (fun h24 => ?_)
  exact j_vret C dX1_init_65
def f_X2_init (a0 : Nat) (h : Hp) : Option Hp :=
  bnd (gO h a0 2) fun _ => bnd2 (nwI 0 h (10 : Int32)) fun a1 h2 => bnd (pF h2 a0 2 3 (.ref a1)) fun h3 => bnd2 (nwI 0 h3 (10 : Int32)) fun a4 h5 => bnd (pF h5 a0 2 4 (.ref a4)) fun h6 => bnd2 (nwI 0 h6 (10 : Int32)) fun a7 h8 => bnd (pF h8 a0 2 5 (.ref a7)) fun h9 => bnd2 (nwI 0 h9 (10 : Int32)) fun a10 h11 => bnd (pF h11 a0 2 6 (.ref a10)) fun h12 => bnd2 (nwI 0 h12 (10 : Int32)) fun a13 h14 => bnd (pF h14 a0 2 7 (.ref a13)) fun h15 => bnd (f_X2_clear a0 h15) fun h16 => some h16
set_option maxHeartbeats 4000000 in
set_option maxRecDepth 100000 in
theorem c_X2_init (l : Launch) (D : hD) (a0 : Nat) (h : Hp) (x : Hp) (e : f_X2_init a0 h = some x) : (∃ fs, gO h a0 2 = some fs) ∧ Ct l D yX2_init cX2_init 1 none 1 20 [.ref a0] h none x := by
  obtain ⟨fs, g1, g2⟩ := bnd_some e
  refine ⟨⟨fs, g1⟩, ?_⟩
  refine ct_of (out := oV) g2 (by decide +kernel) rfl (fun B C hin hl hd => ?_)
  subst hl; subst hd
  show J B _ _ h 0 [(0, .ref a0)] []
  refine j_aload_n C dX2_init_0 0 rfl rfl ?_
  refine j_objInit C wob_X2_3 wob_i wob_c rfl rfl rfl dX2_init_1 ?_
  refine j_aload_n C dX2_init_4 0 rfl rfl ?_
  refine j_bipush C (10 : Int32) dX2_init_5 (by decide) ?_
  refine j_newI C 0 rfl rfl rfl (by decide) (by intro c h; cases h) warr_int dX2_init_7 (fun a1 h2 => ?_)
  refine j_putF C hin wff_X2_9 dX2_init_9 ⟨_, rfl⟩ (fun h3 => ?_)
  refine j_aload_n C dX2_init_12 0 rfl rfl ?_
  refine j_bipush C (10 : Int32) dX2_init_13 (by decide) ?_
  refine j_newI C 0 rfl rfl rfl (by decide) (by intro c h; cases h) warr_int dX2_init_15 (fun a4 h5 => ?_)
  refine j_putF C hin wff_X2_15 dX2_init_17 ⟨_, rfl⟩ (fun h6 => ?_)
  refine j_aload_n C dX2_init_20 0 rfl rfl ?_
  refine j_bipush C (10 : Int32) dX2_init_21 (by decide) ?_
  refine j_newI C 0 rfl rfl rfl (by decide) (by intro c h; cases h) warr_int dX2_init_23 (fun a7 h8 => ?_)
  refine j_putF C hin wff_X2_18 dX2_init_25 ⟨_, rfl⟩ (fun h9 => ?_)
  refine j_aload_n C dX2_init_28 0 rfl rfl ?_
  refine j_bipush C (10 : Int32) dX2_init_29 (by decide) ?_
  refine j_newI C 0 rfl rfl rfl (by decide) (by intro c h; cases h) warr_int dX2_init_31 (fun a10 h11 => ?_)
  refine j_putF C hin wff_X2_21 dX2_init_33 ⟨_, rfl⟩ (fun h12 => ?_)
  refine j_aload_n C dX2_init_36 0 rfl rfl ?_
  refine j_bipush C (10 : Int32) dX2_init_37 (by decide) ?_
  refine j_newI C 0 rfl rfl rfl (by decide) (by intro c h; cases h) warr_int dX2_init_39 (fun a13 h14 => ?_)
  refine j_putF C hin wff_X2_24 dX2_init_41 ⟨_, rfl⟩ (fun h15 => ?_)
  refine j_aload_n C dX2_init_44 0 rfl rfl ?_
  refine j_cV (st := []) (fun x e => ⟨runsV C wml_X2_27 wce_X2_clear (c_X2_clear (bL B) (bD B) _ _ x e).1 rfl rfl rfl rfl rfl dX2_init_45, (c_X2_clear (bL B) (bD B) _ _ x e).2⟩) (fun h16 => ?_)
  exact j_vret C dX2_init_48
def f_X3_init (a0 : Nat) (h : Hp) : Option Hp :=
  bnd (gO h a0 3) fun _ => bnd2 (nwI 2 h (25 : Int32)) fun a1 h2 => bnd (pF h2 a0 3 0 (.ref a1)) fun h3 => bnd2 (nwI 0 h3 (5 : Int32)) fun a4 h5 => bnd (pF h5 a0 3 1 (.ref a4)) fun h6 => bnd2 (nwI 0 h6 (5 : Int32)) fun a7 h8 => bnd (pF h8 a0 3 2 (.ref a7)) fun h9 => some h9
set_option maxHeartbeats 4000000 in
set_option maxRecDepth 100000 in
theorem c_X3_init (l : Launch) (D : hD) (a0 : Nat) (h : Hp) (x : Hp) (e : f_X3_init a0 h = some x) : (∃ fs, gO h a0 3 = some fs) ∧ Ct l D yX3_init cX3_init 1 none 1 20 [.ref a0] h none x := by
  obtain ⟨fs, g1, g2⟩ := bnd_some e
  refine ⟨⟨fs, g1⟩, ?_⟩
  refine ct_of (out := oV) g2 (by decide +kernel) rfl (fun B C hin hl hd => ?_)
  subst hl; subst hd
  show J B _ _ h 0 [(0, .ref a0)] []
  refine j_aload_n C dX3_init_0 0 rfl rfl ?_
  refine j_objInit C wob_X3_3 wob_i wob_c rfl rfl rfl dX3_init_1 ?_
  refine j_aload_n C dX3_init_4 0 rfl rfl ?_
  refine j_bipush C (25 : Int32) dX3_init_5 (by decide) ?_
  refine j_newI C 2 rfl rfl rfl (by decide) (by intro c h; cases h) warr_boolean dX3_init_7 (fun a1 h2 => ?_)
  refine j_putF C hin wff_X3_9 dX3_init_9 ⟨_, rfl⟩ (fun h3 => ?_)
  refine j_aload_n C dX3_init_12 0 rfl rfl ?_
  refine j_iconst C (5 : Int32) dX3_init_13 (by decide) ?_
  refine j_newI C 0 rfl rfl rfl (by decide) (by intro c h; cases h) warr_int dX3_init_14 (fun a4 h5 => ?_)
  refine j_putF C hin wff_X3_15 dX3_init_16 ⟨_, rfl⟩ (fun h6 => ?_)
  refine j_aload_n C dX3_init_19 0 rfl rfl ?_
  refine j_iconst C (5 : Int32) dX3_init_20 (by decide) ?_
  refine j_newI C 0 rfl rfl rfl (by decide) (by intro c h; cases h) warr_int dX3_init_21 (fun a7 h8 => ?_)
  refine j_putF C hin wff_X3_19 dX3_init_23 ⟨_, rfl⟩ (fun h9 => ?_)
  exact j_vret C dX3_init_26
def f_X4_init (a0 : Nat) (h : Hp) : Option Hp :=
  bnd (gO h a0 4) fun _ => bnd2 (nwI 0 h (4 : Int32)) fun a1 h2 => bnd (pF h2 a0 4 0 (.ref a1)) fun h3 => some h3
set_option maxHeartbeats 4000000 in
set_option maxRecDepth 100000 in
theorem c_X4_init (l : Launch) (D : hD) (a0 : Nat) (h : Hp) (x : Hp) (e : f_X4_init a0 h = some x) : (∃ fs, gO h a0 4 = some fs) ∧ Ct l D yX4_init cX4_init 1 none 1 20 [.ref a0] h none x := by
  obtain ⟨fs, g1, g2⟩ := bnd_some e
  refine ⟨⟨fs, g1⟩, ?_⟩
  refine ct_of (out := oV) g2 (by decide +kernel) rfl (fun B C hin hl hd => ?_)
  subst hl; subst hd
  show J B _ _ h 0 [(0, .ref a0)] []
  refine j_aload_n C dX4_init_0 0 rfl rfl ?_
  refine j_objInit C wob_X4_3 wob_i wob_c rfl rfl rfl dX4_init_1 ?_
  refine j_aload_n C dX4_init_4 0 rfl rfl ?_
  refine j_iconst C (4 : Int32) dX4_init_5 (by decide) ?_
  refine j_newI C 0 rfl rfl rfl (by decide) (by intro c h; cases h) warr_int dX4_init_6 (fun a1 h2 => ?_)
  refine j_putF C hin wff_X4_11 dX4_init_8 ⟨_, rfl⟩ (fun h3 => ?_)
  exact j_vret C dX4_init_11
def f_X5_init (a0 : Nat) (h : Hp) : Option Hp :=
  bnd (gO h a0 5) fun _ => bnd2 (nwI 0 h (5 : Int32)) fun a1 h2 => bnd (pF h2 a0 5 1 (.ref a1)) fun h3 => some h3
set_option maxHeartbeats 4000000 in
set_option maxRecDepth 100000 in
theorem c_X5_init (l : Launch) (D : hD) (a0 : Nat) (h : Hp) (x : Hp) (e : f_X5_init a0 h = some x) : (∃ fs, gO h a0 5 = some fs) ∧ Ct l D yX5_init cX5_init 1 none 1 20 [.ref a0] h none x := by
  obtain ⟨fs, g1, g2⟩ := bnd_some e
  refine ⟨⟨fs, g1⟩, ?_⟩
  refine ct_of (out := oV) g2 (by decide +kernel) rfl (fun B C hin hl hd => ?_)
  subst hl; subst hd
  show J B _ _ h 0 [(0, .ref a0)] []
  refine j_aload_n C dX5_init_0 0 rfl rfl ?_
  refine j_objInit C wob_X5_3 wob_i wob_c rfl rfl rfl dX5_init_1 ?_
  refine j_aload_n C dX5_init_4 0 rfl rfl ?_
  refine j_iconst C (5 : Int32) dX5_init_5 (by decide) ?_
  refine j_newI C 0 rfl rfl rfl (by decide) (by intro c h; cases h) warr_int dX5_init_6 (fun a1 h2 => ?_)
  refine j_putF C hin wff_X5_9 dX5_init_8 ⟨_, rfl⟩ (fun h3 => ?_)
  exact j_vret C dX5_init_11
def f_X6_init (a0 : Nat) (h : Hp) : Option Hp :=
  bnd (gO h a0 6) fun _ => bnd2 (nwI 1 h (300 : Int32)) fun a1 h2 => bnd (pF h2 a0 6 0 (.ref a1)) fun h3 => bnd2 (nwO h3 4 [.null, .int 0]) fun a4 h5 => bnd (f_X4_init a4 h5) fun h6 => bnd (pF h6 a0 6 2 (.ref a4)) fun h7 => bnd2 (nwO h7 2 [.int 0, .int 0, .int 0, .null, .null, .null, .null, .null, .int 0, .int 0, .int 0, .int 0]) fun a8 h9 => bnd (f_X2_init a8 h9) fun h10 => bnd (pF h10 a0 6 3 (.ref a8)) fun h11 => bnd2 (nwO h11 2 [.int 0, .int 0, .int 0, .null, .null, .null, .null, .null, .int 0, .int 0, .int 0, .int 0]) fun a12 h13 => bnd (f_X2_init a12 h13) fun h14 => bnd (pF h14 a0 6 4 (.ref a12)) fun h15 => bnd2 (nwR h15 (8 : Int32)) fun a16 h17 => bnd (pF h17 a0 6 5 (.ref a16)) fun h18 => wl2 (fun r21 (i19 : Int32) (h20 : Hp) => if (8 : Int32) ≤ i19 then (bnd2 (nwR h20 (2 : Int32)) fun a23 h24 => bnd (pF h24 a0 6 7 (.ref a23)) fun h25 => wl2 (fun r28 (i26 : Int32) (h27 : Hp) => if (2 : Int32) ≤ i26 then (bnd2 (nwI 0 h27 (10 : Int32)) fun a30 h31 => bnd (pF h31 a0 6 9 (.ref a30)) fun h32 => bnd2 (nwO h32 0 [.null, .null, .null, .int 0, .null]) fun a33 h34 => bnd (f_X0_init a33 h34) fun h35 => bnd (pF h35 a0 6 11 (.ref a33)) fun h36 => bnd2 (nwO h36 1 [.null, .null, .null, .null, .int 0, .int 0, .null, .int 0, .null, .null, .null, .int 0, .int 0]) fun a37 h38 => bnd (f_X1_init a37 h38) fun h39 => bnd (pF h39 a0 6 12 (.ref a37)) fun h40 => bnd2 (nwO h40 3 [.null, .null, .null, .int 0]) fun a41 h42 => bnd (f_X3_init a41 h42) fun h43 => bnd (pF h43 a0 6 13 (.ref a41)) fun h44 => bnd2 (nwO h44 5 [.int 0, .null, .int 0, .int 0, .int 0]) fun a45 h46 => bnd (f_X5_init a45 h46) fun h47 => bnd (pF h47 a0 6 14 (.ref a45)) fun h48 => bnd (gR h48 a0 6 4) fun a49 => bnd (f_X2_add a49 (0 : Int32) (2 : Int32) (0 : Int32) (0 : Int32) h48) fun h50 => bnd (gR h50 a0 6 4) fun a51 => bnd (f_X2_add a51 (1 : Int32) (3 : Int32) (1 : Int32) (0 : Int32) h50) fun h52 => bnd (gR h52 a0 6 4) fun a53 => bnd (f_X2_add a53 (0 : Int32) (1 : Int32) (0 : Int32) (5 : Int32) h52) fun h54 => some h54) else (bnd (gR h27 a0 6 7) fun a55 => bnd2 (nwO h27 2 [.int 0, .int 0, .int 0, .null, .null, .null, .null, .null, .int 0, .int 0, .int 0, .int 0]) fun a56 h57 => bnd (f_X2_init a56 h57) fun h58 => bnd (stR h58 a55 i26 a56) fun h59 => r28 (i26 + (1 : Int32)) h59)) fuel (0 : Int32) h25) else (bnd (gR h20 a0 6 5) fun a60 => bnd2 (nwO h20 2 [.int 0, .int 0, .int 0, .null, .null, .null, .null, .null, .int 0, .int 0, .int 0, .int 0]) fun a61 h62 => bnd (f_X2_init a61 h62) fun h63 => bnd (stR h63 a60 i19 a61) fun h64 => r21 (i19 + (1 : Int32)) h64)) fuel (0 : Int32) h18
set_option maxHeartbeats 4000000 in
set_option maxRecDepth 100000 in
theorem c_X6_init (l : Launch) (D : hD) (a0 : Nat) (h : Hp) (x : Hp) (e : f_X6_init a0 h = some x) : (∃ fs, gO h a0 6 = some fs) ∧ Ct l D yX6_init cX6_init 2 none 2 40 [.ref a0] h none x := by
  obtain ⟨fs, g1, g2⟩ := bnd_some e
  refine ⟨⟨fs, g1⟩, ?_⟩
  refine ct_of (out := oV) g2 (by decide +kernel) rfl (fun B C hin hl hd => ?_)
  subst hl; subst hd
  show J B _ _ h 0 [(0, .ref a0)] []
  refine j_aload_n C dX6_init_0 0 rfl rfl ?_
  refine j_objInit C wob_X6_3 wob_i wob_c rfl rfl rfl dX6_init_1 ?_
  refine j_aload_n C dX6_init_4 0 rfl rfl ?_
  refine j_sipush C (300 : Int32) dX6_init_5 (by decide) ?_
  refine j_newI C 1 rfl rfl rfl (by decide) (by intro c h; cases h) warr_byte dX6_init_8 (fun a1 h2 => ?_)
  refine j_putF C hin wff_X6_9 dX6_init_10 ⟨_, rfl⟩ (fun h3 => ?_)
  refine j_aload_n C dX6_init_13 0 rfl rfl ?_
  refine j_new (ci := 4) C (by decide) wcll_X6_13 wins_X4 wini_X4 rfl wdef_X4 dX6_init_14 (fun a4 h5 => ?_)
  refine j_dup C dX6_init_17 (fun _ => rfl) ?_
  refine j_cV (st := [.ref a4, .ref a0]) (fun x e => ⟨runsI C wml_X6_15 wce_X4_init rfl rfl rfl rfl rfl dX6_init_18, (c_X4_init (bL B) (bD B) _ _ x e).2⟩) (fun h6 => ?_)
  refine j_putF C hin wff_X6_16 dX6_init_21 ⟨_, rfl⟩ (fun h7 => ?_)
  refine j_aload_n C dX6_init_24 0 rfl rfl ?_
  refine j_new (ci := 2) C (by decide) wcll_X6_20 wins_X2 wini_X2 rfl wdef_X2 dX6_init_25 (fun a8 h9 => ?_)
  refine j_dup C dX6_init_28 (fun _ => rfl) ?_
  refine j_cV (st := [.ref a8, .ref a0]) (fun x e => ⟨runsI C wml_X6_22 wce_X2_init rfl rfl rfl rfl rfl dX6_init_29, (c_X2_init (bL B) (bD B) _ _ x e).2⟩) (fun h10 => ?_)
  refine j_putF C hin wff_X6_23 dX6_init_32 ⟨_, rfl⟩ (fun h11 => ?_)
  refine j_aload_n C dX6_init_35 0 rfl rfl ?_
  refine j_new (ci := 2) C (by decide) wcll_X6_20 wins_X2 wini_X2 rfl wdef_X2 dX6_init_36 (fun a12 h13 => ?_)
  refine j_dup C dX6_init_39 (fun _ => rfl) ?_
  refine j_cV (st := [.ref a12, .ref a0]) (fun x e => ⟨runsI C wml_X6_22 wce_X2_init rfl rfl rfl rfl rfl dX6_init_40, (c_X2_init (bL B) (bD B) _ _ x e).2⟩) (fun h14 => ?_)
  refine j_putF C hin wff_X6_27 dX6_init_43 ⟨_, rfl⟩ (fun h15 => ?_)
  refine j_aload_n C dX6_init_46 0 rfl rfl ?_
  refine j_bipush C (8 : Int32) dX6_init_47 (by decide) ?_
  refine j_newR C wcll_X6_20 dX6_init_49 (fun a16 h17 => ?_)
  refine j_putF C hin wff_X6_30 dX6_init_52 ⟨_, rfl⟩ (fun h18 => ?_)
  refine j_iconst C (0 : Int32) dX6_init_55 (by decide) ?_
  refine j_istore_n (lv' := [(1, .int (0 : Int32)), (0, .ref a0)]) C dX6_init_56 rfl rfl rfl ?_
  refine J.sub (lv' := [(0, .ref a0), (1, .int (0 : Int32))]) [1, 0] rfl ?_
  refine J.wl2 57 (fun (i19 : Int32) (h20 : Hp) => h20) (fun (i19 : Int32) (h20 : Hp) => [(0, .ref a0), (1, .int i19)]) (fun (i19 : Int32) (h20 : Hp) => []) (fun r21 hr21 i19 h20 => ?_) fuel (0 : Int32) h18
  refine j_iload_n C dX6_init_57 1 rfl rfl ?_
  refine j_bipush C (8 : Int32) dX6_init_58 (by decide) ?_
  refine j_icmp_ge C 82 dX6_init_60 (by decide) (fun c22 => ?_) (fun c22 => ?_)
  · refine j_aload_n C dX6_init_82 0 rfl rfl ?_
    refine j_iconst C (2 : Int32) dX6_init_83 (by decide) ?_
    refine j_newR C wcll_X6_20 dX6_init_84 (fun a23 h24 => ?_)
    refine j_putF C hin wff_X6_34 dX6_init_87 ⟨_, rfl⟩ (fun h25 => ?_)
    refine j_iconst C (0 : Int32) dX6_init_90 (by decide) ?_
    refine j_istore_n (lv' := [(1, .int (0 : Int32)), (0, .ref a0)]) C dX6_init_91 rfl rfl rfl ?_
    refine J.sub (lv' := [(0, .ref a0), (1, .int (0 : Int32))]) [1, 0] rfl ?_
    refine J.wl2 92 (fun (i26 : Int32) (h27 : Hp) => h27) (fun (i26 : Int32) (h27 : Hp) => [(0, .ref a0), (1, .int i26)]) (fun (i26 : Int32) (h27 : Hp) => []) (fun r28 hr28 i26 h27 => ?_) fuel (0 : Int32) h25
    refine j_iload_n C dX6_init_92 1 rfl rfl ?_
    refine j_iconst C (2 : Int32) dX6_init_93 (by decide) ?_
    refine j_icmp_ge C 116 dX6_init_94 (by decide) (fun c29 => ?_) (fun c29 => ?_)
    · refine j_aload_n C dX6_init_116 0 rfl rfl ?_
      refine j_bipush C (10 : Int32) dX6_init_117 (by decide) ?_
      refine j_newI C 0 rfl rfl rfl (by decide) (by intro c h; cases h) warr_int dX6_init_119 (fun a30 h31 => ?_)
      refine j_putF C hin wff_X6_37 dX6_init_121 ⟨_, rfl⟩ (fun h32 => ?_)
      refine j_aload_n C dX6_init_124 0 rfl rfl ?_
      refine j_new (ci := 0) C (by decide) wcll_X6_41 wins_X0 wini_X0 rfl wdef_X0 dX6_init_125 (fun a33 h34 => ?_)
      refine j_dup C dX6_init_128 (fun _ => rfl) ?_
      refine j_cV (st := [.ref a33, .ref a0]) (fun x e => ⟨runsI C wml_X6_43 wce_X0_init rfl rfl rfl rfl rfl dX6_init_129, (c_X0_init (bL B) (bD B) _ _ x e).2⟩) (fun h35 => ?_)
      refine j_putF C hin wff_X6_44 dX6_init_132 ⟨_, rfl⟩ (fun h36 => ?_)
      refine j_aload_n C dX6_init_135 0 rfl rfl ?_
      refine j_new (ci := 1) C (by decide) wcll_X6_48 wins_X1 wini_X1 rfl wdef_X1 dX6_init_136 (fun a37 h38 => ?_)
      refine j_dup C dX6_init_139 (fun _ => rfl) ?_
      refine j_cV (st := [.ref a37, .ref a0]) (fun x e => ⟨runsI C wml_X6_50 wce_X1_init rfl rfl rfl rfl rfl dX6_init_140, (c_X1_init (bL B) (bD B) _ _ x e).2⟩) (fun h39 => ?_)
      refine j_putF C hin wff_X6_51 dX6_init_143 ⟨_, rfl⟩ (fun h40 => ?_)
      refine j_aload_n C dX6_init_146 0 rfl rfl ?_
      refine j_new (ci := 3) C (by decide) wcll_X6_55 wins_X3 wini_X3 rfl wdef_X3 dX6_init_147 (fun a41 h42 => ?_)
      refine j_dup C dX6_init_150 (fun _ => rfl) ?_
      refine j_cV (st := [.ref a41, .ref a0]) (fun x e => ⟨runsI C wml_X6_57 wce_X3_init rfl rfl rfl rfl rfl dX6_init_151, (c_X3_init (bL B) (bD B) _ _ x e).2⟩) (fun h43 => ?_)
      refine j_putF C hin wff_X6_58 dX6_init_154 ⟨_, rfl⟩ (fun h44 => ?_)
      refine j_aload_n C dX6_init_157 0 rfl rfl ?_
      refine j_new (ci := 5) C (by decide) wcll_X6_62 wins_X5 wini_X5 rfl wdef_X5 dX6_init_158 (fun a45 h46 => ?_)
      refine j_dup C dX6_init_161 (fun _ => rfl) ?_
      refine j_cV (st := [.ref a45, .ref a0]) (fun x e => ⟨runsI C wml_X6_64 wce_X5_init rfl rfl rfl rfl rfl dX6_init_162, (c_X5_init (bL B) (bD B) _ _ x e).2⟩) (fun h47 => ?_)
      refine j_putF C hin wff_X6_65 dX6_init_165 ⟨_, rfl⟩ (fun h48 => ?_)
      refine j_aload_n C dX6_init_168 0 rfl rfl ?_
      refine j_getR C wfl_X6_27 dX6_init_169 (fun a49 => ?_)
      refine j_iconst C (0 : Int32) dX6_init_172 (by decide) ?_
      refine j_iconst C (2 : Int32) dX6_init_173 (by decide) ?_
      refine j_iconst C (0 : Int32) dX6_init_174 (by decide) ?_
      refine j_iconst C (0 : Int32) dX6_init_175 (by decide) ?_
      refine j_cV (st := []) (fun x e => ⟨runsV C wml_X6_69 wce_X2_add (c_X2_add (bL B) (bD B) _ _ _ _ _ _ x e).1 rfl rfl rfl rfl rfl dX6_init_176, (c_X2_add (bL B) (bD B) _ _ _ _ _ _ x e).2⟩) (fun h50 => ?_)
      refine j_aload_n C dX6_init_179 0 rfl rfl ?_
      refine j_getR C wfl_X6_27 dX6_init_180 (fun a51 => ?_)
      refine j_iconst C (1 : Int32) dX6_init_183 (by decide) ?_
      refine j_iconst C (3 : Int32) dX6_init_184 (by decide) ?_
      refine j_iconst C (1 : Int32) dX6_init_185 (by decide) ?_
      refine j_iconst C (0 : Int32) dX6_init_186 (by decide) ?_
      refine j_cV (st := []) (fun x e => ⟨runsV C wml_X6_69 wce_X2_add (c_X2_add (bL B) (bD B) _ _ _ _ _ _ x e).1 rfl rfl rfl rfl rfl dX6_init_187, (c_X2_add (bL B) (bD B) _ _ _ _ _ _ x e).2⟩) (fun h52 => ?_)
      refine j_aload_n C dX6_init_190 0 rfl rfl ?_
      refine j_getR C wfl_X6_27 dX6_init_191 (fun a53 => ?_)
      refine j_iconst C (0 : Int32) dX6_init_194 (by decide) ?_
      refine j_iconst C (1 : Int32) dX6_init_195 (by decide) ?_
      refine j_iconst C (0 : Int32) dX6_init_196 (by decide) ?_
      refine j_iconst C (5 : Int32) dX6_init_197 (by decide) ?_
      refine j_cV (st := []) (fun x e => ⟨runsV C wml_X6_69 wce_X2_add (c_X2_add (bL B) (bD B) _ _ _ _ _ _ x e).1 rfl rfl rfl rfl rfl dX6_init_198, (c_X2_add (bL B) (bD B) _ _ _ _ _ _ x e).2⟩) (fun h54 => ?_)
      exact j_vret C dX6_init_201
    · refine j_aload_n C dX6_init_97 0 rfl rfl ?_
      refine j_getR C wfl_X6_34 dX6_init_98 (fun a55 => ?_)
      refine j_iload_n C dX6_init_101 1 rfl rfl ?_
      refine j_new (ci := 2) C (by decide) wcll_X6_20 wins_X2 wini_X2 rfl wdef_X2 dX6_init_102 (fun a56 h57 => ?_)
      refine j_dup C dX6_init_105 (fun _ => rfl) ?_
      refine j_cV (st := [.ref a56, .int i26, .ref a55]) (fun x e => ⟨runsI C wml_X6_22 wce_X2_init rfl rfl rfl rfl rfl dX6_init_106, (c_X2_init (bL B) (bD B) _ _ x e).2⟩) (fun h58 => ?_)
      refine j_aastore C dX6_init_109 (fun h59 => ?_)
      refine j_iinc (lv' := [(1, .int (i26 + (1 : Int32))), (0, .ref a0)]) C (1 : Int32) dX6_init_110 1 rfl (by decide) rfl rfl ?_
      refine j_goto C 92 dX6_init_113 (by decide) ?_
      refine J.sub (lv' := [(0, .ref a0), (1, .int (i26 + (1 : Int32)))]) [1, 0] rfl ?_
      exact hr28 (i26 + (1 : Int32)) h59
  · refine j_aload_n C dX6_init_63 0 rfl rfl ?_
    refine j_getR C wfl_X6_30 dX6_init_64 (fun a60 => ?_)
    refine j_iload_n C dX6_init_67 1 rfl rfl ?_
    refine j_new (ci := 2) C (by decide) wcll_X6_20 wins_X2 wini_X2 rfl wdef_X2 dX6_init_68 (fun a61 h62 => ?_)
    refine j_dup C dX6_init_71 (fun _ => rfl) ?_
    refine j_cV (st := [.ref a61, .int i19, .ref a60]) (fun x e => ⟨runsI C wml_X6_22 wce_X2_init rfl rfl rfl rfl rfl dX6_init_72, (c_X2_init (bL B) (bD B) _ _ x e).2⟩) (fun h63 => ?_)
    refine j_aastore C dX6_init_75 (fun h64 => ?_)
    refine j_iinc (lv' := [(1, .int (i19 + (1 : Int32))), (0, .ref a0)]) C (1 : Int32) dX6_init_76 1 rfl (by decide) rfl rfl ?_
    refine j_goto C 57 dX6_init_79 (by decide) ?_
    refine J.sub (lv' := [(0, .ref a0), (1, .int (i19 + (1 : Int32)))]) [1, 0] rfl ?_
    exact hr21 (i19 + (1 : Int32)) h64
