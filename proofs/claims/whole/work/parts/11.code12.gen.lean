def f_X7_may (a0 : Nat) (p1 : Int32) (h : Hp) : Option Int32 :=
  bnd (gO h a0 7) fun _ => bnd (f_X7_isSack a0 p1 h) fun x1 => jn1 (fun (w2 : Int32) => some w2) fun k3 => if x1 = 0 then (k3 (-1 : Int32)) else (bnd (f_X7_isWaiting a0 p1 h) fun x5 => if x5 = 0 then (k3 (-2 : Int32)) else (bnd (f_X7_mayNow a0 p1 h) fun x7 => if x7 = 0 then (k3 (0 : Int32)) else (k3 (1 : Int32))))
set_option maxHeartbeats 4000000 in
set_option maxRecDepth 100000 in
theorem c_X7_may (l : Launch) (D : hD) (a0 : Nat) (p1 : Int32) (h : Hp) (x : Int32) (e : f_X7_may a0 p1 h = some x) : (∃ fs, gO h a0 7 = some fs) ∧ Ct l D yX7_may cX7_may 2 (some .int) 2 46 [.ref a0, .int p1] h (some (.int x)) h := by
  obtain ⟨fs, g1, g2⟩ := bnd_some e
  refine ⟨⟨fs, g1⟩, ?_⟩
  refine ct_of (out := (oIp h)) g2 (by decide +kernel) rfl (fun B C hin hl hd => ?_)
  subst hl; subst hd
  show J B _ _ h 0 [(0, .ref a0), (1, .int p1)] []
  refine j_aload_n C dX7_may_0 0 rfl rfl ?_
  refine j_iload_n C dX7_may_1 1 rfl rfl ?_
  refine j_cIp (st := []) (fun x e => ⟨runsV C wml_X7_118 wce_X7_isSack (c_X7_isSack (bL B) (bD B) _ _ _ x e).1 rfl rfl rfl rfl rfl dX7_may_2, (c_X7_isSack (bL B) (bD B) _ _ _ x e).2⟩) (fun x1 => ?_)
  refine J.jn1 38 (fun (w2 : Int32) => h) (fun (w2 : Int32) => []) (fun (w2 : Int32) => [.int w2]) (fun w2 => ?_) (fun k3 hk3 => ?_)
  · exact j_iretp C dX7_may_38
  refine j_if_ne C 12 dX7_may_5 (by decide) (fun c4 => ?_) (fun c4 => ?_)
  · refine j_aload_n C dX7_may_12 0 rfl rfl ?_
    refine j_iload_n C dX7_may_13 1 rfl rfl ?_
    refine j_cIp (st := []) (fun x e => ⟨runsV C wml_X7_125 wce_X7_isWaiting (c_X7_isWaiting (bL B) (bD B) _ _ _ x e).1 rfl rfl rfl rfl rfl dX7_may_14, (c_X7_isWaiting (bL B) (bD B) _ _ _ x e).2⟩) (fun x5 => ?_)
    refine j_if_ne C 25 dX7_may_17 (by decide) (fun c6 => ?_) (fun c6 => ?_)
    · refine j_aload_n C dX7_may_25 0 rfl rfl ?_
      refine j_iload_n C dX7_may_26 1 rfl rfl ?_
      refine j_cIp (st := []) (fun x e => ⟨runsV C wml_X7_128 wce_X7_mayNow (c_X7_mayNow (bL B) (bD B) _ _ _ x e).1 rfl rfl rfl rfl rfl dX7_may_27, (c_X7_mayNow (bL B) (bD B) _ _ _ x e).2⟩) (fun x7 => ?_)
      refine j_if_eq C 37 dX7_may_30 (by decide) (fun c8 => ?_) (fun c8 => ?_)
      · refine j_iconst C (0 : Int32) dX7_may_37 (by decide) ?_
        refine J.sub (lv' := []) [] rfl ?_
        exact hk3 (0 : Int32)
      · refine j_iconst C (1 : Int32) dX7_may_33 (by decide) ?_
        refine j_goto C 38 dX7_may_34 (by decide) ?_
        refine J.sub (lv' := []) [] rfl ?_
        exact hk3 (1 : Int32)
    · refine j_bipush C (-2 : Int32) dX7_may_20 (by decide) ?_
      refine j_goto C 38 dX7_may_22 (by decide) ?_
      refine J.sub (lv' := []) [] rfl ?_
      exact hk3 (-2 : Int32)
  · refine j_iconst C (-1 : Int32) dX7_may_8 (by decide) ?_
    refine j_goto C 38 dX7_may_9 (by decide) ?_
    refine J.sub (lv' := []) [] rfl ?_
    exact hk3 (-1 : Int32)
def f_X7_more (a0 : Nat) (p1 : Int32) (h : Hp) : Option (Int32 × Hp) :=
  bnd (gO h a0 7) fun _ => bnd (f_X7_isKind p1) fun x1 => if x1 = 0 then (some ((-1 : Int32), h)) else (bnd (f_X7_counts a0 h) fun h3 => bnd2 (f_X7_mostOf a0 h3) fun x4 h5 => bnd (gR h5 a0 7 17) fun a6 => bnd (ldI 0 h5 a6 p1) fun x7 => bnd (stI 0 h5 a6 p1 (x7 + (1 : Int32))) fun h8 => bnd2 (f_X7_mostOf a0 h8) fun x9 h10 => some ((x9 - x4), h10))
set_option maxHeartbeats 4000000 in
set_option maxRecDepth 100000 in
theorem c_X7_more (l : Launch) (D : hD) (a0 : Nat) (p1 : Int32) (h : Hp) (x : (Int32 × Hp)) (e : f_X7_more a0 p1 h = some x) : (∃ fs, gO h a0 7 = some fs) ∧ Ct l D yX7_more cX7_more 3 (some .int) 3 64 [.ref a0, .int p1] h (some (.int x.1)) x.2 := by
  obtain ⟨fs, g1, g2⟩ := bnd_some e
  refine ⟨⟨fs, g1⟩, ?_⟩
  refine ct_of (out := oI) g2 (by decide +kernel) rfl (fun B C hin hl hd => ?_)
  subst hl; subst hd
  show J B _ _ h 0 [(0, .ref a0), (1, .int p1)] []
  refine j_iload_n C dX7_more_0 1 rfl rfl ?_
  refine j_cIp (st := []) (fun x e => ⟨runsS C wml_X7_181 wce_X7_isKind rfl rfl rfl rfl rfl dX7_more_1, c_X7_isKind (bL B) (bD B) _ _ x e⟩) (fun x1 => ?_)
  refine j_if_ne C 9 dX7_more_4 (by decide) (fun c2 => ?_) (fun c2 => ?_)
  · refine j_aload_n C dX7_more_9 0 rfl rfl ?_
    refine j_cV (st := []) (fun x e => ⟨runsV C wml_X7_144 wce_X7_counts (c_X7_counts (bL B) (bD B) _ _ x e).1 rfl rfl rfl rfl rfl dX7_more_10, (c_X7_counts (bL B) (bD B) _ _ x e).2⟩) (fun h3 => ?_)
    refine j_aload_n C dX7_more_13 0 rfl rfl ?_
    refine j_cI (st := []) (fun x e => ⟨runsV C wml_X7_159 wce_X7_mostOf (c_X7_mostOf (bL B) (bD B) _ _ x e).1 rfl rfl rfl rfl rfl dX7_more_14, (c_X7_mostOf (bL B) (bD B) _ _ x e).2⟩) (fun x4 h5 => ?_)
    refine j_istore_n (lv' := [(2, .int x4), (0, .ref a0), (1, .int p1)]) C dX7_more_17 rfl rfl rfl ?_
    refine j_aload_n C dX7_more_18 1 rfl rfl ?_
    refine j_getR C wfl_X7_45 dX7_more_19 (fun a6 => ?_)
    refine j_iload_n C dX7_more_22 2 rfl rfl ?_
    refine j_dup2 C dX7_more_23 rfl rfl ?_
    refine j_iaload C dX7_more_24 (fun x7 => ?_)
    refine j_iconst C (1 : Int32) dX7_more_25 (by decide) ?_
    refine j_iadd C dX7_more_26 ?_
    refine j_iastore C dX7_more_27 (fun h8 => ?_)
    refine j_aload_n C dX7_more_28 1 rfl rfl ?_
    refine j_cI (st := []) (fun x e => ⟨runsV C wml_X7_159 wce_X7_mostOf (c_X7_mostOf (bL B) (bD B) _ _ x e).1 rfl rfl rfl rfl rfl dX7_more_29, (c_X7_mostOf (bL B) (bD B) _ _ x e).2⟩) (fun x9 h10 => ?_)
    refine j_iload_n C dX7_more_32 0 rfl rfl ?_
    refine j_isub C dX7_more_33 ?_
    exact j_iret C dX7_more_34
  · refine j_iconst C (-1 : Int32) dX7_more_7 (by decide) ?_
    exact j_iret C dX7_more_8
def f_X7_bits (p1 : Int32) : Option Int32 :=
  wl2 (fun r3 (i1 : Int32) (i2 : Int32) => if (10 : Int32) ≤ i2 then (some i1) else (nm (i1 + ((p1 >>> (i2 &&& 31)) &&& (1 : Int32))) fun v5 => r3 v5 (i2 + (1 : Int32)))) fuel (0 : Int32) (0 : Int32)
set_option maxHeartbeats 4000000 in
set_option maxRecDepth 100000 in
theorem c_X7_bits (l : Launch) (D : hD) (p1 : Int32) (h : Hp) (x : Int32) (e : f_X7_bits p1 = some x) : Ct l D yX7_bits cX7_bits 3 (some .int) 0 0 [.int p1] h (some (.int x)) h := by
  unfold f_X7_bits at e
  refine ct_of (out := (oIp h)) e (by decide +kernel) rfl (fun B C hin hl hd => ?_)
  subst hl; subst hd
  show J B _ _ h 0 [(0, .int p1)] []
  refine j_iconst C (0 : Int32) dX7_bits_0 (by decide) ?_
  refine j_istore_n (lv' := [(1, .int (0 : Int32)), (0, .int p1)]) C dX7_bits_1 rfl rfl rfl ?_
  refine j_iconst C (0 : Int32) dX7_bits_2 (by decide) ?_
  refine j_istore_n (lv' := [(2, .int (0 : Int32)), (1, .int (0 : Int32)), (0, .int p1)]) C dX7_bits_3 rfl rfl rfl ?_
  refine J.sub (lv' := [(0, .int p1), (1, .int (0 : Int32)), (2, .int (0 : Int32))]) [2, 1, 0] rfl ?_
  refine J.wl2 4 (fun (i1 : Int32) (i2 : Int32) => h) (fun (i1 : Int32) (i2 : Int32) => [(0, .int p1), (1, .int i1), (2, .int i2)]) (fun (i1 : Int32) (i2 : Int32) => []) (fun r3 hr3 i1 i2 => ?_) fuel (0 : Int32) (0 : Int32)
  refine j_iload_n C dX7_bits_4 2 rfl rfl ?_
  refine j_bipush C (10 : Int32) dX7_bits_5 (by decide) ?_
  refine j_icmp_ge C 24 dX7_bits_7 (by decide) (fun c4 => ?_) (fun c4 => ?_)
  · refine j_iload_n C dX7_bits_24 1 rfl rfl ?_
    exact j_iretp C dX7_bits_25
  · refine j_iload_n C dX7_bits_10 1 rfl rfl ?_
    refine j_iload_n C dX7_bits_11 0 rfl rfl ?_
    refine j_iload_n C dX7_bits_12 2 rfl rfl ?_
    refine j_ishr C dX7_bits_13 ?_
    refine j_iconst C (1 : Int32) dX7_bits_14 (by decide) ?_
    refine j_iand C dX7_bits_15 ?_
    refine j_iadd C dX7_bits_16 ?_
    refine j_nmI (fun v5 => ?_)
    refine j_istore_n (lv' := [(1, .int v5), (0, .int p1), (2, .int i2)]) C dX7_bits_17 rfl rfl rfl ?_
    refine j_iinc (lv' := [(2, .int (i2 + (1 : Int32))), (1, .int v5), (0, .int p1)]) C (1 : Int32) dX7_bits_18 2 rfl (by decide) rfl rfl ?_
    refine j_goto C 4 dX7_bits_21 (by decide) ?_
    refine J.sub (lv' := [(0, .int p1), (1, .int v5), (2, .int (i2 + (1 : Int32)))]) [2, 1, 0] rfl ?_
    exact hr3 v5 (i2 + (1 : Int32))
def f_X7_ends (a0 : Nat) (p1 : Int32) (p2 : Int32) (h : Hp) : Option Int32 :=
  bnd (gO h a0 7) fun _ => bnd (f_X7_of a0 p2 (3 : Int32) h) fun x1 => jn1 (fun (w2 : Int32) => bnd (f_X7_of a0 p2 (1 : Int32) h) fun x4 => some (w2 + x4)) fun k3 => if p1 ≤ x1 then (bnd (f_X7_of a0 p2 (3 : Int32) h) fun x6 => k3 x6) else (k3 p1)
set_option maxHeartbeats 4000000 in
set_option maxRecDepth 100000 in
theorem c_X7_ends (l : Launch) (D : hD) (a0 : Nat) (p1 : Int32) (p2 : Int32) (h : Hp) (x : Int32) (e : f_X7_ends a0 p1 p2 h = some x) : (∃ fs, gO h a0 7 = some fs) ∧ Ct l D yX7_ends cX7_ends 3 (some .int) 1 22 [.ref a0, .int p1, .int p2] h (some (.int x)) h := by
  obtain ⟨fs, g1, g2⟩ := bnd_some e
  refine ⟨⟨fs, g1⟩, ?_⟩
  refine ct_of (out := (oIp h)) g2 (by decide +kernel) rfl (fun B C hin hl hd => ?_)
  subst hl; subst hd
  show J B _ _ h 0 [(0, .ref a0), (1, .int p1), (2, .int p2)] []
  refine j_iload_n C dX7_ends_0 1 rfl rfl ?_
  refine j_aload_n C dX7_ends_1 0 rfl rfl ?_
  refine j_iload_n C dX7_ends_2 2 rfl rfl ?_
  refine j_iconst C (3 : Int32) dX7_ends_3 (by decide) ?_
  refine j_cIp (st := [.int p1]) (fun x e => ⟨runsV C wml_X7_114 wce_X7_of (c_X7_of (bL B) (bD B) _ _ _ _ x e).1 rfl rfl rfl rfl rfl dX7_ends_4, (c_X7_of (bL B) (bD B) _ _ _ _ x e).2⟩) (fun x1 => ?_)
  refine J.jn1 20 (fun (w2 : Int32) => h) (fun (w2 : Int32) => [(0, .ref a0), (2, .int p2)]) (fun (w2 : Int32) => [.int w2]) (fun w2 => ?_) (fun k3 hk3 => ?_)
  · refine j_aload_n C dX7_ends_20 0 rfl rfl ?_
    refine j_iload_n C dX7_ends_21 1 rfl rfl ?_
    refine j_iconst C (1 : Int32) dX7_ends_22 (by decide) ?_
    refine j_cIp (st := [.int w2]) (fun x e => ⟨runsV C wml_X7_114 wce_X7_of (c_X7_of (bL B) (bD B) _ _ _ _ x e).1 rfl rfl rfl rfl rfl dX7_ends_23, (c_X7_of (bL B) (bD B) _ _ _ _ x e).2⟩) (fun x4 => ?_)
    refine j_iadd C dX7_ends_26 ?_
    exact j_iretp C dX7_ends_27
  refine j_icmp_le C 14 dX7_ends_7 (by decide) (fun c5 => ?_) (fun c5 => ?_)
  · refine j_aload_n C dX7_ends_14 0 rfl rfl ?_
    refine j_iload_n C dX7_ends_15 2 rfl rfl ?_
    refine j_iconst C (3 : Int32) dX7_ends_16 (by decide) ?_
    refine j_cIp (st := []) (fun x e => ⟨runsV C wml_X7_114 wce_X7_of (c_X7_of (bL B) (bD B) _ _ _ _ x e).1 rfl rfl rfl rfl rfl dX7_ends_17, (c_X7_of (bL B) (bD B) _ _ _ _ x e).2⟩) (fun x6 => ?_)
    refine J.sub (lv' := [(0, .ref a0), (2, .int p2)]) [0, 2] rfl ?_
    exact hk3 x6
  · refine j_iload_n C dX7_ends_10 1 rfl rfl ?_
    refine j_goto C 20 dX7_ends_11 (by decide) ?_
    refine J.sub (lv' := [(0, .ref a0), (2, .int p2)]) [0, 2] rfl ?_
    exact hk3 p1
def f_X7_earliest (a0 : Nat) (p1 : Int32) (p2 : Int32) (p3 : Int32) (h : Hp) : Option Hp :=
  bnd (gO h a0 7) fun _ => bnd (gR h a0 7 6) fun a1 => bnd (ldI 0 h a1 (50 : Int32)) fun x2 => nm ((1 : Int32) <<< (x2 &&& 31)) fun v3 => wl2 (fun r6 (i4 : Int32) (h5 : Hp) => if ((36 : Int32) * v3) ≤ i4 then (bnd (gR h5 a0 7 11) fun a8 => bnd (stI 0 h5 a8 (((6 : Int32) * p2) + p3) p1) fun h9 => wl2 (fun r12 (i10 : Int32) (h11 : Hp) => if ((36 : Int32) * v3) ≤ i10 then (some h11) else (if (36 : Int32) = 0 then none else nm (i10 / (36 : Int32)) fun v14 => if (36 : Int32) = 0 then none else if (6 : Int32) = 0 then none else nm ((i10 - i10 / (36 : Int32) * (36 : Int32)) / (6 : Int32)) fun v15 => wl2 (fun r18 (i16 : Int32) (h17 : Hp) => bnd (gR h17 a0 7 6) fun a19 => bnd (ldI 0 h17 a19 (50 : Int32)) fun x20 => jn0 (r12 (i10 + (1 : Int32)) h17) fun k21 => if x20 ≤ i16 then k21 else (bnd (gR h17 a0 7 11) fun a23 => bnd (ldI 0 h17 a23 i10) fun x24 => if (1000000 : Int32) ≤ x24 then k21 else (jn1 (fun (h26 : Hp) => r18 (i16 + (1 : Int32)) h26) fun k27 => if ((v14 >>> (i16 &&& 31)) &&& (1 : Int32)) = 0 then (bnd (f_X7_isWaiting a0 i16 h17) fun x29 => if x29 = 0 then (k27 h17) else (bnd (f_X7_of a0 i16 (0 : Int32) h17) fun x31 => if (6 : Int32) = 0 then none else bnd (f_X7_isMixed a0 x31 v15 (i10 - i10 / (6 : Int32) * (6 : Int32)) h17) fun x32 => if x32 = 0 then (k27 h17) else (bnd (f_X7_of a0 i16 (0 : Int32) h17) fun x34 => nm ((((36 : Int32) * (v14 ||| ((1 : Int32) <<< (i16 &&& 31)))) + ((6 : Int32) * x34)) + v15) fun v35 => bnd (gR h17 a0 7 11) fun a36 => bnd (ldI 0 h17 a36 i10) fun x37 => bnd (f_X7_ends a0 x37 i16 h17) fun x38 => bnd (gR h17 a0 7 11) fun a39 => bnd (gR h17 a0 7 11) fun a40 => bnd (ldI 0 h17 a40 v35) fun x41 => jn1 (fun (w42 : Int32) => bnd (stI 0 h17 a39 v35 w42) fun h44 => k27 h44) fun k43 => if x41 ≤ x38 then (bnd (gR h17 a0 7 11) fun a46 => bnd (ldI 0 h17 a46 v35) fun x47 => k43 x47) else (k43 x38)))) else (k27 h17)))) fuel (0 : Int32) h11)) fuel (0 : Int32) h9) else (bnd (gR h5 a0 7 11) fun a48 => bnd (stI 0 h5 a48 i4 (1000000 : Int32)) fun h49 => r6 (i4 + (1 : Int32)) h49)) fuel (0 : Int32) h
set_option maxHeartbeats 4000000 in
set_option maxRecDepth 100000 in
theorem c_X7_earliest (l : Launch) (D : hD) (a0 : Nat) (p1 : Int32) (p2 : Int32) (p3 : Int32) (h : Hp) (x : Hp) (e : f_X7_earliest a0 p1 p2 p3 h = some x) : (∃ fs, gO h a0 7 = some fs) ∧ Ct l D yX7_earliest cX7_earliest 11 none 2 44 [.ref a0, .int p1, .int p2, .int p3] h none x := by
  obtain ⟨fs, g1, g2⟩ := bnd_some e
  refine ⟨⟨fs, g1⟩, ?_⟩
  refine ct_of (out := oV) g2 (by decide +kernel) rfl (fun B C hin hl hd => ?_)
  subst hl; subst hd
  show J B _ _ h 0 [(0, .ref a0), (1, .int p1), (2, .int p2), (3, .int p3)] []
  refine j_iconst C (1 : Int32) dX7_earliest_0 (by decide) ?_
  refine j_aload_n C dX7_earliest_1 0 rfl rfl ?_
  refine j_getR C wfl_X7_23 dX7_earliest_2 (fun a1 => ?_)
  refine j_bipush C (50 : Int32) dX7_earliest_5 (by decide) ?_
  refine j_iaload C dX7_earliest_7 (fun x2 => ?_)
  refine j_ishl C dX7_earliest_8 ?_
  refine j_nmI (fun v3 => ?_)
  refine j_istore (lv' := [(4, .int v3), (0, .ref a0), (1, .int p1), (2, .int p2), (3, .int p3)]) C dX7_earliest_9 rfl rfl ?_
  refine j_iconst C (0 : Int32) dX7_earliest_11 (by decide) ?_
  refine j_istore (lv' := [(5, .int (0 : Int32)), (4, .int v3), (0, .ref a0), (1, .int p1), (2, .int p2), (3, .int p3)]) C dX7_earliest_12 rfl rfl ?_
  refine J.sub (lv' := [(0, .ref a0), (1, .int p1), (2, .int p2), (3, .int p3), (4, .int v3), (5, .int (0 : Int32))]) [2, 3, 4, 5, 1, 0] rfl ?_
  refine J.wl2 14 (fun (i4 : Int32) (h5 : Hp) => h5) (fun (i4 : Int32) (h5 : Hp) => [(0, .ref a0), (1, .int p1), (2, .int p2), (3, .int p3), (4, .int v3), (5, .int i4)]) (fun (i4 : Int32) (h5 : Hp) => []) (fun r6 hr6 i4 h5 => ?_) fuel (0 : Int32) h
  refine j_iload C dX7_earliest_14 5 rfl ?_
  refine j_bipush C (36 : Int32) dX7_earliest_16 (by decide) ?_
  refine j_iload C dX7_earliest_18 4 rfl ?_
  refine j_imul C dX7_earliest_20 ?_
  refine j_icmp_ge C 39 dX7_earliest_21 (by decide) (fun c7 => ?_) (fun c7 => ?_)
  · refine j_aload_n C dX7_earliest_39 0 rfl rfl ?_
    refine j_getR C wfl_X7_30 dX7_earliest_40 (fun a8 => ?_)
    refine j_bipush C (6 : Int32) dX7_earliest_43 (by decide) ?_
    refine j_iload_n C dX7_earliest_45 2 rfl rfl ?_
    refine j_imul C dX7_earliest_46 ?_
    refine j_iload_n C dX7_earliest_47 3 rfl rfl ?_
    refine j_iadd C dX7_earliest_48 ?_
    refine j_iload_n C dX7_earliest_49 1 rfl rfl ?_
    refine j_iastore C dX7_earliest_50 (fun h9 => ?_)
    refine j_iconst C (0 : Int32) dX7_earliest_51 (by decide) ?_
    refine j_istore (lv' := [(5, .int (0 : Int32)), (0, .ref a0), (1, .int p1), (2, .int p2), (3, .int p3), (4, .int v3)]) C dX7_earliest_52 rfl rfl ?_
    refine J.sub (lv' := [(0, .ref a0), (4, .int v3), (5, .int (0 : Int32))]) [1, 5, 0] rfl ?_
    refine J.wl2 54 (fun (i10 : Int32) (h11 : Hp) => h11) (fun (i10 : Int32) (h11 : Hp) => [(0, .ref a0), (4, .int v3), (5, .int i10)]) (fun (i10 : Int32) (h11 : Hp) => []) (fun r12 hr12 i10 h11 => ?_) fuel (0 : Int32) h9
    refine j_iload C dX7_earliest_54 2 rfl ?_
    refine j_bipush C (36 : Int32) dX7_earliest_56 (by decide) ?_
    refine j_iload C dX7_earliest_58 1 rfl ?_
    refine j_imul C dX7_earliest_60 ?_
    refine j_icmp_ge C 232 dX7_earliest_61 (by decide) (fun c13 => ?_) (fun c13 => ?_)
    · exact j_vret C dX7_earliest_232
    · refine j_iload C dX7_earliest_64 2 rfl ?_
      refine j_bipush C (36 : Int32) dX7_earliest_66 (by decide) ?_
      refine j_idiv C dX7_earliest_68 ?_
      refine j_nmI (fun v14 => ?_)
      refine j_istore (lv' := [(6, .int v14), (0, .ref a0), (4, .int v3), (5, .int i10)]) C dX7_earliest_69 rfl rfl ?_
      refine j_iload C dX7_earliest_71 3 rfl ?_
      refine j_bipush C (36 : Int32) dX7_earliest_73 (by decide) ?_
      refine j_irem C dX7_earliest_75 ?_
      refine j_bipush C (6 : Int32) dX7_earliest_76 (by decide) ?_
      refine j_idiv C dX7_earliest_78 ?_
      refine j_nmI (fun v15 => ?_)
      refine j_istore (lv' := [(7, .int v15), (6, .int v14), (0, .ref a0), (4, .int v3), (5, .int i10)]) C dX7_earliest_79 rfl rfl ?_
      refine j_iconst C (0 : Int32) dX7_earliest_81 (by decide) ?_
      refine j_istore (lv' := [(8, .int (0 : Int32)), (7, .int v15), (6, .int v14), (0, .ref a0), (4, .int v3), (5, .int i10)]) C dX7_earliest_82 rfl rfl ?_
      refine J.sub (lv' := [(0, .ref a0), (4, .int v3), (5, .int i10), (6, .int v14), (7, .int v15), (8, .int (0 : Int32))]) [3, 4, 5, 2, 1, 0] rfl ?_
      refine J.wl2 84 (fun (i16 : Int32) (h17 : Hp) => h17) (fun (i16 : Int32) (h17 : Hp) => [(0, .ref a0), (4, .int v3), (5, .int i10), (6, .int v14), (7, .int v15), (8, .int i16)]) (fun (i16 : Int32) (h17 : Hp) => []) (fun r18 hr18 i16 h17 => ?_) fuel (0 : Int32) h11
      refine j_iload C dX7_earliest_84 5 rfl ?_
      refine j_aload_n C dX7_earliest_86 0 rfl rfl ?_
      refine j_getR C wfl_X7_23 dX7_earliest_87 (fun a19 => ?_)
      refine j_bipush C (50 : Int32) dX7_earliest_90 (by decide) ?_
      refine j_iaload C dX7_earliest_92 (fun x20 => ?_)
      refine J.jn0 (h0 := h17) (lv0 := [(0, .ref a0), (4, .int v3), (5, .int i10)]) (st0 := []) 226 ?_ (fun k21 hk21 => ?_)
      · refine j_iinc (lv' := [(5, .int (i10 + (1 : Int32))), (0, .ref a0), (4, .int v3)]) C (1 : Int32) dX7_earliest_226 2 rfl (by decide) rfl rfl ?_
        refine j_goto C 54 dX7_earliest_229 (by decide) ?_
        refine J.sub (lv' := [(0, .ref a0), (4, .int v3), (5, .int (i10 + (1 : Int32)))]) [1, 2, 0] rfl ?_
        exact hr12 (i10 + (1 : Int32)) h17
      refine j_icmp_ge C 226 dX7_earliest_93 (by decide) (fun c22 => ?_) (fun c22 => ?_)
      · refine J.sub (lv' := [(0, .ref a0), (4, .int v3), (5, .int i10)]) [0, 1, 2] rfl ?_
        exact hk21
      · refine j_aload_n C dX7_earliest_96 0 rfl rfl ?_
        refine j_getR C wfl_X7_30 dX7_earliest_97 (fun a23 => ?_)
        refine j_iload C dX7_earliest_100 2 rfl ?_
        refine j_iaload C dX7_earliest_102 (fun x24 => ?_)
        refine j_ldc C dX7_earliest_103 wco_X7_158 ?_
        refine j_icmp_ge C 226 dX7_earliest_105 (by decide) (fun c25 => ?_) (fun c25 => ?_)
        · refine J.sub (lv' := [(0, .ref a0), (4, .int v3), (5, .int i10)]) [0, 1, 2] rfl ?_
          exact hk21
        · refine j_iload C dX7_earliest_108 3 rfl ?_
          refine j_iload C dX7_earliest_110 5 rfl ?_
          refine j_ishr C dX7_earliest_112 ?_
          refine j_iconst C (1 : Int32) dX7_earliest_113 (by decide) ?_
          refine j_iand C dX7_earliest_114 ?_
          refine J.jn1 220 (fun (h26 : Hp) => h26) (fun (h26 : Hp) => [(0, .ref a0), (4, .int v3), (5, .int i10), (6, .int v14), (7, .int v15), (8, .int i16)]) (fun (h26 : Hp) => []) (fun h26 => ?_) (fun k27 hk27 => ?_)
          · refine j_iinc (lv' := [(8, .int (i16 + (1 : Int32))), (0, .ref a0), (4, .int v3), (5, .int i10), (6, .int v14), (7, .int v15)]) C (1 : Int32) dX7_earliest_220 5 rfl (by decide) rfl rfl ?_
            refine j_goto C 84 dX7_earliest_223 (by decide) ?_
            refine J.sub (lv' := [(0, .ref a0), (4, .int v3), (5, .int i10), (6, .int v14), (7, .int v15), (8, .int (i16 + (1 : Int32)))]) [1, 2, 3, 4, 5, 0] rfl ?_
            exact hr18 (i16 + (1 : Int32)) h26
          refine j_if_ne C 220 dX7_earliest_115 (by decide) (fun c28 => ?_) (fun c28 => ?_)
          · exact hk27 h17
          · refine j_aload_n C dX7_earliest_118 0 rfl rfl ?_
            refine j_iload C dX7_earliest_119 5 rfl ?_
            refine j_cIp (st := []) (fun x e => ⟨runsV C wml_X7_125 wce_X7_isWaiting (c_X7_isWaiting (bL B) (bD B) _ _ _ x e).1 rfl rfl rfl rfl rfl dX7_earliest_121, (c_X7_isWaiting (bL B) (bD B) _ _ _ x e).2⟩) (fun x29 => ?_)
            refine j_if_eq C 220 dX7_earliest_124 (by decide) (fun c30 => ?_) (fun c30 => ?_)
            · exact hk27 h17
            · refine j_aload_n C dX7_earliest_127 0 rfl rfl ?_
              refine j_aload_n C dX7_earliest_128 0 rfl rfl ?_
              refine j_iload C dX7_earliest_129 5 rfl ?_
              refine j_iconst C (0 : Int32) dX7_earliest_131 (by decide) ?_
              refine j_cIp (st := [.ref a0]) (fun x e => ⟨runsV C wml_X7_114 wce_X7_of (c_X7_of (bL B) (bD B) _ _ _ _ x e).1 rfl rfl rfl rfl rfl dX7_earliest_132, (c_X7_of (bL B) (bD B) _ _ _ _ x e).2⟩) (fun x31 => ?_)
              refine j_iload C dX7_earliest_135 4 rfl ?_
              refine j_iload C dX7_earliest_137 2 rfl ?_
              refine j_bipush C (6 : Int32) dX7_earliest_139 (by decide) ?_
              refine j_irem C dX7_earliest_141 ?_
              refine j_cIp (st := []) (fun x e => ⟨runsV C wml_X7_121 wce_X7_isMixed (c_X7_isMixed (bL B) (bD B) _ _ _ _ _ x e).1 rfl rfl rfl rfl rfl dX7_earliest_142, (c_X7_isMixed (bL B) (bD B) _ _ _ _ _ x e).2⟩) (fun x32 => ?_)
              refine j_if_eq C 220 dX7_earliest_145 (by decide) (fun c33 => ?_) (fun c33 => ?_)
              · exact hk27 h17
              · refine j_bipush C (36 : Int32) dX7_earliest_148 (by decide) ?_
                refine j_iload C dX7_earliest_150 3 rfl ?_
                refine j_iconst C (1 : Int32) dX7_earliest_152 (by decide) ?_
                refine j_iload C dX7_earliest_153 5 rfl ?_
                refine j_ishl C dX7_earliest_155 ?_
                refine j_ior C dX7_earliest_156 ?_
                refine j_imul C dX7_earliest_157 ?_
                refine j_bipush C (6 : Int32) dX7_earliest_158 (by decide) ?_
                refine j_aload_n C dX7_earliest_160 0 rfl rfl ?_
                refine j_iload C dX7_earliest_161 5 rfl ?_
                refine j_iconst C (0 : Int32) dX7_earliest_163 (by decide) ?_
                refine j_cIp (st := [.int (6 : Int32), .int ((36 : Int32) * (v14 ||| ((1 : Int32) <<< (i16 &&& 31))))]) (fun x e => ⟨runsV C wml_X7_114 wce_X7_of (c_X7_of (bL B) (bD B) _ _ _ _ x e).1 rfl rfl rfl rfl rfl dX7_earliest_164, (c_X7_of (bL B) (bD B) _ _ _ _ x e).2⟩) (fun x34 => ?_)
                refine j_imul C dX7_earliest_167 ?_
                refine j_iadd C dX7_earliest_168 ?_
                refine j_iload C dX7_earliest_169 4 rfl ?_
                refine j_iadd C dX7_earliest_171 ?_
                refine j_nmI (fun v35 => ?_)
                refine j_istore (lv' := [(9, .int v35), (0, .ref a0), (4, .int v3), (5, .int i10), (6, .int v14), (7, .int v15), (8, .int i16)]) C dX7_earliest_172 rfl rfl ?_
                refine j_aload_n C dX7_earliest_174 1 rfl rfl ?_
                refine j_aload_n C dX7_earliest_175 1 rfl rfl ?_
                refine j_getR C wfl_X7_30 dX7_earliest_176 (fun a36 => ?_)
                refine j_iload C dX7_earliest_179 3 rfl ?_
                refine j_iaload C dX7_earliest_181 (fun x37 => ?_)
                refine j_iload C dX7_earliest_182 6 rfl ?_
                refine j_cIp (st := []) (fun x e => ⟨runsV C wml_X7_138 wce_X7_ends (c_X7_ends (bL B) (bD B) _ _ _ _ x e).1 rfl rfl rfl rfl rfl dX7_earliest_184, (c_X7_ends (bL B) (bD B) _ _ _ _ x e).2⟩) (fun x38 => ?_)
                refine j_istore (lv' := [(10, .int x38), (9, .int v35), (0, .ref a0), (4, .int v3), (5, .int i10), (6, .int v14), (7, .int v15), (8, .int i16)]) C dX7_earliest_187 rfl rfl ?_
                refine j_aload_n C dX7_earliest_189 2 rfl rfl ?_
                refine j_getR C wfl_X7_30 dX7_earliest_190 (fun a39 => ?_)
                refine j_iload C dX7_earliest_193 1 rfl ?_
                refine j_iload C dX7_earliest_195 0 rfl ?_
                refine j_aload_n C dX7_earliest_197 2 rfl rfl ?_
                refine j_getR C wfl_X7_30 dX7_earliest_198 (fun a40 => ?_)
                refine j_iload C dX7_earliest_201 1 rfl ?_
                refine j_iaload C dX7_earliest_203 (fun x41 => ?_)
                refine J.jn1 219 (fun (w42 : Int32) => h17) (fun (w42 : Int32) => [(0, .ref a0), (4, .int v3), (5, .int i10), (6, .int v14), (7, .int v15), (8, .int i16)]) (fun (w42 : Int32) => [.int w42, .int v35, .ref a39]) (fun w42 => ?_) (fun k43 hk43 => ?_)
                · refine j_iastore C dX7_earliest_219 (fun h44 => ?_)
                  exact hk27 h44
                refine j_icmp_ge C 212 dX7_earliest_204 (by decide) (fun c45 => ?_) (fun c45 => ?_)
                · refine j_aload_n C dX7_earliest_212 2 rfl rfl ?_
                  refine j_getR C wfl_X7_30 dX7_earliest_213 (fun a46 => ?_)
                  refine j_iload C dX7_earliest_216 1 rfl ?_
                  refine j_iaload C dX7_earliest_218 (fun x47 => ?_)
                  refine J.sub (lv' := [(0, .ref a0), (4, .int v3), (5, .int i10), (6, .int v14), (7, .int v15), (8, .int i16)]) [2, 3, 4, 5, 6, 7] rfl ?_
                  exact hk43 x47
                · refine j_iload C dX7_earliest_207 0 rfl ?_
                  refine j_goto C 219 dX7_earliest_209 (by decide) ?_
                  refine J.sub (lv' := [(0, .ref a0), (4, .int v3), (5, .int i10), (6, .int v14), (7, .int v15), (8, .int i16)]) [2, 3, 4, 5, 6, 7] rfl ?_
                  exact hk43 x38
  · refine j_aload_n C dX7_earliest_24 0 rfl rfl ?_
    refine j_getR C wfl_X7_30 dX7_earliest_25 (fun a48 => ?_)
    refine j_iload C dX7_earliest_28 5 rfl ?_
    refine j_ldc C dX7_earliest_30 wco_X7_158 ?_
    refine j_iastore C dX7_earliest_32 (fun h49 => ?_)
    refine j_iinc (lv' := [(5, .int (i4 + (1 : Int32))), (0, .ref a0), (1, .int p1), (2, .int p2), (3, .int p3), (4, .int v3)]) C (1 : Int32) dX7_earliest_33 5 rfl (by decide) rfl rfl ?_
    refine j_goto C 14 dX7_earliest_36 (by decide) ?_
    refine J.sub (lv' := [(0, .ref a0), (1, .int p1), (2, .int p2), (3, .int p3), (4, .int v3), (5, .int (i4 + (1 : Int32)))]) [1, 2, 3, 4, 5, 0] rfl ?_
    exact hr6 (i4 + (1 : Int32)) h49
def f_X7_firstMost (a0 : Nat) (h : Hp) : Option Hp :=
  bnd (gO h a0 7) fun _ => bnd (f_X7_counts a0 h) fun h1 => bnd2 (f_X7_mostOf a0 h1) fun x2 h3 => bnd (pF h3 a0 7 15 (.int x2)) fun h4 => bnd (gR h4 a0 7 6) fun a5 => bnd (ldI 0 h4 a5 (52 : Int32)) fun x6 => bnd (gR h4 a0 7 6) fun a7 => bnd (ldI 0 h4 a7 (53 : Int32)) fun x8 => bnd (f_X7_size a0 h4) fun x9 => nm (x9 - (1 : Int32)) fun v10 => wl6 (fun r17 (i11 : Int32) (i12 : Int32) (i13 : Int32) (i14 : Int32) (i15 : Int32) (h16 : Hp) => bnd (gI h16 a0 7 15) fun x18 => if x18 ≤ i15 then (some h16) else (bnd (gR h16 a0 7 6) fun a20 => bnd (ldI 0 h16 a20 (50 : Int32)) fun x21 => nm (x21 - (1 : Int32)) fun v22 => wl2 (fun r25 (i23 : Int32) (i24 : Int32) => if i24 < 0 then (bnd (gR h16 a0 7 14) fun a27 => bnd (stI 0 h16 a27 i15 i23) fun h28 => nm (i14 ||| ((1 : Int32) <<< (i23 &&& 31))) fun v29 => bnd (f_X7_of a0 i23 (0 : Int32) h28) fun x30 => bnd (f_X7_step a0 x30 h28) fun x31 => nm (i13 - x31) fun v32 => r17 x30 i11 v32 v29 (i15 + (1 : Int32)) h28) else (bnd (f_X7_of a0 i24 (0 : Int32) h16) fun x33 => bnd (f_X7_isWaiting a0 i24 h16) fun x34 => jn1 (fun (w35 : Int32) => jn1 (fun (w37 : Int32) => r25 w37 (i24 + (-1 : Int32))) fun k38 => jn0 (k38 i23) fun k39 => if w35 = 0 then k39 else (bnd (gR h16 a0 7 21) fun a41 => bnd (f_X7_step a0 x33 h16) fun x42 => bnd (ldL h16 a41 ((((36 : Int32) * (i13 - x42)) + ((6 : Int32) * x33)) + i11)) fun y43 => bnd (gI h16 a0 7 15) fun x44 => if (lg_cmp y43 ((x44 - i15) - (1 : Int32)).toInt64) = 0 then (k38 i24) else k39)) fun k36 => jn0 (k36 (0 : Int32)) fun k46 => if x34 = 0 then k46 else (if ((i14 >>> (i24 &&& 31)) &&& (1 : Int32)) = 0 then (bnd (f_X7_isMixed a0 x33 i11 i12 h16) fun x49 => if x49 = 0 then k46 else (k36 (1 : Int32))) else k46))) fuel (-1 : Int32) v22)) fuel x6 x8 v10 (0 : Int32) (0 : Int32) h4
set_option maxHeartbeats 4000000 in
set_option maxRecDepth 100000 in
theorem c_X7_firstMost (l : Launch) (D : hD) (a0 : Nat) (h : Hp) (x : Hp) (e : f_X7_firstMost a0 h = some x) : (∃ fs, gO h a0 7 = some fs) ∧ Ct l D yX7_firstMost cX7_firstMost 10 none 3 64 [.ref a0] h none x := by
  obtain ⟨fs, g1, g2⟩ := bnd_some e
  refine ⟨⟨fs, g1⟩, ?_⟩
  refine ct_of (out := oV) g2 (by decide +kernel) rfl (fun B C hin hl hd => ?_)
  subst hl; subst hd
  show J B _ _ h 0 [(0, .ref a0)] []
  refine j_aload_n C dX7_firstMost_0 0 rfl rfl ?_
  refine j_cV (st := []) (fun x e => ⟨runsV C wml_X7_144 wce_X7_counts (c_X7_counts (bL B) (bD B) _ _ x e).1 rfl rfl rfl rfl rfl dX7_firstMost_1, (c_X7_counts (bL B) (bD B) _ _ x e).2⟩) (fun h1 => ?_)
  refine j_aload_n C dX7_firstMost_4 0 rfl rfl ?_
  refine j_aload_n C dX7_firstMost_5 0 rfl rfl ?_
  refine j_cI (st := [.ref a0]) (fun x e => ⟨runsV C wml_X7_159 wce_X7_mostOf (c_X7_mostOf (bL B) (bD B) _ _ x e).1 rfl rfl rfl rfl rfl dX7_firstMost_6, (c_X7_mostOf (bL B) (bD B) _ _ x e).2⟩) (fun x2 h3 => ?_)
  refine j_put C wfp_X7_162 dX7_firstMost_9 ⟨_, rfl⟩ (fun h4 => ?_)
  refine j_aload_n C dX7_firstMost_12 0 rfl rfl ?_
  refine j_getR C wfl_X7_23 dX7_firstMost_13 (fun a5 => ?_)
  refine j_bipush C (52 : Int32) dX7_firstMost_16 (by decide) ?_
  refine j_iaload C dX7_firstMost_18 (fun x6 => ?_)
  refine j_istore_n (lv' := [(1, .int x6), (0, .ref a0)]) C dX7_firstMost_19 rfl rfl rfl ?_
  refine j_aload_n C dX7_firstMost_20 1 rfl rfl ?_
  refine j_getR C wfl_X7_23 dX7_firstMost_21 (fun a7 => ?_)
  refine j_bipush C (53 : Int32) dX7_firstMost_24 (by decide) ?_
  refine j_iaload C dX7_firstMost_26 (fun x8 => ?_)
  refine j_istore_n (lv' := [(2, .int x8), (1, .int x6), (0, .ref a0)]) C dX7_firstMost_27 rfl rfl rfl ?_
  refine j_aload_n C dX7_firstMost_28 2 rfl rfl ?_
  refine j_cIp (st := []) (fun x e => ⟨runsV C wml_X7_147 wce_X7_size (c_X7_size (bL B) (bD B) _ _ x e).1 rfl rfl rfl rfl rfl dX7_firstMost_29, (c_X7_size (bL B) (bD B) _ _ x e).2⟩) (fun x9 => ?_)
  refine j_iconst C (1 : Int32) dX7_firstMost_32 (by decide) ?_
  refine j_isub C dX7_firstMost_33 ?_
  refine j_nmI (fun v10 => ?_)
  refine j_istore_n (lv' := [(3, .int v10), (2, .int x8), (1, .int x6), (0, .ref a0)]) C dX7_firstMost_34 rfl rfl rfl ?_
  refine j_iconst C (0 : Int32) dX7_firstMost_35 (by decide) ?_
  refine j_istore (lv' := [(4, .int (0 : Int32)), (3, .int v10), (2, .int x8), (1, .int x6), (0, .ref a0)]) C dX7_firstMost_36 rfl rfl ?_
  refine j_iconst C (0 : Int32) dX7_firstMost_38 (by decide) ?_
  refine j_istore (lv' := [(5, .int (0 : Int32)), (4, .int (0 : Int32)), (3, .int v10), (2, .int x8), (1, .int x6), (0, .ref a0)]) C dX7_firstMost_39 rfl rfl ?_
  refine J.sub (lv' := [(0, .ref a0), (1, .int x6), (2, .int x8), (3, .int v10), (4, .int (0 : Int32)), (5, .int (0 : Int32))]) [5, 4, 3, 2, 1, 0] rfl ?_
  refine J.wl6 41 (fun (i11 : Int32) (i12 : Int32) (i13 : Int32) (i14 : Int32) (i15 : Int32) (h16 : Hp) => h16) (fun (i11 : Int32) (i12 : Int32) (i13 : Int32) (i14 : Int32) (i15 : Int32) (h16 : Hp) => [(0, .ref a0), (1, .int i11), (2, .int i12), (3, .int i13), (4, .int i14), (5, .int i15)]) (fun (i11 : Int32) (i12 : Int32) (i13 : Int32) (i14 : Int32) (i15 : Int32) (h16 : Hp) => []) (fun r17 hr17 i11 i12 i13 i14 i15 h16 => ?_) fuel x6 x8 v10 (0 : Int32) (0 : Int32) h4
  refine j_iload C dX7_firstMost_41 5 rfl ?_
  refine j_aload_n C dX7_firstMost_43 0 rfl rfl ?_
  refine j_getI C wfl_X7_162 dX7_firstMost_44 (fun x18 => ?_)
  refine j_icmp_ge C 215 dX7_firstMost_47 (by decide) (fun c19 => ?_) (fun c19 => ?_)
  · exact j_vret C dX7_firstMost_215
  · refine j_iconst C (-1 : Int32) dX7_firstMost_50 (by decide) ?_
    refine j_istore (lv' := [(6, .int (-1 : Int32)), (0, .ref a0), (1, .int i11), (2, .int i12), (3, .int i13), (4, .int i14), (5, .int i15)]) C dX7_firstMost_51 rfl rfl ?_
    refine j_aload_n C dX7_firstMost_53 1 rfl rfl ?_
    refine j_getR C wfl_X7_23 dX7_firstMost_54 (fun a20 => ?_)
    refine j_bipush C (50 : Int32) dX7_firstMost_57 (by decide) ?_
    refine j_iaload C dX7_firstMost_59 (fun x21 => ?_)
    refine j_iconst C (1 : Int32) dX7_firstMost_60 (by decide) ?_
    refine j_isub C dX7_firstMost_61 ?_
    refine j_nmI (fun v22 => ?_)
    refine j_istore (lv' := [(7, .int v22), (6, .int (-1 : Int32)), (0, .ref a0), (1, .int i11), (2, .int i12), (3, .int i13), (4, .int i14), (5, .int i15)]) C dX7_firstMost_62 rfl rfl ?_
    refine J.sub (lv' := [(0, .ref a0), (1, .int i11), (2, .int i12), (3, .int i13), (4, .int i14), (5, .int i15), (6, .int (-1 : Int32)), (7, .int v22)]) [2, 3, 4, 5, 6, 7, 1, 0] rfl ?_
    refine J.wl2 64 (fun (i23 : Int32) (i24 : Int32) => h16) (fun (i23 : Int32) (i24 : Int32) => [(0, .ref a0), (1, .int i11), (2, .int i12), (3, .int i13), (4, .int i14), (5, .int i15), (6, .int i23), (7, .int i24)]) (fun (i23 : Int32) (i24 : Int32) => []) (fun r25 hr25 i23 i24 => ?_) fuel (-1 : Int32) v22
    refine j_iload C dX7_firstMost_64 7 rfl ?_
    refine j_if_lt C 173 dX7_firstMost_66 (by decide) (fun c26 => ?_) (fun c26 => ?_)
    · refine j_aload_n C dX7_firstMost_173 0 rfl rfl ?_
      refine j_getR C wfl_X7_39 dX7_firstMost_174 (fun a27 => ?_)
      refine j_iload C dX7_firstMost_177 5 rfl ?_
      refine j_iload C dX7_firstMost_179 6 rfl ?_
      refine j_iastore C dX7_firstMost_181 (fun h28 => ?_)
      refine j_iload C dX7_firstMost_182 4 rfl ?_
      refine j_iconst C (1 : Int32) dX7_firstMost_184 (by decide) ?_
      refine j_iload C dX7_firstMost_185 6 rfl ?_
      refine j_ishl C dX7_firstMost_187 ?_
      refine j_ior C dX7_firstMost_188 ?_
      refine j_nmI (fun v29 => ?_)
      refine j_istore (lv' := [(4, .int v29), (0, .ref a0), (1, .int i11), (2, .int i12), (3, .int i13), (5, .int i15), (6, .int i23), (7, .int i24)]) C dX7_firstMost_189 rfl rfl ?_
      refine j_iload_n C dX7_firstMost_191 2 rfl rfl ?_
      refine j_istore_n (lv' := [(2, .int i11), (4, .int v29), (0, .ref a0), (1, .int i11), (3, .int i13), (5, .int i15), (6, .int i23), (7, .int i24)]) C dX7_firstMost_192 rfl rfl rfl ?_
      refine j_aload_n C dX7_firstMost_193 2 rfl rfl ?_
      refine j_iload C dX7_firstMost_194 6 rfl ?_
      refine j_iconst C (0 : Int32) dX7_firstMost_196 (by decide) ?_
      refine j_cIp (st := []) (fun x e => ⟨runsV C wml_X7_114 wce_X7_of (c_X7_of (bL B) (bD B) _ _ _ _ x e).1 rfl rfl rfl rfl rfl dX7_firstMost_197, (c_X7_of (bL B) (bD B) _ _ _ _ x e).2⟩) (fun x30 => ?_)
      refine j_istore_n (lv' := [(1, .int x30), (2, .int i11), (4, .int v29), (0, .ref a0), (3, .int i13), (5, .int i15), (6, .int i23), (7, .int i24)]) C dX7_firstMost_200 rfl rfl rfl ?_
      refine j_iload_n C dX7_firstMost_201 4 rfl rfl ?_
      refine j_aload_n C dX7_firstMost_202 3 rfl rfl ?_
      refine j_iload_n C dX7_firstMost_203 0 rfl rfl ?_
      refine j_cIp (st := [.int i13]) (fun x e => ⟨runsV C wml_X7_154 wce_X7_step (c_X7_step (bL B) (bD B) _ _ _ x e).1 rfl rfl rfl rfl rfl dX7_firstMost_204, (c_X7_step (bL B) (bD B) _ _ _ x e).2⟩) (fun x31 => ?_)
      refine j_isub C dX7_firstMost_207 ?_
      refine j_nmI (fun v32 => ?_)
      refine j_istore_n (lv' := [(3, .int v32), (1, .int x30), (2, .int i11), (4, .int v29), (0, .ref a0), (5, .int i15), (6, .int i23), (7, .int i24)]) C dX7_firstMost_208 rfl rfl rfl ?_
      refine j_iinc (lv' := [(5, .int (i15 + (1 : Int32))), (3, .int v32), (1, .int x30), (2, .int i11), (4, .int v29), (0, .ref a0), (6, .int i23), (7, .int i24)]) C (1 : Int32) dX7_firstMost_209 5 rfl (by decide) rfl rfl ?_
      refine j_goto C 41 dX7_firstMost_212 (by decide) ?_
      refine J.sub (lv' := [(0, .ref a0), (1, .int x30), (2, .int i11), (3, .int v32), (4, .int v29), (5, .int (i15 + (1 : Int32)))]) [5, 2, 3, 1, 4, 0] rfl ?_
      exact hr17 x30 i11 v32 v29 (i15 + (1 : Int32)) h28
    · refine j_aload_n C dX7_firstMost_69 0 rfl rfl ?_
      refine j_iload C dX7_firstMost_70 7 rfl ?_
      refine j_iconst C (0 : Int32) dX7_firstMost_72 (by decide) ?_
      refine j_cIp (st := []) (fun x e => ⟨runsV C wml_X7_114 wce_X7_of (c_X7_of (bL B) (bD B) _ _ _ _ x e).1 rfl rfl rfl rfl rfl dX7_firstMost_73, (c_X7_of (bL B) (bD B) _ _ _ _ x e).2⟩) (fun x33 => ?_)
      refine j_istore (lv' := [(8, .int x33), (0, .ref a0), (1, .int i11), (2, .int i12), (3, .int i13), (4, .int i14), (5, .int i15), (6, .int i23), (7, .int i24)]) C dX7_firstMost_76 rfl rfl ?_
      refine j_aload_n C dX7_firstMost_78 1 rfl rfl ?_
      refine j_iload C dX7_firstMost_79 8 rfl ?_
      refine j_cIp (st := []) (fun x e => ⟨runsV C wml_X7_125 wce_X7_isWaiting (c_X7_isWaiting (bL B) (bD B) _ _ _ x e).1 rfl rfl rfl rfl rfl dX7_firstMost_81, (c_X7_isWaiting (bL B) (bD B) _ _ _ x e).2⟩) (fun x34 => ?_)
      refine J.jn1 113 (fun (w35 : Int32) => h16) (fun (w35 : Int32) => [(0, .ref a0), (1, .int i11), (2, .int i12), (3, .int i13), (4, .int i14), (5, .int i15), (6, .int i23), (7, .int i24), (8, .int x33)]) (fun (w35 : Int32) => [.int w35]) (fun w35 => ?_) (fun k36 hk36 => ?_)
      · refine j_istore (lv' := [(9, .int w35), (0, .ref a0), (1, .int i11), (2, .int i12), (3, .int i13), (4, .int i14), (5, .int i15), (6, .int i23), (7, .int i24), (8, .int x33)]) C dX7_firstMost_113 rfl rfl ?_
        refine j_iload C dX7_firstMost_115 0 rfl ?_
        refine J.jn1 165 (fun (w37 : Int32) => h16) (fun (w37 : Int32) => [(0, .ref a0), (1, .int i11), (2, .int i12), (3, .int i13), (4, .int i14), (5, .int i15), (7, .int i24)]) (fun (w37 : Int32) => [.int w37]) (fun w37 => ?_) (fun k38 hk38 => ?_)
        · refine j_istore (lv' := [(6, .int w37), (0, .ref a0), (1, .int i11), (2, .int i12), (3, .int i13), (4, .int i14), (5, .int i15), (7, .int i24)]) C dX7_firstMost_165 rfl rfl ?_
          refine j_iinc (lv' := [(7, .int (i24 + (-1 : Int32))), (6, .int w37), (0, .ref a0), (1, .int i11), (2, .int i12), (3, .int i13), (4, .int i14), (5, .int i15)]) C (-1 : Int32) dX7_firstMost_167 7 rfl (by decide) rfl rfl ?_
          refine j_goto C 64 dX7_firstMost_170 (by decide) ?_
          refine J.sub (lv' := [(0, .ref a0), (1, .int i11), (2, .int i12), (3, .int i13), (4, .int i14), (5, .int i15), (6, .int w37), (7, .int (i24 + (-1 : Int32)))]) [2, 3, 4, 5, 6, 7, 1, 0] rfl ?_
          exact hr25 w37 (i24 + (-1 : Int32))
        refine J.jn0 (h0 := h16) (lv0 := [(0, .ref a0), (1, .int i11), (2, .int i12), (3, .int i13), (4, .int i14), (5, .int i15), (6, .int i23), (7, .int i24)]) (st0 := []) 163 ?_ (fun k39 hk39 => ?_)
        · refine j_iload C dX7_firstMost_163 6 rfl ?_
          refine J.sub (lv' := [(0, .ref a0), (1, .int i11), (2, .int i12), (3, .int i13), (4, .int i14), (5, .int i15), (7, .int i24)]) [0, 1, 2, 3, 4, 5, 7] rfl ?_
          exact hk38 i23
        refine j_if_eq C 163 dX7_firstMost_117 (by decide) (fun c40 => ?_) (fun c40 => ?_)
        · refine J.sub (lv' := [(0, .ref a0), (1, .int i11), (2, .int i12), (3, .int i13), (4, .int i14), (5, .int i15), (6, .int i23), (7, .int i24)]) [1, 2, 3, 4, 5, 6, 7, 8] rfl ?_
          exact hk39
        · refine j_aload_n C dX7_firstMost_120 1 rfl rfl ?_
          refine j_getR C wfl_X7_57 dX7_firstMost_121 (fun a41 => ?_)
          refine j_bipush C (36 : Int32) dX7_firstMost_124 (by decide) ?_
          refine j_iload_n C dX7_firstMost_126 4 rfl rfl ?_
          refine j_aload_n C dX7_firstMost_127 1 rfl rfl ?_
          refine j_iload C dX7_firstMost_128 9 rfl ?_
          refine j_cIp (st := [.int i13, .int (36 : Int32), .ref a41]) (fun x e => ⟨runsV C wml_X7_154 wce_X7_step (c_X7_step (bL B) (bD B) _ _ _ x e).1 rfl rfl rfl rfl rfl dX7_firstMost_130, (c_X7_step (bL B) (bD B) _ _ _ x e).2⟩) (fun x42 => ?_)
          refine j_isub C dX7_firstMost_133 ?_
          refine j_imul C dX7_firstMost_134 ?_
          refine j_bipush C (6 : Int32) dX7_firstMost_135 (by decide) ?_
          refine j_iload C dX7_firstMost_137 9 rfl ?_
          refine j_imul C dX7_firstMost_139 ?_
          refine j_iadd C dX7_firstMost_140 ?_
          refine j_iload_n C dX7_firstMost_141 2 rfl rfl ?_
          refine j_iadd C dX7_firstMost_142 ?_
          refine j_laload C dX7_firstMost_143 (fun y43 => ?_)
          refine j_aload_n C dX7_firstMost_144 1 rfl rfl ?_
          refine j_getI C wfl_X7_162 dX7_firstMost_145 (fun x44 => ?_)
          refine j_iload C dX7_firstMost_148 6 rfl ?_
          refine j_isub C dX7_firstMost_150 ?_
          refine j_iconst C (1 : Int32) dX7_firstMost_151 (by decide) ?_
          refine j_isub C dX7_firstMost_152 ?_
          refine j_i2l C dX7_firstMost_153 ?_
          refine j_lcmp C dX7_firstMost_154 ?_
          refine j_if_ne C 163 dX7_firstMost_155 (by decide) (fun c45 => ?_) (fun c45 => ?_)
          · refine J.sub (lv' := [(0, .ref a0), (1, .int i11), (2, .int i12), (3, .int i13), (4, .int i14), (5, .int i15), (6, .int i23), (7, .int i24)]) [1, 2, 3, 4, 5, 6, 7, 8] rfl ?_
            exact hk39
          · refine j_iload C dX7_firstMost_158 8 rfl ?_
            refine j_goto C 165 dX7_firstMost_160 (by decide) ?_
            refine J.sub (lv' := [(0, .ref a0), (1, .int i11), (2, .int i12), (3, .int i13), (4, .int i14), (5, .int i15), (7, .int i24)]) [1, 2, 3, 4, 5, 6, 8] rfl ?_
            exact hk38 i24
      refine J.jn0 (h0 := h16) (lv0 := [(0, .ref a0), (1, .int i11), (2, .int i12), (3, .int i13), (4, .int i14), (5, .int i15), (6, .int i23), (7, .int i24), (8, .int x33)]) (st0 := []) 112 ?_ (fun k46 hk46 => ?_)
      · refine j_iconst C (0 : Int32) dX7_firstMost_112 (by decide) ?_
        exact hk36 (0 : Int32)
      refine j_if_eq C 112 dX7_firstMost_84 (by decide) (fun c47 => ?_) (fun c47 => ?_)
      · refine J.sub (lv' := [(0, .ref a0), (1, .int i11), (2, .int i12), (3, .int i13), (4, .int i14), (5, .int i15), (6, .int i23), (7, .int i24), (8, .int x33)]) [1, 2, 3, 4, 5, 6, 7, 8, 0] rfl ?_
        exact hk46
      · refine j_iload C dX7_firstMost_87 5 rfl ?_
        refine j_iload C dX7_firstMost_89 8 rfl ?_
        refine j_ishr C dX7_firstMost_91 ?_
        refine j_iconst C (1 : Int32) dX7_firstMost_92 (by decide) ?_
        refine j_iand C dX7_firstMost_93 ?_
        refine j_if_ne C 112 dX7_firstMost_94 (by decide) (fun c48 => ?_) (fun c48 => ?_)
        · refine J.sub (lv' := [(0, .ref a0), (1, .int i11), (2, .int i12), (3, .int i13), (4, .int i14), (5, .int i15), (6, .int i23), (7, .int i24), (8, .int x33)]) [1, 2, 3, 4, 5, 6, 7, 8, 0] rfl ?_
          exact hk46
        · refine j_aload_n C dX7_firstMost_97 1 rfl rfl ?_
          refine j_iload C dX7_firstMost_98 0 rfl ?_
          refine j_iload_n C dX7_firstMost_100 2 rfl rfl ?_
          refine j_iload_n C dX7_firstMost_101 3 rfl rfl ?_
          refine j_cIp (st := []) (fun x e => ⟨runsV C wml_X7_121 wce_X7_isMixed (c_X7_isMixed (bL B) (bD B) _ _ _ _ _ x e).1 rfl rfl rfl rfl rfl dX7_firstMost_102, (c_X7_isMixed (bL B) (bD B) _ _ _ _ _ x e).2⟩) (fun x49 => ?_)
          refine j_if_eq C 112 dX7_firstMost_105 (by decide) (fun c50 => ?_) (fun c50 => ?_)
          · refine J.sub (lv' := [(0, .ref a0), (1, .int i11), (2, .int i12), (3, .int i13), (4, .int i14), (5, .int i15), (6, .int i23), (7, .int i24), (8, .int x33)]) [1, 2, 3, 4, 5, 6, 7, 8, 0] rfl ?_
            exact hk46
          · refine j_iconst C (1 : Int32) dX7_firstMost_108 (by decide) ?_
            refine j_goto C 113 dX7_firstMost_109 (by decide) ?_
            refine J.sub (lv' := [(0, .ref a0), (1, .int i11), (2, .int i12), (3, .int i13), (4, .int i14), (5, .int i15), (6, .int i23), (7, .int i24), (8, .int x33)]) [1, 2, 3, 4, 5, 6, 7, 8, 0] rfl ?_
            exact hk36 (1 : Int32)
def f_X7_soonestOf (a0 : Nat) (p1 : Int32) (h : Hp) : Option Int32 :=
  bnd (gO h a0 7) fun _ => wl2 (fun r3 (i1 : Int32) (i2 : Int32) => if (36 : Int32) ≤ i2 then (some i1) else (bnd (gR h a0 7 11) fun a5 => bnd (ldI 0 h a5 (((36 : Int32) * p1) + i2)) fun x6 => jn1 (fun (w7 : Int32) => r3 w7 (i2 + (1 : Int32))) fun k8 => if i1 ≤ x6 then (k8 i1) else (k8 x6))) fuel (1000000 : Int32) (0 : Int32)
set_option maxHeartbeats 4000000 in
set_option maxRecDepth 100000 in
theorem c_X7_soonestOf (l : Launch) (D : hD) (a0 : Nat) (p1 : Int32) (h : Hp) (x : Int32) (e : f_X7_soonestOf a0 p1 h = some x) : (∃ fs, gO h a0 7 = some fs) ∧ Ct l D yX7_soonestOf cX7_soonestOf 5 (some .int) 0 0 [.ref a0, .int p1] h (some (.int x)) h := by
  obtain ⟨fs, g1, g2⟩ := bnd_some e
  refine ⟨⟨fs, g1⟩, ?_⟩
  refine ct_of (out := (oIp h)) g2 (by decide +kernel) rfl (fun B C hin hl hd => ?_)
  subst hl; subst hd
  show J B _ _ h 0 [(0, .ref a0), (1, .int p1)] []
  refine j_ldc C dX7_soonestOf_0 wco_X7_158 ?_
  refine j_istore_n (lv' := [(2, .int (1000000 : Int32)), (0, .ref a0), (1, .int p1)]) C dX7_soonestOf_2 rfl rfl rfl ?_
  refine j_iconst C (0 : Int32) dX7_soonestOf_3 (by decide) ?_
  refine j_istore_n (lv' := [(3, .int (0 : Int32)), (2, .int (1000000 : Int32)), (0, .ref a0), (1, .int p1)]) C dX7_soonestOf_4 rfl rfl rfl ?_
  refine J.sub (lv' := [(0, .ref a0), (1, .int p1), (2, .int (1000000 : Int32)), (3, .int (0 : Int32))]) [2, 3, 1, 0] rfl ?_
  refine J.wl2 5 (fun (i1 : Int32) (i2 : Int32) => h) (fun (i1 : Int32) (i2 : Int32) => [(0, .ref a0), (1, .int p1), (2, .int i1), (3, .int i2)]) (fun (i1 : Int32) (i2 : Int32) => []) (fun r3 hr3 i1 i2 => ?_) fuel (1000000 : Int32) (0 : Int32)
  refine j_iload_n C dX7_soonestOf_5 3 rfl rfl ?_
  refine j_bipush C (36 : Int32) dX7_soonestOf_6 (by decide) ?_
  refine j_icmp_ge C 43 dX7_soonestOf_8 (by decide) (fun c4 => ?_) (fun c4 => ?_)
  · refine j_iload_n C dX7_soonestOf_43 2 rfl rfl ?_
    exact j_iretp C dX7_soonestOf_44
  · refine j_aload_n C dX7_soonestOf_11 0 rfl rfl ?_
    refine j_getR C wfl_X7_30 dX7_soonestOf_12 (fun a5 => ?_)
    refine j_bipush C (36 : Int32) dX7_soonestOf_15 (by decide) ?_
    refine j_iload_n C dX7_soonestOf_17 1 rfl rfl ?_
    refine j_imul C dX7_soonestOf_18 ?_
    refine j_iload_n C dX7_soonestOf_19 3 rfl rfl ?_
    refine j_iadd C dX7_soonestOf_20 ?_
    refine j_iaload C dX7_soonestOf_21 (fun x6 => ?_)
    refine j_istore (lv' := [(4, .int x6), (0, .ref a0), (1, .int p1), (2, .int i1), (3, .int i2)]) C dX7_soonestOf_22 rfl rfl ?_
    refine j_iload C dX7_soonestOf_24 0 rfl ?_
    refine j_iload_n C dX7_soonestOf_26 3 rfl rfl ?_
    refine J.jn1 36 (fun (w7 : Int32) => h) (fun (w7 : Int32) => [(0, .ref a0), (1, .int p1), (3, .int i2)]) (fun (w7 : Int32) => [.int w7]) (fun w7 => ?_) (fun k8 hk8 => ?_)
    · refine j_istore_n (lv' := [(2, .int w7), (0, .ref a0), (1, .int p1), (3, .int i2)]) C dX7_soonestOf_36 rfl rfl rfl ?_
      refine j_iinc (lv' := [(3, .int (i2 + (1 : Int32))), (2, .int w7), (0, .ref a0), (1, .int p1)]) C (1 : Int32) dX7_soonestOf_37 3 rfl (by decide) rfl rfl ?_
      refine j_goto C 5 dX7_soonestOf_40 (by decide) ?_
      refine J.sub (lv' := [(0, .ref a0), (1, .int p1), (2, .int w7), (3, .int (i2 + (1 : Int32)))]) [2, 3, 1, 0] rfl ?_
      exact hr3 w7 (i2 + (1 : Int32))
    refine j_icmp_ge C 35 dX7_soonestOf_27 (by decide) (fun c9 => ?_) (fun c9 => ?_)
    · refine j_iload_n C dX7_soonestOf_35 3 rfl rfl ?_
      refine J.sub (lv' := [(0, .ref a0), (1, .int p1), (3, .int i2)]) [1, 2, 4] rfl ?_
      exact hk8 i1
    · refine j_iload C dX7_soonestOf_30 0 rfl ?_
      refine j_goto C 36 dX7_soonestOf_32 (by decide) ?_
      refine J.sub (lv' := [(0, .ref a0), (1, .int p1), (3, .int i2)]) [1, 2, 4] rfl ?_
      exact hk8 x6
