def f_X3_isPair (p1 : Nat) (p2 : Nat) (p3 : Int32) (p4 : Int32) (h : Hp) : Option (Int32 × Hp) :=
  bnd (f_X2_isWaitedFor p1 p3 h) fun x1 => jn0 (rZ (0 : Int32) h) fun k2 => if x1 = 0 then k2 else (bnd (f_X2_isWaitedFor p1 p4 h) fun x4 => if x4 = 0 then k2 else (bnd (f_X0_takeOwners p2 p1 p3 p4 h) fun h6 => bnd2 (f_X0_longest p2 p1 h6) fun x7 h8 => bnd (f_X0_total p2 h8) fun x9 => jn1 (fun (w10 : Int32) => rZ w10 h8) fun k11 => if x7 = x9 then (k11 (1 : Int32)) else (k11 (0 : Int32))))
set_option maxHeartbeats 4000000 in
set_option maxRecDepth 100000 in
theorem c_X3_isPair (l : Launch) (D : hD) (p1 : Nat) (p2 : Nat) (p3 : Int32) (p4 : Int32) (h : Hp) (x : (Int32 × Hp)) (e : f_X3_isPair p1 p2 p3 p4 h = some x) : Ct l D yX3_isPair cX3_isPair 4 (some .boolean) 4 99 [.ref p1, .ref p2, .int p3, .int p4] h (some (.int x.1)) x.2 := by
  unfold f_X3_isPair at e
  refine ct_of (out := oI) e (by decide +kernel) rfl (fun B C hin hl hd => ?_)
  subst hl; subst hd
  show J B _ _ h 0 [(0, .ref p1), (1, .ref p2), (2, .int p3), (3, .int p4)] []
  refine j_aload_n C dX3_isPair_0 0 rfl rfl ?_
  refine j_iload_n C dX3_isPair_1 2 rfl rfl ?_
  refine j_cIp (st := []) (fun x e => ⟨runsV C wml_X3_40 wce_X2_isWaitedFor (c_X2_isWaitedFor (bL B) (bD B) _ _ _ x e).1 rfl rfl rfl rfl rfl dX3_isPair_2, (c_X2_isWaitedFor (bL B) (bD B) _ _ _ x e).2⟩) (fun x1 => ?_)
  refine J.jn0 (h0 := h) (lv0 := []) (st0 := []) 16 ?_ (fun k2 hk2 => ?_)
  · refine j_iconst C (0 : Int32) dX3_isPair_16 (by decide) ?_
    exact j_zret C dX3_isPair_17
  refine j_if_eq C 16 dX3_isPair_5 (by decide) (fun c3 => ?_) (fun c3 => ?_)
  · refine J.sub (lv' := []) [] rfl ?_
    exact hk2
  · refine j_aload_n C dX3_isPair_8 0 rfl rfl ?_
    refine j_iload_n C dX3_isPair_9 3 rfl rfl ?_
    refine j_cIp (st := []) (fun x e => ⟨runsV C wml_X3_40 wce_X2_isWaitedFor (c_X2_isWaitedFor (bL B) (bD B) _ _ _ x e).1 rfl rfl rfl rfl rfl dX3_isPair_10, (c_X2_isWaitedFor (bL B) (bD B) _ _ _ x e).2⟩) (fun x4 => ?_)
    refine j_if_ne C 18 dX3_isPair_13 (by decide) (fun c5 => ?_) (fun c5 => ?_)
    · refine j_aload_n C dX3_isPair_18 1 rfl rfl ?_
      refine j_aload_n C dX3_isPair_19 0 rfl rfl ?_
      refine j_iload_n C dX3_isPair_20 2 rfl rfl ?_
      refine j_iload_n C dX3_isPair_21 3 rfl rfl ?_
      refine j_cV (st := []) (fun x e => ⟨runsV C wml_X3_46 wce_X0_takeOwners (c_X0_takeOwners (bL B) (bD B) _ _ _ _ _ x e).1 rfl rfl rfl rfl rfl dX3_isPair_22, (c_X0_takeOwners (bL B) (bD B) _ _ _ _ _ x e).2⟩) (fun h6 => ?_)
      refine j_aload_n C dX3_isPair_25 1 rfl rfl ?_
      refine j_aload_n C dX3_isPair_26 0 rfl rfl ?_
      refine j_cI (st := []) (fun x e => ⟨runsV C wml_X3_52 wce_X0_longest (c_X0_longest (bL B) (bD B) _ _ _ x e).1 rfl rfl rfl rfl rfl dX3_isPair_27, (c_X0_longest (bL B) (bD B) _ _ _ x e).2⟩) (fun x7 h8 => ?_)
      refine j_aload_n C dX3_isPair_30 1 rfl rfl ?_
      refine j_cIp (st := [.int x7]) (fun x e => ⟨runsV C wml_X3_56 wce_X0_total (c_X0_total (bL B) (bD B) _ _ x e).1 rfl rfl rfl rfl rfl dX3_isPair_31, (c_X0_total (bL B) (bD B) _ _ x e).2⟩) (fun x9 => ?_)
      refine J.jn1 42 (fun (w10 : Int32) => h8) (fun (w10 : Int32) => []) (fun (w10 : Int32) => [.int w10]) (fun w10 => ?_) (fun k11 hk11 => ?_)
      · exact j_zret C dX3_isPair_42
      refine j_icmp_ne C 41 dX3_isPair_34 (by decide) (fun c12 => ?_) (fun c12 => ?_)
      · refine j_iconst C (0 : Int32) dX3_isPair_41 (by decide) ?_
        refine J.sub (lv' := []) [] rfl ?_
        exact hk11 (0 : Int32)
      · refine j_iconst C (1 : Int32) dX3_isPair_37 (by decide) ?_
        refine j_goto C 42 dX3_isPair_38 (by decide) ?_
        refine J.sub (lv' := []) [] rfl ?_
        exact hk11 (1 : Int32)
    · refine J.sub (lv' := []) [] rfl ?_
      exact hk2
def f_X3_find (a0 : Nat) (p1 : Nat) (p2 : Nat) (h : Hp) : Option Hp :=
  bnd (gO h a0 3) fun _ => wl2 (fun r3 (i1 : Int32) (h2 : Hp) => if (5 : Int32) ≤ i1 then (bnd (gR h2 a0 3 1) fun a5 => bnd (f_J7_fill_53178 a5 (-4 : Int32) h2) fun h6 => bnd (pF h6 a0 3 3 (.int (-1 : Int32))) fun h7 => bnd (f_X3_choose 7 a0 (0 : Int32) (0 : Int32) h7) fun h8 => some h8) else (nm (i1 + (1 : Int32)) fun v9 => wl2 (fun r12 (i10 : Int32) (h11 : Hp) => if (5 : Int32) ≤ i10 then (r3 (i1 + (1 : Int32)) h11) else (bnd (gR h11 a0 3 0) fun a14 => bnd2 (f_X3_isPair p1 p2 i1 i10 h11) fun x15 h16 => bnd (stI 2 h16 a14 ((i1 * (5 : Int32)) + i10) x15) fun h17 => r12 (i10 + (1 : Int32)) h17)) fuel v9 h2)) fuel (0 : Int32) h
set_option maxHeartbeats 4000000 in
set_option maxRecDepth 100000 in
theorem c_X3_find (l : Launch) (D : hD) (a0 : Nat) (p1 : Nat) (p2 : Nat) (h : Hp) (x : Hp) (e : f_X3_find a0 p1 p2 h = some x) : (∃ fs, gO h a0 3 = some fs) ∧ Ct l D yX3_find cX3_find 5 none 9 210 [.ref a0, .ref p1, .ref p2] h none x := by
  obtain ⟨fs, g1, g2⟩ := bnd_some e
  refine ⟨⟨fs, g1⟩, ?_⟩
  refine ct_of (out := oV) g2 (by decide +kernel) rfl (fun B C hin hl hd => ?_)
  subst hl; subst hd
  show J B _ _ h 0 [(0, .ref a0), (1, .ref p1), (2, .ref p2)] []
  refine j_iconst C (0 : Int32) dX3_find_0 (by decide) ?_
  refine j_istore_n (lv' := [(3, .int (0 : Int32)), (0, .ref a0), (1, .ref p1), (2, .ref p2)]) C dX3_find_1 rfl rfl rfl ?_
  refine J.sub (lv' := [(0, .ref a0), (1, .ref p1), (2, .ref p2), (3, .int (0 : Int32))]) [1, 2, 3, 0] rfl ?_
  refine J.wl2 2 (fun (i1 : Int32) (h2 : Hp) => h2) (fun (i1 : Int32) (h2 : Hp) => [(0, .ref a0), (1, .ref p1), (2, .ref p2), (3, .int i1)]) (fun (i1 : Int32) (h2 : Hp) => []) (fun r3 hr3 i1 h2 => ?_) fuel (0 : Int32) h
  refine j_iload_n C dX3_find_2 3 rfl rfl ?_
  refine j_iconst C (5 : Int32) dX3_find_3 (by decide) ?_
  refine j_icmp_ge C 49 dX3_find_4 (by decide) (fun c4 => ?_) (fun c4 => ?_)
  · refine j_aload_n C dX3_find_49 0 rfl rfl ?_
    refine j_getR C wfl_X3_15 dX3_find_50 (fun a5 => ?_)
    refine j_bipush C (-4 : Int32) dX3_find_53 (by decide) ?_
    refine j_cV (st := []) (fun x e => ⟨runsS C wml_X3_26 wce_J7_fill_53178 rfl rfl rfl rfl rfl dX3_find_55, c_J7_fill_53178 (bL B) (bD B) _ _ _ x e⟩) (fun h6 => ?_)
    refine j_aload_n C dX3_find_58 0 rfl rfl ?_
    refine j_iconst C (-1 : Int32) dX3_find_59 (by decide) ?_
    refine j_put C wfp_X3_32 dX3_find_60 ⟨_, rfl⟩ (fun h7 => ?_)
    refine j_aload_n C dX3_find_63 0 rfl rfl ?_
    refine j_iconst C (0 : Int32) dX3_find_64 (by decide) ?_
    refine j_iconst C (0 : Int32) dX3_find_65 (by decide) ?_
    refine j_cV (st := []) (fun x e => ⟨runsV C wml_X3_36 wce_X3_choose (c_X3_choose (bL B) (bD B) 7 _ _ _ _ x e).1 rfl rfl rfl rfl rfl dX3_find_66, (c_X3_choose (bL B) (bD B) 7 _ _ _ _ x e).2⟩) (fun h8 => ?_)
    exact j_vret C dX3_find_69
  · refine j_iload_n C dX3_find_7 3 rfl rfl ?_
    refine j_iconst C (1 : Int32) dX3_find_8 (by decide) ?_
    refine j_iadd C dX3_find_9 ?_
    refine j_nmI (fun v9 => ?_)
    refine j_istore (lv' := [(4, .int v9), (0, .ref a0), (1, .ref p1), (2, .ref p2), (3, .int i1)]) C dX3_find_10 rfl rfl ?_
    refine J.sub (lv' := [(0, .ref a0), (1, .ref p1), (2, .ref p2), (3, .int i1), (4, .int v9)]) [1, 2, 3, 4, 0] rfl ?_
    refine J.wl2 12 (fun (i10 : Int32) (h11 : Hp) => h11) (fun (i10 : Int32) (h11 : Hp) => [(0, .ref a0), (1, .ref p1), (2, .ref p2), (3, .int i1), (4, .int i10)]) (fun (i10 : Int32) (h11 : Hp) => []) (fun r12 hr12 i10 h11 => ?_) fuel v9 h2
    refine j_iload C dX3_find_12 4 rfl ?_
    refine j_iconst C (5 : Int32) dX3_find_14 (by decide) ?_
    refine j_icmp_ge C 43 dX3_find_15 (by decide) (fun c13 => ?_) (fun c13 => ?_)
    · refine j_iinc (lv' := [(3, .int (i1 + (1 : Int32))), (0, .ref a0), (1, .ref p1), (2, .ref p2), (4, .int i10)]) C (1 : Int32) dX3_find_43 3 rfl (by decide) rfl rfl ?_
      refine j_goto C 2 dX3_find_46 (by decide) ?_
      refine J.sub (lv' := [(0, .ref a0), (1, .ref p1), (2, .ref p2), (3, .int (i1 + (1 : Int32)))]) [1, 2, 3, 0] rfl ?_
      exact hr3 (i1 + (1 : Int32)) h11
    · refine j_aload_n C dX3_find_18 0 rfl rfl ?_
      refine j_getR C wfl_X3_9 dX3_find_19 (fun a14 => ?_)
      refine j_iload_n C dX3_find_22 3 rfl rfl ?_
      refine j_iconst C (5 : Int32) dX3_find_23 (by decide) ?_
      refine j_imul C dX3_find_24 ?_
      refine j_iload C dX3_find_25 4 rfl ?_
      refine j_iadd C dX3_find_27 ?_
      refine j_aload_n C dX3_find_28 1 rfl rfl ?_
      refine j_aload_n C dX3_find_29 2 rfl rfl ?_
      refine j_iload_n C dX3_find_30 3 rfl rfl ?_
      refine j_iload C dX3_find_31 4 rfl ?_
      refine j_cI (st := [.int ((i1 * (5 : Int32)) + i10), .ref a14]) (fun x e => ⟨runsS C wml_X3_22 wce_X3_isPair rfl rfl rfl rfl rfl dX3_find_33, c_X3_isPair (bL B) (bD B) _ _ _ _ _ x e⟩) (fun x15 h16 => ?_)
      refine j_zastore C dX3_find_36 (fun h17 => ?_)
      refine j_iinc (lv' := [(4, .int (i10 + (1 : Int32))), (0, .ref a0), (1, .ref p1), (2, .ref p2), (3, .int i1)]) C (1 : Int32) dX3_find_37 4 rfl (by decide) rfl rfl ?_
      refine j_goto C 12 dX3_find_40 (by decide) ?_
      refine J.sub (lv' := [(0, .ref a0), (1, .ref p1), (2, .ref p2), (3, .int i1), (4, .int (i10 + (1 : Int32)))]) [1, 2, 3, 4, 0] rfl ?_
      exact hr12 (i10 + (1 : Int32)) h17
def f_X3_partnerOf (a0 : Nat) (p1 : Int32) (h : Hp) : Option Int32 :=
  bnd (gO h a0 3) fun _ => bnd (f_X6_isOwner p1) fun x1 => jn1 (fun (w2 : Int32) => some w2) fun k3 => if x1 = 0 then (k3 (-4 : Int32)) else (bnd (gR h a0 3 2) fun a5 => bnd (ldI 0 h a5 p1) fun x6 => k3 x6)
set_option maxHeartbeats 4000000 in
set_option maxRecDepth 100000 in
theorem c_X3_partnerOf (l : Launch) (D : hD) (a0 : Nat) (p1 : Int32) (h : Hp) (x : Int32) (e : f_X3_partnerOf a0 p1 h = some x) : (∃ fs, gO h a0 3 = some fs) ∧ Ct l D yX3_partnerOf cX3_partnerOf 2 (some .int) 1 20 [.ref a0, .int p1] h (some (.int x)) h := by
  obtain ⟨fs, g1, g2⟩ := bnd_some e
  refine ⟨⟨fs, g1⟩, ?_⟩
  refine ct_of (out := (oIp h)) g2 (by decide +kernel) rfl (fun B C hin hl hd => ?_)
  subst hl; subst hd
  show J B _ _ h 0 [(0, .ref a0), (1, .int p1)] []
  refine j_iload_n C dX3_partnerOf_0 1 rfl rfl ?_
  refine j_cIp (st := []) (fun x e => ⟨runsS C wml_X3_66 wce_X6_isOwner rfl rfl rfl rfl rfl dX3_partnerOf_1, c_X6_isOwner (bL B) (bD B) _ _ x e⟩) (fun x1 => ?_)
  refine J.jn1 18 (fun (w2 : Int32) => h) (fun (w2 : Int32) => []) (fun (w2 : Int32) => [.int w2]) (fun w2 => ?_) (fun k3 hk3 => ?_)
  · exact j_iretp C dX3_partnerOf_18
  refine j_if_eq C 16 dX3_partnerOf_4 (by decide) (fun c4 => ?_) (fun c4 => ?_)
  · refine j_bipush C (-4 : Int32) dX3_partnerOf_16 (by decide) ?_
    refine J.sub (lv' := []) [] rfl ?_
    exact hk3 (-4 : Int32)
  · refine j_aload_n C dX3_partnerOf_7 0 rfl rfl ?_
    refine j_getR C wfl_X3_19 dX3_partnerOf_8 (fun a5 => ?_)
    refine j_iload_n C dX3_partnerOf_11 1 rfl rfl ?_
    refine j_iaload C dX3_partnerOf_12 (fun x6 => ?_)
    refine j_goto C 18 dX3_partnerOf_13 (by decide) ?_
    refine J.sub (lv' := []) [] rfl ?_
    exact hk3 x6
def f_X6_together (a0 : Nat) (p1 : Int32) (h : Hp) : Option (Int32 × Hp) :=
  bnd (gO h a0 6) fun _ => jn0 (bnd (gR h a0 6 13) fun a2 => bnd (gR h a0 6 4) fun a3 => bnd (gR h a0 6 11) fun a4 => bnd (f_X3_find a2 a3 a4 h) fun h5 => jn1 (fun (w6 : Int32) => some (w6, h5)) fun k7 => if p1 = (-1 : Int32) then (bnd (gR h5 a0 6 13) fun a11 => bnd (gI h5 a11 3 3) fun x12 => k7 x12) else (bnd (gR h5 a0 6 13) fun a9 => bnd (f_X3_partnerOf a9 p1 h5) fun x10 => k7 x10)) fun k1 => if p1 = (-1 : Int32) then k1 else (bnd (f_X6_isOwner p1) fun x14 => if x14 = 0 then (some ((-1 : Int32), h)) else k1)
set_option maxHeartbeats 4000000 in
set_option maxRecDepth 100000 in
theorem c_X6_together (l : Launch) (D : hD) (a0 : Nat) (p1 : Int32) (h : Hp) (x : (Int32 × Hp)) (e : f_X6_together a0 p1 h = some x) : (∃ fs, gO h a0 6 = some fs) ∧ Ct l D yX6_together cX6_together 2 (some .int) 10 234 [.ref a0, .int p1] h (some (.int x.1)) x.2 := by
  obtain ⟨fs, g1, g2⟩ := bnd_some e
  refine ⟨⟨fs, g1⟩, ?_⟩
  refine ct_of (out := oI) g2 (by decide +kernel) rfl (fun B C hin hl hd => ?_)
  subst hl; subst hd
  show J B _ _ h 0 [(0, .ref a0), (1, .int p1)] []
  refine j_iload_n C dX6_together_0 1 rfl rfl ?_
  refine j_iconst C (-1 : Int32) dX6_together_1 (by decide) ?_
  refine J.jn0 (h0 := h) (lv0 := [(0, .ref a0), (1, .int p1)]) (st0 := []) 14 ?_ (fun k1 hk1 => ?_)
  · refine j_aload_n C dX6_together_14 0 rfl rfl ?_
    refine j_getR C wfl_X6_58 dX6_together_15 (fun a2 => ?_)
    refine j_aload_n C dX6_together_18 0 rfl rfl ?_
    refine j_getR C wfl_X6_27 dX6_together_19 (fun a3 => ?_)
    refine j_aload_n C dX6_together_22 0 rfl rfl ?_
    refine j_getR C wfl_X6_44 dX6_together_23 (fun a4 => ?_)
    refine j_cV (st := []) (fun x e => ⟨runsV C wml_X6_212 wce_X3_find (c_X3_find (bL B) (bD B) _ _ _ _ x e).1 rfl rfl rfl rfl rfl dX6_together_26, (c_X3_find (bL B) (bD B) _ _ _ _ x e).2⟩) (fun h5 => ?_)
    refine j_iload_n C dX6_together_29 1 rfl rfl ?_
    refine j_iconst C (-1 : Int32) dX6_together_30 (by decide) ?_
    refine J.jn1 52 (fun (w6 : Int32) => h5) (fun (w6 : Int32) => []) (fun (w6 : Int32) => [.int w6]) (fun w6 => ?_) (fun k7 hk7 => ?_)
    · exact j_iret C dX6_together_52
    refine j_icmp_ne C 44 dX6_together_31 (by decide) (fun c8 => ?_) (fun c8 => ?_)
    · refine j_aload_n C dX6_together_44 0 rfl rfl ?_
      refine j_getR C wfl_X6_58 dX6_together_45 (fun a9 => ?_)
      refine j_iload_n C dX6_together_48 1 rfl rfl ?_
      refine j_cIp (st := []) (fun x e => ⟨runsV C wml_X6_219 wce_X3_partnerOf (c_X3_partnerOf (bL B) (bD B) _ _ _ x e).1 rfl rfl rfl rfl rfl dX6_together_49, (c_X3_partnerOf (bL B) (bD B) _ _ _ x e).2⟩) (fun x10 => ?_)
      refine J.sub (lv' := []) [] rfl ?_
      exact hk7 x10
    · refine j_aload_n C dX6_together_34 0 rfl rfl ?_
      refine j_getR C wfl_X6_58 dX6_together_35 (fun a11 => ?_)
      refine j_getI C wfl_X6_216 dX6_together_38 (fun x12 => ?_)
      refine j_goto C 52 dX6_together_41 (by decide) ?_
      refine J.sub (lv' := []) [] rfl ?_
      exact hk7 x12
  refine j_icmp_eq C 14 dX6_together_2 (by decide) (fun c13 => ?_) (fun c13 => ?_)
  · exact hk1
  · refine j_iload_n C dX6_together_5 1 rfl rfl ?_
    refine j_cIp (st := []) (fun x e => ⟨runsS C wml_X6_209 wce_X6_isOwner rfl rfl rfl rfl rfl dX6_together_6, c_X6_isOwner (bL B) (bD B) _ _ x e⟩) (fun x14 => ?_)
    refine j_if_ne C 14 dX6_together_9 (by decide) (fun c15 => ?_) (fun c15 => ?_)
    · exact hk1
    · refine j_iconst C (-1 : Int32) dX6_together_12 (by decide) ?_
      exact j_iret C dX6_together_13
def f_X1_sackBits (a0 : Nat) (p1 : Int32) (h : Hp) : Option Int32 :=
  bnd (gO h a0 1) fun _ => wl2 (fun r3 (i1 : Int32) (i2 : Int32) => bnd (gI h a0 1 4) fun x4 => if x4 ≤ i2 then (some i1) else (jn1 (fun (z6 : Int32) => r3 z6 (i2 + (1 : Int32))) fun k7 => if ((p1 >>> (i2 &&& 31)) &&& (1 : Int32)) = 0 then (k7 i1) else (bnd (gR h a0 1 0) fun a9 => bnd (ldI 0 h a9 i2) fun x10 => nm (i1 ||| ((1 : Int32) <<< (x10 &&& 31))) fun v11 => k7 v11))) fuel (0 : Int32) (0 : Int32)
set_option maxHeartbeats 4000000 in
set_option maxRecDepth 100000 in
theorem c_X1_sackBits (l : Launch) (D : hD) (a0 : Nat) (p1 : Int32) (h : Hp) (x : Int32) (e : f_X1_sackBits a0 p1 h = some x) : (∃ fs, gO h a0 1 = some fs) ∧ Ct l D yX1_sackBits cX1_sackBits 4 (some .int) 0 0 [.ref a0, .int p1] h (some (.int x)) h := by
  obtain ⟨fs, g1, g2⟩ := bnd_some e
  refine ⟨⟨fs, g1⟩, ?_⟩
  refine ct_of (out := (oIp h)) g2 (by decide +kernel) rfl (fun B C hin hl hd => ?_)
  subst hl; subst hd
  show J B _ _ h 0 [(0, .ref a0), (1, .int p1)] []
  refine j_iconst C (0 : Int32) dX1_sackBits_0 (by decide) ?_
  refine j_istore_n (lv' := [(2, .int (0 : Int32)), (0, .ref a0), (1, .int p1)]) C dX1_sackBits_1 rfl rfl rfl ?_
  refine j_iconst C (0 : Int32) dX1_sackBits_2 (by decide) ?_
  refine j_istore_n (lv' := [(3, .int (0 : Int32)), (2, .int (0 : Int32)), (0, .ref a0), (1, .int p1)]) C dX1_sackBits_3 rfl rfl rfl ?_
  refine J.sub (lv' := [(0, .ref a0), (1, .int p1), (2, .int (0 : Int32)), (3, .int (0 : Int32))]) [2, 3, 1, 0] rfl ?_
  refine J.wl2 4 (fun (i1 : Int32) (i2 : Int32) => h) (fun (i1 : Int32) (i2 : Int32) => [(0, .ref a0), (1, .int p1), (2, .int i1), (3, .int i2)]) (fun (i1 : Int32) (i2 : Int32) => []) (fun r3 hr3 i1 i2 => ?_) fuel (0 : Int32) (0 : Int32)
  refine j_iload_n C dX1_sackBits_4 3 rfl rfl ?_
  refine j_aload_n C dX1_sackBits_5 0 rfl rfl ?_
  refine j_getI C wfl_X1_92 dX1_sackBits_6 (fun x4 => ?_)
  refine j_icmp_ge C 37 dX1_sackBits_9 (by decide) (fun c5 => ?_) (fun c5 => ?_)
  · refine j_iload_n C dX1_sackBits_37 2 rfl rfl ?_
    exact j_iretp C dX1_sackBits_38
  · refine j_iload_n C dX1_sackBits_12 1 rfl rfl ?_
    refine j_iload_n C dX1_sackBits_13 3 rfl rfl ?_
    refine j_ishr C dX1_sackBits_14 ?_
    refine j_iconst C (1 : Int32) dX1_sackBits_15 (by decide) ?_
    refine j_iand C dX1_sackBits_16 ?_
    refine J.jn1 31 (fun (z6 : Int32) => h) (fun (z6 : Int32) => [(0, .ref a0), (1, .int p1), (2, .int z6), (3, .int i2)]) (fun (z6 : Int32) => []) (fun z6 => ?_) (fun k7 hk7 => ?_)
    · refine j_iinc (lv' := [(3, .int (i2 + (1 : Int32))), (0, .ref a0), (1, .int p1), (2, .int z6)]) C (1 : Int32) dX1_sackBits_31 3 rfl (by decide) rfl rfl ?_
      refine j_goto C 4 dX1_sackBits_34 (by decide) ?_
      refine J.sub (lv' := [(0, .ref a0), (1, .int p1), (2, .int z6), (3, .int (i2 + (1 : Int32)))]) [1, 2, 3, 0] rfl ?_
      exact hr3 z6 (i2 + (1 : Int32))
    refine j_if_eq C 31 dX1_sackBits_17 (by decide) (fun c8 => ?_) (fun c8 => ?_)
    · exact hk7 i1
    · refine j_iload_n C dX1_sackBits_20 2 rfl rfl ?_
      refine j_iconst C (1 : Int32) dX1_sackBits_21 (by decide) ?_
      refine j_aload_n C dX1_sackBits_22 0 rfl rfl ?_
      refine j_getR C wfl_X1_9 dX1_sackBits_23 (fun a9 => ?_)
      refine j_iload_n C dX1_sackBits_26 3 rfl rfl ?_
      refine j_iaload C dX1_sackBits_27 (fun x10 => ?_)
      refine j_ishl C dX1_sackBits_28 ?_
      refine j_ior C dX1_sackBits_29 ?_
      refine j_nmI (fun v11 => ?_)
      refine j_istore_n (lv' := [(2, .int v11), (0, .ref a0), (1, .int p1), (3, .int i2)]) C dX1_sackBits_30 rfl rfl rfl ?_
      refine J.sub (lv' := [(0, .ref a0), (1, .int p1), (2, .int v11), (3, .int i2)]) [1, 2, 0, 3] rfl ?_
      exact hk7 v11
def f_X1_partBetweenTwo (a0 : Nat) (p1 : Nat) (h : Hp) : Option (Int32 × Hp) :=
  bnd (gO h a0 1) fun _ => bnd (f_X1_takeWaiting a0 p1 h) fun h1 => bnd (gR h1 a0 1 9) fun a2 => bnd (gI h1 a0 1 5) fun x3 => bnd2 (f_X6_roomFor a2 x3 h1) fun a4 h5 => bnd (pF h5 a0 1 9 (.ref a4)) fun h6 => bnd (gR h6 a0 1 10) fun a7 => bnd (gI h6 a0 1 5) fun x8 => bnd2 (f_X6_roomFor a7 x8 h6) fun a9 h10 => bnd (pF h10 a0 1 10 (.ref a9)) fun h11 => bnd (gI h11 p1 2 0) fun x12 => bnd (gI h11 p1 2 8) fun x13 => bnd (f_X2_memoryNow p1 h11) fun x14 => bnd (gR h11 a0 1 9) fun a15 => bnd (f_X1_fillEnds a0 x12 x13 x14 a15 h11) fun h16 => bnd (gI h16 p1 2 0) fun x17 => bnd (f_X6_memoryOf (5 : Int32) (5 : Int32)) fun x18 => bnd (gR h16 a0 1 10) fun a19 => bnd (f_X1_fillEnds a0 x17 (0 : Int32) x18 a19 h16) fun h20 => bnd (pF h20 a0 1 11 (.int (1000000 : Int32))) fun h21 => bnd (pF h21 a0 1 12 (.int (0 : Int32))) fun h22 => wl2 (fun r25 (i23 : Int32) (h24 : Hp) => bnd (gI h24 a0 1 5) fun x26 => jn0 (bnd (gI h24 a0 1 11) fun x28 => jn1 (fun (w29 : Int32) => rZ w29 h24) fun k30 => if (1000000 : Int32) ≤ x28 then (k30 (0 : Int32)) else (k30 (1 : Int32))) fun k27 => if x26 ≤ i23 then k27 else (bnd (gR h24 a0 1 9) fun a33 => bnd (aLn h24 a33) fun x34 => if x34 ≤ i23 then k27 else (bnd (gR h24 a0 1 10) fun a36 => bnd (aLn h24 a36) fun x37 => if x37 ≤ i23 then k27 else (bnd (gR h24 a0 1 9) fun a39 => bnd (ldI 0 h24 a39 i23) fun x40 => bnd (gR h24 a0 1 10) fun a41 => bnd (gI h24 a0 1 5) fun x42 => bnd (ldI 0 h24 a41 ((x42 - (1 : Int32)) - i23)) fun x43 => nm (mx x40 x43) fun v44 => bnd (gI h24 a0 1 11) fun x45 => jn1 (fun (h46 : Hp) => r25 (i23 + (1 : Int32)) h46) fun k47 => if x45 ≤ v44 then (k47 h24) else (bnd (pF h24 a0 1 11 (.int v44)) fun h49 => bnd (f_X1_sackBits a0 i23 h49) fun x50 => bnd (pF h49 a0 1 12 (.int x50)) fun h51 => k47 h51))))) fuel (0 : Int32) h22
set_option maxHeartbeats 4000000 in
set_option maxRecDepth 100000 in
theorem c_X1_partBetweenTwo (l : Launch) (D : hD) (a0 : Nat) (p1 : Nat) (h : Hp) (x : (Int32 × Hp)) (e : f_X1_partBetweenTwo a0 p1 h = some x) : (∃ fs, gO h a0 1 = some fs) ∧ Ct l D yX1_partBetweenTwo cX1_partBetweenTwo 4 (some .boolean) 3 70 [.ref a0, .ref p1] h (some (.int x.1)) x.2 := by
  obtain ⟨fs, g1, g2⟩ := bnd_some e
  refine ⟨⟨fs, g1⟩, ?_⟩
  refine ct_of (out := oI) g2 (by decide +kernel) rfl (fun B C hin hl hd => ?_)
  subst hl; subst hd
  show J B _ _ h 0 [(0, .ref a0), (1, .ref p1)] []
  refine j_aload_n C dX1_partBetweenTwo_0 0 rfl rfl ?_
  refine j_aload_n C dX1_partBetweenTwo_1 1 rfl rfl ?_
  refine j_cV (st := []) (fun x e => ⟨runsV C wml_X1_36 wce_X1_takeWaiting (c_X1_takeWaiting (bL B) (bD B) _ _ _ x e).1 rfl rfl rfl rfl rfl dX1_partBetweenTwo_2, (c_X1_takeWaiting (bL B) (bD B) _ _ _ x e).2⟩) (fun h1 => ?_)
  refine j_aload_n C dX1_partBetweenTwo_5 0 rfl rfl ?_
  refine j_aload_n C dX1_partBetweenTwo_6 0 rfl rfl ?_
  refine j_getR C wfl_X1_30 dX1_partBetweenTwo_7 (fun a2 => ?_)
  refine j_aload_n C dX1_partBetweenTwo_10 0 rfl rfl ?_
  refine j_getI C wfl_X1_40 dX1_partBetweenTwo_11 (fun x3 => ?_)
  refine j_cR (st := [.ref a0]) (fun x e => ⟨runsS C wml_X1_44 wce_X6_roomFor rfl rfl rfl rfl rfl dX1_partBetweenTwo_14, c_X6_roomFor (bL B) (bD B) _ _ _ x e⟩) (fun a4 h5 => ?_)
  refine j_put C wfp_X1_30 dX1_partBetweenTwo_17 ⟨_, rfl⟩ (fun h6 => ?_)
  refine j_aload_n C dX1_partBetweenTwo_20 0 rfl rfl ?_
  refine j_aload_n C dX1_partBetweenTwo_21 0 rfl rfl ?_
  refine j_getR C wfl_X1_33 dX1_partBetweenTwo_22 (fun a7 => ?_)
  refine j_aload_n C dX1_partBetweenTwo_25 0 rfl rfl ?_
  refine j_getI C wfl_X1_40 dX1_partBetweenTwo_26 (fun x8 => ?_)
  refine j_cR (st := [.ref a0]) (fun x e => ⟨runsS C wml_X1_44 wce_X6_roomFor rfl rfl rfl rfl rfl dX1_partBetweenTwo_29, c_X6_roomFor (bL B) (bD B) _ _ _ x e⟩) (fun a9 h10 => ?_)
  refine j_put C wfp_X1_33 dX1_partBetweenTwo_32 ⟨_, rfl⟩ (fun h11 => ?_)
  refine j_aload_n C dX1_partBetweenTwo_35 0 rfl rfl ?_
  refine j_aload_n C dX1_partBetweenTwo_36 1 rfl rfl ?_
  refine j_getI C wfl_X1_48 dX1_partBetweenTwo_37 (fun x12 => ?_)
  refine j_aload_n C dX1_partBetweenTwo_40 1 rfl rfl ?_
  refine j_getI C wfl_X1_53 dX1_partBetweenTwo_41 (fun x13 => ?_)
  refine j_aload_n C dX1_partBetweenTwo_44 1 rfl rfl ?_
  refine j_cIp (st := [.int x13, .int x12, .ref a0]) (fun x e => ⟨runsV C wml_X1_56 wce_X2_memoryNow (c_X2_memoryNow (bL B) (bD B) _ _ x e).1 rfl rfl rfl rfl rfl dX1_partBetweenTwo_45, (c_X2_memoryNow (bL B) (bD B) _ _ x e).2⟩) (fun x14 => ?_)
  refine j_aload_n C dX1_partBetweenTwo_48 0 rfl rfl ?_
  refine j_getR C wfl_X1_30 dX1_partBetweenTwo_49 (fun a15 => ?_)
  refine j_cV (st := []) (fun x e => ⟨runsV C wml_X1_60 wce_X1_fillEnds (c_X1_fillEnds (bL B) (bD B) _ _ _ _ _ _ x e).1 rfl rfl rfl rfl rfl dX1_partBetweenTwo_52, (c_X1_fillEnds (bL B) (bD B) _ _ _ _ _ _ x e).2⟩) (fun h16 => ?_)
  refine j_aload_n C dX1_partBetweenTwo_55 0 rfl rfl ?_
  refine j_aload_n C dX1_partBetweenTwo_56 1 rfl rfl ?_
  refine j_getI C wfl_X1_48 dX1_partBetweenTwo_57 (fun x17 => ?_)
  refine j_iconst C (0 : Int32) dX1_partBetweenTwo_60 (by decide) ?_
  refine j_iconst C (5 : Int32) dX1_partBetweenTwo_61 (by decide) ?_
  refine j_iconst C (5 : Int32) dX1_partBetweenTwo_62 (by decide) ?_
  refine j_cIp (st := [.int (0 : Int32), .int x17, .ref a0]) (fun x e => ⟨runsS C wml_X1_77 wce_X6_memoryOf rfl rfl rfl rfl rfl dX1_partBetweenTwo_63, c_X6_memoryOf (bL B) (bD B) _ _ _ x e⟩) (fun x18 => ?_)
  refine j_aload_n C dX1_partBetweenTwo_66 0 rfl rfl ?_
  refine j_getR C wfl_X1_33 dX1_partBetweenTwo_67 (fun a19 => ?_)
  refine j_cV (st := []) (fun x e => ⟨runsV C wml_X1_60 wce_X1_fillEnds (c_X1_fillEnds (bL B) (bD B) _ _ _ _ _ _ x e).1 rfl rfl rfl rfl rfl dX1_partBetweenTwo_70, (c_X1_fillEnds (bL B) (bD B) _ _ _ _ _ _ x e).2⟩) (fun h20 => ?_)
  refine j_aload_n C dX1_partBetweenTwo_73 0 rfl rfl ?_
  refine j_ldc C dX1_partBetweenTwo_74 wco_X1_64 ?_
  refine j_put C wfp_X1_80 dX1_partBetweenTwo_76 ⟨_, rfl⟩ (fun h21 => ?_)
  refine j_aload_n C dX1_partBetweenTwo_79 0 rfl rfl ?_
  refine j_iconst C (0 : Int32) dX1_partBetweenTwo_80 (by decide) ?_
  refine j_put C wfp_X1_83 dX1_partBetweenTwo_81 ⟨_, rfl⟩ (fun h22 => ?_)
  refine j_iconst C (0 : Int32) dX1_partBetweenTwo_84 (by decide) ?_
  refine j_istore_n (lv' := [(2, .int (0 : Int32)), (0, .ref a0), (1, .ref p1)]) C dX1_partBetweenTwo_85 rfl rfl rfl ?_
  refine J.sub (lv' := [(0, .ref a0), (2, .int (0 : Int32))]) [1, 0] rfl ?_
  refine J.wl2 86 (fun (i23 : Int32) (h24 : Hp) => h24) (fun (i23 : Int32) (h24 : Hp) => [(0, .ref a0), (2, .int i23)]) (fun (i23 : Int32) (h24 : Hp) => []) (fun r25 hr25 i23 h24 => ?_) fuel (0 : Int32) h22
  refine j_iload_n C dX1_partBetweenTwo_86 1 rfl rfl ?_
  refine j_aload_n C dX1_partBetweenTwo_87 0 rfl rfl ?_
  refine j_getI C wfl_X1_40 dX1_partBetweenTwo_88 (fun x26 => ?_)
  refine J.jn0 (h0 := h24) (lv0 := [(0, .ref a0)]) (st0 := []) 163 ?_ (fun k27 hk27 => ?_)
  · refine j_aload_n C dX1_partBetweenTwo_163 0 rfl rfl ?_
    refine j_getI C wfl_X1_80 dX1_partBetweenTwo_164 (fun x28 => ?_)
    refine j_ldc C dX1_partBetweenTwo_167 wco_X1_64 ?_
    refine J.jn1 177 (fun (w29 : Int32) => h24) (fun (w29 : Int32) => []) (fun (w29 : Int32) => [.int w29]) (fun w29 => ?_) (fun k30 hk30 => ?_)
    · exact j_zret C dX1_partBetweenTwo_177
    refine j_icmp_ge C 176 dX1_partBetweenTwo_169 (by decide) (fun c31 => ?_) (fun c31 => ?_)
    · refine j_iconst C (0 : Int32) dX1_partBetweenTwo_176 (by decide) ?_
      refine J.sub (lv' := []) [] rfl ?_
      exact hk30 (0 : Int32)
    · refine j_iconst C (1 : Int32) dX1_partBetweenTwo_172 (by decide) ?_
      refine j_goto C 177 dX1_partBetweenTwo_173 (by decide) ?_
      refine J.sub (lv' := []) [] rfl ?_
      exact hk30 (1 : Int32)
  refine j_icmp_ge C 163 dX1_partBetweenTwo_91 (by decide) (fun c32 => ?_) (fun c32 => ?_)
  · refine J.sub (lv' := [(0, .ref a0)]) [0] rfl ?_
    exact hk27
  · refine j_iload_n C dX1_partBetweenTwo_94 1 rfl rfl ?_
    refine j_aload_n C dX1_partBetweenTwo_95 0 rfl rfl ?_
    refine j_getR C wfl_X1_30 dX1_partBetweenTwo_96 (fun a33 => ?_)
    refine j_alen C dX1_partBetweenTwo_99 (fun x34 => ?_)
    refine j_icmp_ge C 163 dX1_partBetweenTwo_100 (by decide) (fun c35 => ?_) (fun c35 => ?_)
    · refine J.sub (lv' := [(0, .ref a0)]) [0] rfl ?_
      exact hk27
    · refine j_iload_n C dX1_partBetweenTwo_103 1 rfl rfl ?_
      refine j_aload_n C dX1_partBetweenTwo_104 0 rfl rfl ?_
      refine j_getR C wfl_X1_33 dX1_partBetweenTwo_105 (fun a36 => ?_)
      refine j_alen C dX1_partBetweenTwo_108 (fun x37 => ?_)
      refine j_icmp_ge C 163 dX1_partBetweenTwo_109 (by decide) (fun c38 => ?_) (fun c38 => ?_)
      · refine J.sub (lv' := [(0, .ref a0)]) [0] rfl ?_
        exact hk27
      · refine j_aload_n C dX1_partBetweenTwo_112 0 rfl rfl ?_
        refine j_getR C wfl_X1_30 dX1_partBetweenTwo_113 (fun a39 => ?_)
        refine j_iload_n C dX1_partBetweenTwo_116 1 rfl rfl ?_
        refine j_iaload C dX1_partBetweenTwo_117 (fun x40 => ?_)
        refine j_aload_n C dX1_partBetweenTwo_118 0 rfl rfl ?_
        refine j_getR C wfl_X1_33 dX1_partBetweenTwo_119 (fun a41 => ?_)
        refine j_aload_n C dX1_partBetweenTwo_122 0 rfl rfl ?_
        refine j_getI C wfl_X1_40 dX1_partBetweenTwo_123 (fun x42 => ?_)
        refine j_iconst C (1 : Int32) dX1_partBetweenTwo_126 (by decide) ?_
        refine j_isub C dX1_partBetweenTwo_127 ?_
        refine j_iload_n C dX1_partBetweenTwo_128 1 rfl rfl ?_
        refine j_isub C dX1_partBetweenTwo_129 ?_
        refine j_iaload C dX1_partBetweenTwo_130 (fun x43 => ?_)
        refine j_max C wob_X1_86 wma_max_s wma_i wma_max_c rfl rfl rfl dX1_partBetweenTwo_131 ?_
        refine j_nmI (fun v44 => ?_)
        refine j_istore_n (lv' := [(3, .int v44), (0, .ref a0), (2, .int i23)]) C dX1_partBetweenTwo_134 rfl rfl rfl ?_
        refine j_iload_n C dX1_partBetweenTwo_135 0 rfl rfl ?_
        refine j_aload_n C dX1_partBetweenTwo_136 1 rfl rfl ?_
        refine j_getI C wfl_X1_80 dX1_partBetweenTwo_137 (fun x45 => ?_)
        refine J.jn1 157 (fun (h46 : Hp) => h46) (fun (h46 : Hp) => [(0, .ref a0), (2, .int i23)]) (fun (h46 : Hp) => []) (fun h46 => ?_) (fun k47 hk47 => ?_)
        · refine j_iinc (lv' := [(2, .int (i23 + (1 : Int32))), (0, .ref a0)]) C (1 : Int32) dX1_partBetweenTwo_157 1 rfl (by decide) rfl rfl ?_
          refine j_goto C 86 dX1_partBetweenTwo_160 (by decide) ?_
          refine J.sub (lv' := [(0, .ref a0), (2, .int (i23 + (1 : Int32)))]) [1, 0] rfl ?_
          exact hr25 (i23 + (1 : Int32)) h46
        refine j_icmp_ge C 157 dX1_partBetweenTwo_140 (by decide) (fun c48 => ?_) (fun c48 => ?_)
        · refine J.sub (lv' := [(0, .ref a0), (2, .int i23)]) [1, 2] rfl ?_
          exact hk47 h24
        · refine j_aload_n C dX1_partBetweenTwo_143 1 rfl rfl ?_
          refine j_iload_n C dX1_partBetweenTwo_144 0 rfl rfl ?_
          refine j_put C wfp_X1_80 dX1_partBetweenTwo_145 ⟨_, rfl⟩ (fun h49 => ?_)
          refine j_aload_n C dX1_partBetweenTwo_148 1 rfl rfl ?_
          refine j_aload_n C dX1_partBetweenTwo_149 1 rfl rfl ?_
          refine j_iload_n C dX1_partBetweenTwo_150 2 rfl rfl ?_
          refine j_cIp (st := [.ref a0]) (fun x e => ⟨runsV C wml_X1_89 wce_X1_sackBits (c_X1_sackBits (bL B) (bD B) _ _ _ x e).1 rfl rfl rfl rfl rfl dX1_partBetweenTwo_151, (c_X1_sackBits (bL B) (bD B) _ _ _ x e).2⟩) (fun x50 => ?_)
          refine j_put C wfp_X1_83 dX1_partBetweenTwo_154 ⟨_, rfl⟩ (fun h51 => ?_)
          refine J.sub (lv' := [(0, .ref a0), (2, .int i23)]) [1, 2] rfl ?_
          exact hk47 h51
def f_X6_twoMills (a0 : Nat) (p1 : Int32) (h : Hp) : Option (Int32 × Hp) :=
  bnd (gO h a0 6) fun _ => jn0 (bnd (gR h a0 6 12) fun a2 => bnd (gR h a0 6 4) fun a3 => bnd2 (f_X1_partBetweenTwo a2 a3 h) fun x4 h5 => if x4 = 0 then (some ((-4 : Int32), h5)) else (jn1 (fun (w7 : Int32) => some (w7, h5)) fun k8 => if p1 = 0 then (bnd (gR h5 a0 6 12) fun a12 => bnd (gI h5 a12 1 11) fun x13 => k8 x13) else (bnd (gR h5 a0 6 12) fun a10 => bnd (gI h5 a10 1 12) fun x11 => k8 x11))) fun k1 => if p1 = 0 then k1 else (if p1 = (1 : Int32) then k1 else (some ((-1 : Int32), h)))
set_option maxHeartbeats 4000000 in
set_option maxRecDepth 100000 in
theorem c_X6_twoMills (l : Launch) (D : hD) (a0 : Nat) (p1 : Int32) (h : Hp) (x : (Int32 × Hp)) (e : f_X6_twoMills a0 p1 h = some x) : (∃ fs, gO h a0 6 = some fs) ∧ Ct l D yX6_twoMills cX6_twoMills 2 (some .int) 4 93 [.ref a0, .int p1] h (some (.int x.1)) x.2 := by
  obtain ⟨fs, g1, g2⟩ := bnd_some e
  refine ⟨⟨fs, g1⟩, ?_⟩
  refine ct_of (out := oI) g2 (by decide +kernel) rfl (fun B C hin hl hd => ?_)
  subst hl; subst hd
  show J B _ _ h 0 [(0, .ref a0), (1, .int p1)] []
  refine j_iload_n C dX6_twoMills_0 1 rfl rfl ?_
  refine J.jn0 (h0 := h) (lv0 := [(0, .ref a0), (1, .int p1)]) (st0 := []) 11 ?_ (fun k1 hk1 => ?_)
  · refine j_aload_n C dX6_twoMills_11 0 rfl rfl ?_
    refine j_getR C wfl_X6_51 dX6_twoMills_12 (fun a2 => ?_)
    refine j_aload_n C dX6_twoMills_15 0 rfl rfl ?_
    refine j_getR C wfl_X6_27 dX6_twoMills_16 (fun a3 => ?_)
    refine j_cI (st := []) (fun x e => ⟨runsV C wml_X6_229 wce_X1_partBetweenTwo (c_X1_partBetweenTwo (bL B) (bD B) _ _ _ x e).1 rfl rfl rfl rfl rfl dX6_twoMills_19, (c_X1_partBetweenTwo (bL B) (bD B) _ _ _ x e).2⟩) (fun x4 h5 => ?_)
    refine j_if_ne C 28 dX6_twoMills_22 (by decide) (fun c6 => ?_) (fun c6 => ?_)
    · refine j_iload_n C dX6_twoMills_28 1 rfl rfl ?_
      refine J.jn1 49 (fun (w7 : Int32) => h5) (fun (w7 : Int32) => []) (fun (w7 : Int32) => [.int w7]) (fun w7 => ?_) (fun k8 hk8 => ?_)
      · exact j_iret C dX6_twoMills_49
      refine j_if_ne C 42 dX6_twoMills_29 (by decide) (fun c9 => ?_) (fun c9 => ?_)
      · refine j_aload_n C dX6_twoMills_42 0 rfl rfl ?_
        refine j_getR C wfl_X6_51 dX6_twoMills_43 (fun a10 => ?_)
        refine j_getI C wfl_X6_236 dX6_twoMills_46 (fun x11 => ?_)
        refine J.sub (lv' := []) [] rfl ?_
        exact hk8 x11
      · refine j_aload_n C dX6_twoMills_32 0 rfl rfl ?_
        refine j_getR C wfl_X6_51 dX6_twoMills_33 (fun a12 => ?_)
        refine j_getI C wfl_X6_233 dX6_twoMills_36 (fun x13 => ?_)
        refine j_goto C 49 dX6_twoMills_39 (by decide) ?_
        refine J.sub (lv' := []) [] rfl ?_
        exact hk8 x13
    · refine j_bipush C (-4 : Int32) dX6_twoMills_25 (by decide) ?_
      exact j_iret C dX6_twoMills_27
  refine j_if_eq C 11 dX6_twoMills_1 (by decide) (fun c14 => ?_) (fun c14 => ?_)
  · exact hk1
  · refine j_iload_n C dX6_twoMills_4 1 rfl rfl ?_
    refine j_iconst C (1 : Int32) dX6_twoMills_5 (by decide) ?_
    refine j_icmp_eq C 11 dX6_twoMills_6 (by decide) (fun c15 => ?_) (fun c15 => ?_)
    · exact hk1
    · refine j_iconst C (-1 : Int32) dX6_twoMills_9 (by decide) ?_
      exact j_iret C dX6_twoMills_10
def f_X6_undo (a0 : Nat) (h : Hp) : Option (Int32 × Hp) :=
  bnd (gO h a0 6) fun _ => bnd (gI h a0 6 6) fun x1 => if 0 < x1 then (bnd (gI h a0 6 6) fun x3 => bnd (pF h a0 6 6 (.int (x3 - (1 : Int32)))) fun h4 => bnd (gR h4 a0 6 4) fun a5 => bnd (gR h4 a0 6 5) fun a6 => bnd (gI h4 a0 6 6) fun x7 => bnd (ldR h4 a6 x7) fun a8 => bnd (f_X2_copyFrom a5 a8 h4) fun h9 => bnd (pF h9 a0 6 10 (.int (0 : Int32))) fun h10 => bnd (gI h10 a0 6 6) fun x11 => some (x11, h10)) else (some ((-2 : Int32), h))
set_option maxHeartbeats 4000000 in
set_option maxRecDepth 100000 in
theorem c_X6_undo (l : Launch) (D : hD) (a0 : Nat) (h : Hp) (x : (Int32 × Hp)) (e : f_X6_undo a0 h = some x) : (∃ fs, gO h a0 6 = some fs) ∧ Ct l D yX6_undo cX6_undo 1 (some .int) 2 47 [.ref a0] h (some (.int x.1)) x.2 := by
  obtain ⟨fs, g1, g2⟩ := bnd_some e
  refine ⟨⟨fs, g1⟩, ?_⟩
  refine ct_of (out := oI) g2 (by decide +kernel) rfl (fun B C hin hl hd => ?_)
  subst hl; subst hd
  show J B _ _ h 0 [(0, .ref a0)] []
  refine j_aload_n C dX6_undo_0 0 rfl rfl ?_
  refine j_getI C wfl_X6_91 dX6_undo_1 (fun x1 => ?_)
  refine j_if_gt C 10 dX6_undo_4 (by decide) (fun c2 => ?_) (fun c2 => ?_)
  · refine j_aload_n C dX6_undo_10 0 rfl rfl ?_
    refine j_dup C dX6_undo_11 (fun _ => rfl) ?_
    refine j_getI C wfl_X6_91 dX6_undo_12 (fun x3 => ?_)
    refine j_iconst C (1 : Int32) dX6_undo_15 (by decide) ?_
    refine j_isub C dX6_undo_16 ?_
    refine j_put C wfp_X6_91 dX6_undo_17 ⟨_, rfl⟩ (fun h4 => ?_)
    refine j_aload_n C dX6_undo_20 0 rfl rfl ?_
    refine j_getR C wfl_X6_27 dX6_undo_21 (fun a5 => ?_)
    refine j_aload_n C dX6_undo_24 0 rfl rfl ?_
    refine j_getR C wfl_X6_30 dX6_undo_25 (fun a6 => ?_)
    refine j_aload_n C dX6_undo_28 0 rfl rfl ?_
    refine j_getI C wfl_X6_91 dX6_undo_29 (fun x7 => ?_)
    refine j_aaload C dX6_undo_32 (fun a8 => ?_)
    refine j_cV (st := []) (fun x e => ⟨runsV C wml_X6_84 wce_X2_copyFrom (c_X2_copyFrom (bL B) (bD B) _ _ _ x e).1 rfl rfl rfl rfl rfl dX6_undo_33, (c_X2_copyFrom (bL B) (bD B) _ _ _ x e).2⟩) (fun h9 => ?_)
    refine j_aload_n C dX6_undo_36 0 rfl rfl ?_
    refine j_iconst C (0 : Int32) dX6_undo_37 (by decide) ?_
    refine j_put C wfp_X6_88 dX6_undo_38 ⟨_, rfl⟩ (fun h10 => ?_)
    refine j_aload_n C dX6_undo_41 0 rfl rfl ?_
    refine j_getI C wfl_X6_91 dX6_undo_42 (fun x11 => ?_)
    exact j_iret C dX6_undo_45
  · refine j_bipush C (-2 : Int32) dX6_undo_7 (by decide) ?_
    exact j_iret C dX6_undo_9
def f_X6_wipe (a0 : Nat) (h : Hp) : Option (Int32 × Hp) :=
  bnd (gO h a0 6) fun _ => bnd (gI h a0 6 1) fun x1 => bnd (pF h a0 6 1 (.int (0 : Int32))) fun h2 => some (x1, h2)
set_option maxHeartbeats 4000000 in
set_option maxRecDepth 100000 in
theorem c_X6_wipe (l : Launch) (D : hD) (a0 : Nat) (h : Hp) (x : (Int32 × Hp)) (e : f_X6_wipe a0 h = some x) : (∃ fs, gO h a0 6 = some fs) ∧ Ct l D yX6_wipe cX6_wipe 2 (some .int) 0 0 [.ref a0] h (some (.int x.1)) x.2 := by
  obtain ⟨fs, g1, g2⟩ := bnd_some e
  refine ⟨⟨fs, g1⟩, ?_⟩
  refine ct_of (out := oI) g2 (by decide +kernel) rfl (fun B C hin hl hd => ?_)
  subst hl; subst hd
  show J B _ _ h 0 [(0, .ref a0)] []
  refine j_aload_n C dX6_wipe_0 0 rfl rfl ?_
  refine j_getI C wfl_X6_73 dX6_wipe_1 (fun x1 => ?_)
  refine j_istore_n (lv' := [(1, .int x1), (0, .ref a0)]) C dX6_wipe_4 rfl rfl rfl ?_
  refine j_aload_n C dX6_wipe_5 1 rfl rfl ?_
  refine j_iconst C (0 : Int32) dX6_wipe_6 (by decide) ?_
  refine j_put C wfp_X6_73 dX6_wipe_7 ⟨_, rfl⟩ (fun h2 => ?_)
  refine j_iload_n C dX6_wipe_10 0 rfl rfl ?_
  exact j_iret C dX6_wipe_11
def f_X6_write (a0 : Nat) (p1 : Int32) (p2 : Int64) (h : Hp) : Option (Int32 × Hp) :=
  bnd (gO h a0 6) fun _ => jn0 (some ((-1 : Int32), h)) fun k1 => if p1 < (1 : Int32) then k1 else (if p1 ≤ (8 : Int32) then (bnd (gI h a0 6 1) fun x4 => if (x4 + p1) ≤ (300 : Int32) then (nm (p1 - (1 : Int32)) fun v6 => wl2 (fun r9 (i7 : Int32) (h8 : Hp) => if i7 < 0 then (bnd (gI h8 a0 6 1) fun x11 => some (x11, h8)) else (bnd (gR h8 a0 6 0) fun a12 => bnd (gI h8 a0 6 1) fun x13 => bnd (stI 1 h8 a12 x13 ((p2 >>> (((8 : Int32) * i7).toInt64 &&& 63)).toInt32.toInt8.toInt32)) fun h14 => bnd (gI h14 a0 6 1) fun x15 => bnd (pF h14 a0 6 1 (.int (x15 + (1 : Int32)))) fun h16 => r9 (i7 + (-1 : Int32)) h16)) fuel v6 h) else (some ((-3 : Int32), h))) else k1)
set_option maxHeartbeats 4000000 in
set_option maxRecDepth 100000 in
theorem c_X6_write (l : Launch) (D : hD) (a0 : Nat) (p1 : Int32) (p2 : Int64) (h : Hp) (x : (Int32 × Hp)) (e : f_X6_write a0 p1 p2 h = some x) : (∃ fs, gO h a0 6 = some fs) ∧ Ct l D yX6_write cX6_write 5 (some .int) 0 0 [.ref a0, .int p1, .long p2] h (some (.int x.1)) x.2 := by
  obtain ⟨fs, g1, g2⟩ := bnd_some e
  refine ⟨⟨fs, g1⟩, ?_⟩
  refine ct_of (out := oI) g2 (by decide +kernel) rfl (fun B C hin hl hd => ?_)
  subst hl; subst hd
  show J B _ _ h 0 [(0, .ref a0), (1, .int p1), (2, .long p2)] []
  refine j_iload_n C dX6_write_0 1 rfl rfl ?_
  refine j_iconst C (1 : Int32) dX6_write_1 (by decide) ?_
  refine J.jn0 (h0 := h) (lv0 := []) (st0 := []) 11 ?_ (fun k1 hk1 => ?_)
  · refine j_iconst C (-1 : Int32) dX6_write_11 (by decide) ?_
    exact j_iret C dX6_write_12
  refine j_icmp_lt C 11 dX6_write_2 (by decide) (fun c2 => ?_) (fun c2 => ?_)
  · refine J.sub (lv' := []) [] rfl ?_
    exact hk1
  · refine j_iload_n C dX6_write_5 1 rfl rfl ?_
    refine j_bipush C (8 : Int32) dX6_write_6 (by decide) ?_
    refine j_icmp_le C 13 dX6_write_8 (by decide) (fun c3 => ?_) (fun c3 => ?_)
    · refine j_aload_n C dX6_write_13 0 rfl rfl ?_
      refine j_getI C wfl_X6_73 dX6_write_14 (fun x4 => ?_)
      refine j_iload_n C dX6_write_17 1 rfl rfl ?_
      refine j_iadd C dX6_write_18 ?_
      refine j_sipush C (300 : Int32) dX6_write_19 (by decide) ?_
      refine j_icmp_le C 28 dX6_write_22 (by decide) (fun c5 => ?_) (fun c5 => ?_)
      · refine j_iload_n C dX6_write_28 1 rfl rfl ?_
        refine j_iconst C (1 : Int32) dX6_write_29 (by decide) ?_
        refine j_isub C dX6_write_30 ?_
        refine j_nmI (fun v6 => ?_)
        refine j_istore (lv' := [(4, .int v6), (0, .ref a0), (1, .int p1), (2, .long p2)]) C dX6_write_31 rfl rfl ?_
        refine J.sub (lv' := [(0, .ref a0), (2, .long p2), (4, .int v6)]) [1, 3, 0] rfl ?_
        refine J.wl2 33 (fun (i7 : Int32) (h8 : Hp) => h8) (fun (i7 : Int32) (h8 : Hp) => [(0, .ref a0), (2, .long p2), (4, .int i7)]) (fun (i7 : Int32) (h8 : Hp) => []) (fun r9 hr9 i7 h8 => ?_) fuel v6 h
        refine j_iload C dX6_write_33 2 rfl ?_
        refine j_if_lt C 72 dX6_write_35 (by decide) (fun c10 => ?_) (fun c10 => ?_)
        · refine j_aload_n C dX6_write_72 0 rfl rfl ?_
          refine j_getI C wfl_X6_73 dX6_write_73 (fun x11 => ?_)
          exact j_iret C dX6_write_76
        · refine j_aload_n C dX6_write_38 0 rfl rfl ?_
          refine j_getR C wfl_X6_9 dX6_write_39 (fun a12 => ?_)
          refine j_aload_n C dX6_write_42 0 rfl rfl ?_
          refine j_getI C wfl_X6_73 dX6_write_43 (fun x13 => ?_)
          refine j_lload_n C dX6_write_46 1 rfl rfl ?_
          refine j_bipush C (8 : Int32) dX6_write_47 (by decide) ?_
          refine j_iload C dX6_write_49 2 rfl ?_
          refine j_imul C dX6_write_51 ?_
          refine j_lshr C dX6_write_52 ?_
          refine j_l2i C dX6_write_53 ?_
          refine j_i2b C dX6_write_54 ?_
          refine j_bastore C dX6_write_55 (fun h14 => ?_)
          refine j_aload_n C dX6_write_56 0 rfl rfl ?_
          refine j_dup C dX6_write_57 (fun _ => rfl) ?_
          refine j_getI C wfl_X6_73 dX6_write_58 (fun x15 => ?_)
          refine j_iconst C (1 : Int32) dX6_write_61 (by decide) ?_
          refine j_iadd C dX6_write_62 ?_
          refine j_put C wfp_X6_73 dX6_write_63 ⟨_, rfl⟩ (fun h16 => ?_)
          refine j_iinc (lv' := [(4, .int (i7 + (-1 : Int32))), (0, .ref a0), (2, .long p2)]) C (-1 : Int32) dX6_write_66 2 rfl (by decide) rfl rfl ?_
          refine j_goto C 33 dX6_write_69 (by decide) ?_
          refine J.sub (lv' := [(0, .ref a0), (2, .long p2), (4, .int (i7 + (-1 : Int32)))]) [1, 2, 0] rfl ?_
          exact hr9 (i7 + (-1 : Int32)) h16
      · refine j_bipush C (-3 : Int32) dX6_write_25 (by decide) ?_
        exact j_iret C dX6_write_27
    · refine J.sub (lv' := []) [] rfl ?_
      exact hk1
def f_X5_lowestPutBy (a0 : Nat) (h : Hp) : Option Int32 :=
  bnd (gO h a0 5) fun _ => wl1 (fun r2 (i1 : Int32) => if (5 : Int32) ≤ i1 then (some (-4 : Int32)) else (bnd (gR h a0 5 1) fun a4 => bnd (ldI 0 h a4 i1) fun x5 => jn0 (r2 (i1 + (1 : Int32))) fun k6 => if x5 ≤ 0 then k6 else (bnd (gI h a0 5 2) fun x8 => bnd (gI h a0 5 3) fun x9 => bnd (f_X6_fits i1 x8 x9) fun x10 => if x10 = 0 then k6 else (some i1)))) fuel (0 : Int32)
set_option maxHeartbeats 4000000 in
set_option maxRecDepth 100000 in
theorem c_X5_lowestPutBy (l : Launch) (D : hD) (a0 : Nat) (h : Hp) (x : Int32) (e : f_X5_lowestPutBy a0 h = some x) : (∃ fs, gO h a0 5 = some fs) ∧ Ct l D yX5_lowestPutBy cX5_lowestPutBy 2 (some .int) 1 22 [.ref a0] h (some (.int x)) h := by
  obtain ⟨fs, g1, g2⟩ := bnd_some e
  refine ⟨⟨fs, g1⟩, ?_⟩
  refine ct_of (out := (oIp h)) g2 (by decide +kernel) rfl (fun B C hin hl hd => ?_)
  subst hl; subst hd
  show J B _ _ h 0 [(0, .ref a0)] []
  refine j_iconst C (0 : Int32) dX5_lowestPutBy_0 (by decide) ?_
  refine j_istore_n (lv' := [(1, .int (0 : Int32)), (0, .ref a0)]) C dX5_lowestPutBy_1 rfl rfl rfl ?_
  refine J.sub (lv' := [(0, .ref a0), (1, .int (0 : Int32))]) [1, 0] rfl ?_
  refine J.wl1 2 (fun (i1 : Int32) => h) (fun (i1 : Int32) => [(0, .ref a0), (1, .int i1)]) (fun (i1 : Int32) => []) (fun r2 hr2 i1 => ?_) fuel (0 : Int32)
  refine j_iload_n C dX5_lowestPutBy_2 1 rfl rfl ?_
  refine j_iconst C (5 : Int32) dX5_lowestPutBy_3 (by decide) ?_
  refine j_icmp_ge C 39 dX5_lowestPutBy_4 (by decide) (fun c3 => ?_) (fun c3 => ?_)
  · refine j_bipush C (-4 : Int32) dX5_lowestPutBy_39 (by decide) ?_
    exact j_iretp C dX5_lowestPutBy_41
  · refine j_aload_n C dX5_lowestPutBy_7 0 rfl rfl ?_
    refine j_getR C wfl_X5_9 dX5_lowestPutBy_8 (fun a4 => ?_)
    refine j_iload_n C dX5_lowestPutBy_11 1 rfl rfl ?_
    refine j_iaload C dX5_lowestPutBy_12 (fun x5 => ?_)
    refine J.jn0 (h0 := h) (lv0 := [(0, .ref a0), (1, .int i1)]) (st0 := []) 33 ?_ (fun k6 hk6 => ?_)
    · refine j_iinc (lv' := [(1, .int (i1 + (1 : Int32))), (0, .ref a0)]) C (1 : Int32) dX5_lowestPutBy_33 1 rfl (by decide) rfl rfl ?_
      refine j_goto C 2 dX5_lowestPutBy_36 (by decide) ?_
      refine J.sub (lv' := [(0, .ref a0), (1, .int (i1 + (1 : Int32)))]) [1, 0] rfl ?_
      exact hr2 (i1 + (1 : Int32))
    refine j_if_le C 33 dX5_lowestPutBy_13 (by decide) (fun c7 => ?_) (fun c7 => ?_)
    · exact hk6
    · refine j_iload_n C dX5_lowestPutBy_16 1 rfl rfl ?_
      refine j_aload_n C dX5_lowestPutBy_17 0 rfl rfl ?_
      refine j_getI C wfl_X5_25 dX5_lowestPutBy_18 (fun x8 => ?_)
      refine j_aload_n C dX5_lowestPutBy_21 0 rfl rfl ?_
      refine j_getI C wfl_X5_28 dX5_lowestPutBy_22 (fun x9 => ?_)
      refine j_cIp (st := []) (fun x e => ⟨runsS C wml_X5_38 wce_X6_fits rfl rfl rfl rfl rfl dX5_lowestPutBy_25, c_X6_fits (bL B) (bD B) _ _ _ _ x e⟩) (fun x10 => ?_)
      refine j_if_eq C 33 dX5_lowestPutBy_28 (by decide) (fun c11 => ?_) (fun c11 => ?_)
      · exact hk6
      · refine j_iload_n C dX5_lowestPutBy_31 1 rfl rfl ?_
        exact j_iretp C dX5_lowestPutBy_32
def f_X5_take (a0 : Nat) (p1 : Int32) (h : Hp) : Option Hp :=
  bnd (gO h a0 5) fun _ => bnd (gI h a0 5 0) fun x1 => bnd (gI h a0 5 2) fun x2 => bnd (f_X6_heldBefore x1 x2) fun x3 => bnd (pF h a0 5 3 (.int x3)) fun h4 => bnd (pF h4 a0 5 2 (.int p1)) fun h5 => bnd (gI h5 a0 5 4) fun x6 => bnd (pF h5 a0 5 4 (.int (x6 + (1 : Int32)))) fun h7 => some h7
set_option maxHeartbeats 4000000 in
set_option maxRecDepth 100000 in
theorem c_X5_take (l : Launch) (D : hD) (a0 : Nat) (p1 : Int32) (h : Hp) (x : Hp) (e : f_X5_take a0 p1 h = some x) : (∃ fs, gO h a0 5 = some fs) ∧ Ct l D yX5_take cX5_take 2 none 1 21 [.ref a0, .int p1] h none x := by
  obtain ⟨fs, g1, g2⟩ := bnd_some e
  refine ⟨⟨fs, g1⟩, ?_⟩
  refine ct_of (out := oV) g2 (by decide +kernel) rfl (fun B C hin hl hd => ?_)
  subst hl; subst hd
  show J B _ _ h 0 [(0, .ref a0), (1, .int p1)] []
  refine j_aload_n C dX5_take_0 0 rfl rfl ?_
  refine j_aload_n C dX5_take_1 0 rfl rfl ?_
  refine j_getI C wfl_X5_15 dX5_take_2 (fun x1 => ?_)
  refine j_aload_n C dX5_take_5 0 rfl rfl ?_
  refine j_getI C wfl_X5_25 dX5_take_6 (fun x2 => ?_)
  refine j_cIp (st := [.ref a0]) (fun x e => ⟨runsS C wml_X5_50 wce_X6_heldBefore rfl rfl rfl rfl rfl dX5_take_9, c_X6_heldBefore (bL B) (bD B) _ _ _ x e⟩) (fun x3 => ?_)
  refine j_put C wfp_X5_28 dX5_take_12 ⟨_, rfl⟩ (fun h4 => ?_)
  refine j_aload_n C dX5_take_15 0 rfl rfl ?_
  refine j_iload_n C dX5_take_16 1 rfl rfl ?_
  refine j_put C wfp_X5_25 dX5_take_17 ⟨_, rfl⟩ (fun h5 => ?_)
  refine j_aload_n C dX5_take_20 0 rfl rfl ?_
  refine j_dup C dX5_take_21 (fun _ => rfl) ?_
  refine j_getI C wfl_X5_31 dX5_take_22 (fun x6 => ?_)
  refine j_iconst C (1 : Int32) dX5_take_25 (by decide) ?_
  refine j_iadd C dX5_take_26 ?_
  refine j_put C wfp_X5_31 dX5_take_27 ⟨_, rfl⟩ (fun h7 => ?_)
  exact j_vret C dX5_take_30
