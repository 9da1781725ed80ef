def f_X6_keep (a0 : Nat) (h : Hp) : Option (Int32 × Hp) :=
  bnd (gO h a0 6) fun _ => bnd (gI h a0 6 8) fun x1 => if x1 < (2 : Int32) then (bnd (gR h a0 6 7) fun a3 => bnd (gI h a0 6 8) fun x4 => bnd (ldR h a3 x4) fun a5 => bnd (gR h a0 6 4) fun a6 => bnd (f_X2_copyFrom a5 a6 h) fun h7 => bnd (gI h7 a0 6 8) fun x8 => bnd (pF h7 a0 6 8 (.int (x8 + (1 : Int32)))) fun h9 => bnd (gI h9 a0 6 8) fun x10 => some (x10, h9)) else (some ((-3 : Int32), h))
set_option maxHeartbeats 4000000 in
set_option maxRecDepth 100000 in
theorem c_X6_keep (l : Launch) (D : hD) (a0 : Nat) (h : Hp) (x : (Int32 × Hp)) (e : f_X6_keep a0 h = some x) : (∃ fs, gO h a0 6 = some fs) ∧ Ct l D yX6_keep cX6_keep 1 (some .int) 2 47 [.ref a0] h (some (.int x.1)) x.2 := by
  obtain ⟨fs, g1, g2⟩ := bnd_some e
  refine ⟨⟨fs, g1⟩, ?_⟩
  refine ct_of (out := oI) g2 (by decide +kernel) rfl (fun B C hin hl hd => ?_)
  subst hl; subst hd
  show J B _ _ h 0 [(0, .ref a0)] []
  refine j_aload_n C dX6_keep_0 0 rfl rfl ?_
  refine j_getI C wfl_X6_94 dX6_keep_1 (fun x1 => ?_)
  refine j_iconst C (2 : Int32) dX6_keep_4 (by decide) ?_
  refine j_icmp_lt C 11 dX6_keep_5 (by decide) (fun c2 => ?_) (fun c2 => ?_)
  · refine j_aload_n C dX6_keep_11 0 rfl rfl ?_
    refine j_getR C wfl_X6_34 dX6_keep_12 (fun a3 => ?_)
    refine j_aload_n C dX6_keep_15 0 rfl rfl ?_
    refine j_getI C wfl_X6_94 dX6_keep_16 (fun x4 => ?_)
    refine j_aaload C dX6_keep_19 (fun a5 => ?_)
    refine j_aload_n C dX6_keep_20 0 rfl rfl ?_
    refine j_getR C wfl_X6_27 dX6_keep_21 (fun a6 => ?_)
    refine j_cV (st := []) (fun x e => ⟨runsV C wml_X6_84 wce_X2_copyFrom (c_X2_copyFrom (bL B) (bD B) _ _ _ x e).1 rfl rfl rfl rfl rfl dX6_keep_24, (c_X2_copyFrom (bL B) (bD B) _ _ _ x e).2⟩) (fun h7 => ?_)
    refine j_aload_n C dX6_keep_27 0 rfl rfl ?_
    refine j_dup C dX6_keep_28 (fun _ => rfl) ?_
    refine j_getI C wfl_X6_94 dX6_keep_29 (fun x8 => ?_)
    refine j_iconst C (1 : Int32) dX6_keep_32 (by decide) ?_
    refine j_iadd C dX6_keep_33 ?_
    refine j_put C wfp_X6_94 dX6_keep_34 ⟨_, rfl⟩ (fun h9 => ?_)
    refine j_aload_n C dX6_keep_37 0 rfl rfl ?_
    refine j_getI C wfl_X6_94 dX6_keep_38 (fun x10 => ?_)
    exact j_iret C dX6_keep_41
  · refine j_bipush C (-3 : Int32) dX6_keep_8 (by decide) ?_
    exact j_iret C dX6_keep_10
def f_X0_dropKind (a0 : Nat) (p1 : Int32) (h : Hp) : Option Hp :=
  bnd (gO h a0 0) fun _ => bnd (f_X6_isKind p1) fun x1 => jn1 (fun (h2 : Hp) => some h2) fun k3 => if x1 = 0 then (k3 h) else (bnd (gR h a0 0 0) fun a5 => bnd (stI 0 h a5 p1 (0 : Int32)) fun h6 => k3 h6)
set_option maxHeartbeats 4000000 in
set_option maxRecDepth 100000 in
theorem c_X0_dropKind (l : Launch) (D : hD) (a0 : Nat) (p1 : Int32) (h : Hp) (x : Hp) (e : f_X0_dropKind a0 p1 h = some x) : (∃ fs, gO h a0 0 = some fs) ∧ Ct l D yX0_dropKind cX0_dropKind 2 none 1 20 [.ref a0, .int p1] h none x := by
  obtain ⟨fs, g1, g2⟩ := bnd_some e
  refine ⟨⟨fs, g1⟩, ?_⟩
  refine ct_of (out := oV) g2 (by decide +kernel) rfl (fun B C hin hl hd => ?_)
  subst hl; subst hd
  show J B _ _ h 0 [(0, .ref a0), (1, .int p1)] []
  refine j_iload_n C dX0_dropKind_0 1 rfl rfl ?_
  refine j_cIp (st := []) (fun x e => ⟨runsS C wml_X0_30 wce_X6_isKind rfl rfl rfl rfl rfl dX0_dropKind_1, c_X6_isKind (bL B) (bD B) _ _ x e⟩) (fun x1 => ?_)
  refine J.jn1 14 (fun (h2 : Hp) => h2) (fun (h2 : Hp) => []) (fun (h2 : Hp) => []) (fun h2 => ?_) (fun k3 hk3 => ?_)
  · exact j_vret C dX0_dropKind_14
  refine j_if_eq C 14 dX0_dropKind_4 (by decide) (fun c4 => ?_) (fun c4 => ?_)
  · refine J.sub (lv' := []) [] rfl ?_
    exact hk3 h
  · refine j_aload_n C dX0_dropKind_7 0 rfl rfl ?_
    refine j_getR C wfl_X0_9 dX0_dropKind_8 (fun a5 => ?_)
    refine j_iload_n C dX0_dropKind_11 1 rfl rfl ?_
    refine j_iconst C (0 : Int32) dX0_dropKind_12 (by decide) ?_
    refine j_iastore C dX0_dropKind_13 (fun h6 => ?_)
    refine J.sub (lv' := []) [] rfl ?_
    exact hk3 h6
def f_X6_lacks (a0 : Nat) (p1 : Int32) (h : Hp) : Option (Int32 × Hp) :=
  bnd (gO h a0 6) fun _ => bnd (f_X6_isKind p1) fun x1 => if x1 = 0 then (some ((-1 : Int32), h)) else (bnd (gR h a0 6 11) fun a3 => bnd (gR h a0 6 4) fun a4 => bnd (f_X0_takeAll a3 a4 h) fun h5 => bnd (gR h5 a0 6 11) fun a6 => bnd (gR h5 a0 6 4) fun a7 => bnd2 (f_X0_longest a6 a7 h5) fun x8 h9 => bnd (gR h9 a0 6 11) fun a10 => bnd (f_X0_dropKind a10 p1 h9) fun h11 => bnd (gR h11 a0 6 11) fun a12 => bnd (gR h11 a0 6 4) fun a13 => bnd2 (f_X0_longest a12 a13 h11) fun x14 h15 => some ((x8 - x14), h15))
set_option maxHeartbeats 4000000 in
set_option maxRecDepth 100000 in
theorem c_X6_lacks (l : Launch) (D : hD) (a0 : Nat) (p1 : Int32) (h : Hp) (x : (Int32 × Hp)) (e : f_X6_lacks a0 p1 h = some x) : (∃ fs, gO h a0 6 = some fs) ∧ Ct l D yX6_lacks cX6_lacks 3 (some .int) 4 99 [.ref a0, .int p1] h (some (.int x.1)) x.2 := by
  obtain ⟨fs, g1, g2⟩ := bnd_some e
  refine ⟨⟨fs, g1⟩, ?_⟩
  refine ct_of (out := oI) g2 (by decide +kernel) rfl (fun B C hin hl hd => ?_)
  subst hl; subst hd
  show J B _ _ h 0 [(0, .ref a0), (1, .int p1)] []
  refine j_iload_n C dX6_lacks_0 1 rfl rfl ?_
  refine j_cIp (st := []) (fun x e => ⟨runsS C wml_X6_200 wce_X6_isKind rfl rfl rfl rfl rfl dX6_lacks_1, c_X6_isKind (bL B) (bD B) _ _ x e⟩) (fun x1 => ?_)
  refine j_if_ne C 9 dX6_lacks_4 (by decide) (fun c2 => ?_) (fun c2 => ?_)
  · refine j_aload_n C dX6_lacks_9 0 rfl rfl ?_
    refine j_getR C wfl_X6_44 dX6_lacks_10 (fun a3 => ?_)
    refine j_aload_n C dX6_lacks_13 0 rfl rfl ?_
    refine j_getR C wfl_X6_27 dX6_lacks_14 (fun a4 => ?_)
    refine j_cV (st := []) (fun x e => ⟨runsV C wml_X6_180 wce_X0_takeAll (c_X0_takeAll (bL B) (bD B) _ _ _ x e).1 rfl rfl rfl rfl rfl dX6_lacks_17, (c_X0_takeAll (bL B) (bD B) _ _ _ x e).2⟩) (fun h5 => ?_)
    refine j_aload_n C dX6_lacks_20 0 rfl rfl ?_
    refine j_getR C wfl_X6_44 dX6_lacks_21 (fun a6 => ?_)
    refine j_aload_n C dX6_lacks_24 0 rfl rfl ?_
    refine j_getR C wfl_X6_27 dX6_lacks_25 (fun a7 => ?_)
    refine j_cI (st := []) (fun x e => ⟨runsV C wml_X6_187 wce_X0_longest (c_X0_longest (bL B) (bD B) _ _ _ x e).1 rfl rfl rfl rfl rfl dX6_lacks_28, (c_X0_longest (bL B) (bD B) _ _ _ x e).2⟩) (fun x8 h9 => ?_)
    refine j_istore_n (lv' := [(2, .int x8), (0, .ref a0), (1, .int p1)]) C dX6_lacks_31 rfl rfl rfl ?_
    refine j_aload_n C dX6_lacks_32 1 rfl rfl ?_
    refine j_getR C wfl_X6_44 dX6_lacks_33 (fun a10 => ?_)
    refine j_iload_n C dX6_lacks_36 2 rfl rfl ?_
    refine j_cV (st := []) (fun x e => ⟨runsV C wml_X6_206 wce_X0_dropKind (c_X0_dropKind (bL B) (bD B) _ _ _ x e).1 rfl rfl rfl rfl rfl dX6_lacks_37, (c_X0_dropKind (bL B) (bD B) _ _ _ x e).2⟩) (fun h11 => ?_)
    refine j_iload_n C dX6_lacks_40 0 rfl rfl ?_
    refine j_aload_n C dX6_lacks_41 1 rfl rfl ?_
    refine j_getR C wfl_X6_44 dX6_lacks_42 (fun a12 => ?_)
    refine j_aload_n C dX6_lacks_45 1 rfl rfl ?_
    refine j_getR C wfl_X6_27 dX6_lacks_46 (fun a13 => ?_)
    refine j_cI (st := [.int x8]) (fun x e => ⟨runsV C wml_X6_187 wce_X0_longest (c_X0_longest (bL B) (bD B) _ _ _ x e).1 rfl rfl rfl rfl rfl dX6_lacks_49, (c_X0_longest (bL B) (bD B) _ _ _ x e).2⟩) (fun x14 h15 => ?_)
    refine j_isub C dX6_lacks_52 ?_
    exact j_iret C dX6_lacks_53
  · refine j_iconst C (-1 : Int32) dX6_lacks_7 (by decide) ?_
    exact j_iret C dX6_lacks_8
def f_X6_lay (a0 : Nat) (h : Hp) : Option (Int32 × Hp) :=
  bnd (gO h a0 6) fun _ => bnd (gR h a0 6 2) fun a1 => bnd (gR h a0 6 0) fun a2 => bnd (gI h a0 6 1) fun x3 => bnd (gR h a0 6 3) fun a4 => bnd2 (f_X4_read a1 a2 x3 a4 h) fun x5 h6 => jn0 (some ((-2 : Int32), h6)) fun k7 => if x5 = (-4 : Int32) then (bnd (gR h6 a0 6 3) fun a9 => bnd (gI h6 a9 2 2) fun x10 => if x10 = 0 then k7 else (bnd (gR h6 a0 6 4) fun a12 => bnd (gR h6 a0 6 3) fun a13 => bnd (f_X2_copyFrom a12 a13 h6) fun h14 => bnd (pF h14 a0 6 10 (.int (0 : Int32))) fun h15 => bnd (pF h15 a0 6 6 (.int (0 : Int32))) fun h16 => bnd (pF h16 a0 6 8 (.int (0 : Int32))) fun h17 => bnd (gR h17 a0 6 4) fun a18 => bnd (gI h17 a18 2 2) fun x19 => some (x19, h17))) else k7
set_option maxHeartbeats 4000000 in
set_option maxRecDepth 100000 in
theorem c_X6_lay (l : Launch) (D : hD) (a0 : Nat) (h : Hp) (x : (Int32 × Hp)) (e : f_X6_lay a0 h = some x) : (∃ fs, gO h a0 6 = some fs) ∧ Ct l D yX6_lay cX6_lay 1 (some .int) 5 120 [.ref a0] h (some (.int x.1)) x.2 := by
  obtain ⟨fs, g1, g2⟩ := bnd_some e
  refine ⟨⟨fs, g1⟩, ?_⟩
  refine ct_of (out := oI) g2 (by decide +kernel) rfl (fun B C hin hl hd => ?_)
  subst hl; subst hd
  show J B _ _ h 0 [(0, .ref a0)] []
  refine j_aload_n C dX6_lay_0 0 rfl rfl ?_
  refine j_getR C wfl_X6_16 dX6_lay_1 (fun a1 => ?_)
  refine j_aload_n C dX6_lay_4 0 rfl rfl ?_
  refine j_getR C wfl_X6_9 dX6_lay_5 (fun a2 => ?_)
  refine j_aload_n C dX6_lay_8 0 rfl rfl ?_
  refine j_getI C wfl_X6_73 dX6_lay_9 (fun x3 => ?_)
  refine j_aload_n C dX6_lay_12 0 rfl rfl ?_
  refine j_getR C wfl_X6_23 dX6_lay_13 (fun a4 => ?_)
  refine j_cI (st := []) (fun x e => ⟨runsV C wml_X6_77 wce_X4_read (c_X4_read (bL B) (bD B) _ _ _ _ _ x e).1 rfl rfl rfl rfl rfl dX6_lay_16, (c_X4_read (bL B) (bD B) _ _ _ _ _ x e).2⟩) (fun x5 h6 => ?_)
  refine j_bipush C (-4 : Int32) dX6_lay_19 (by decide) ?_
  refine J.jn0 (h0 := h6) (lv0 := []) (st0 := []) 34 ?_ (fun k7 hk7 => ?_)
  · refine j_bipush C (-2 : Int32) dX6_lay_34 (by decide) ?_
    exact j_iret C dX6_lay_36
  refine j_icmp_ne C 34 dX6_lay_21 (by decide) (fun c8 => ?_) (fun c8 => ?_)
  · refine J.sub (lv' := []) [] rfl ?_
    exact hk7
  · refine j_aload_n C dX6_lay_24 0 rfl rfl ?_
    refine j_getR C wfl_X6_23 dX6_lay_25 (fun a9 => ?_)
    refine j_getI C wfl_X6_81 dX6_lay_28 (fun x10 => ?_)
    refine j_if_ne C 37 dX6_lay_31 (by decide) (fun c11 => ?_) (fun c11 => ?_)
    · refine j_aload_n C dX6_lay_37 0 rfl rfl ?_
      refine j_getR C wfl_X6_27 dX6_lay_38 (fun a12 => ?_)
      refine j_aload_n C dX6_lay_41 0 rfl rfl ?_
      refine j_getR C wfl_X6_23 dX6_lay_42 (fun a13 => ?_)
      refine j_cV (st := []) (fun x e => ⟨runsV C wml_X6_84 wce_X2_copyFrom (c_X2_copyFrom (bL B) (bD B) _ _ _ x e).1 rfl rfl rfl rfl rfl dX6_lay_45, (c_X2_copyFrom (bL B) (bD B) _ _ _ x e).2⟩) (fun h14 => ?_)
      refine j_aload_n C dX6_lay_48 0 rfl rfl ?_
      refine j_iconst C (0 : Int32) dX6_lay_49 (by decide) ?_
      refine j_put C wfp_X6_88 dX6_lay_50 ⟨_, rfl⟩ (fun h15 => ?_)
      refine j_aload_n C dX6_lay_53 0 rfl rfl ?_
      refine j_iconst C (0 : Int32) dX6_lay_54 (by decide) ?_
      refine j_put C wfp_X6_91 dX6_lay_55 ⟨_, rfl⟩ (fun h16 => ?_)
      refine j_aload_n C dX6_lay_58 0 rfl rfl ?_
      refine j_iconst C (0 : Int32) dX6_lay_59 (by decide) ?_
      refine j_put C wfp_X6_94 dX6_lay_60 ⟨_, rfl⟩ (fun h17 => ?_)
      refine j_aload_n C dX6_lay_63 0 rfl rfl ?_
      refine j_getR C wfl_X6_27 dX6_lay_64 (fun a18 => ?_)
      refine j_getI C wfl_X6_81 dX6_lay_67 (fun x19 => ?_)
      exact j_iret C dX6_lay_70
    · refine J.sub (lv' := []) [] rfl ?_
      exact hk7
def f_X2_fitsNow (a0 : Nat) (p1 : Int32) (h : Hp) : Option Int32 :=
  bnd (gO h a0 2) fun _ => bnd (f_X2_kindOf a0 p1 h) fun x1 => bnd (gI h a0 2 9) fun x2 => bnd (gI h a0 2 10) fun x3 => bnd (f_X6_fits x1 x2 x3) fun x4 => rZp x4
set_option maxHeartbeats 4000000 in
set_option maxRecDepth 100000 in
theorem c_X2_fitsNow (l : Launch) (D : hD) (a0 : Nat) (p1 : Int32) (h : Hp) (x : Int32) (e : f_X2_fitsNow a0 p1 h = some x) : (∃ fs, gO h a0 2 = some fs) ∧ Ct l D yX2_fitsNow cX2_fitsNow 2 (some .boolean) 2 42 [.ref a0, .int p1] h (some (.int x)) h := by
  obtain ⟨fs, g1, g2⟩ := bnd_some e
  refine ⟨⟨fs, g1⟩, ?_⟩
  refine ct_of (out := (oIp h)) g2 (by decide +kernel) rfl (fun B C hin hl hd => ?_)
  subst hl; subst hd
  show J B _ _ h 0 [(0, .ref a0), (1, .int p1)] []
  refine j_aload_n C dX2_fitsNow_0 0 rfl rfl ?_
  refine j_iload_n C dX2_fitsNow_1 1 rfl rfl ?_
  refine j_cIp (st := []) (fun x e => ⟨runsV C wml_X2_62 wce_X2_kindOf (c_X2_kindOf (bL B) (bD B) _ _ _ x e).1 rfl rfl rfl rfl rfl dX2_fitsNow_2, (c_X2_kindOf (bL B) (bD B) _ _ _ x e).2⟩) (fun x1 => ?_)
  refine j_aload_n C dX2_fitsNow_5 0 rfl rfl ?_
  refine j_getI C wfl_X2_43 dX2_fitsNow_6 (fun x2 => ?_)
  refine j_aload_n C dX2_fitsNow_9 0 rfl rfl ?_
  refine j_getI C wfl_X2_46 dX2_fitsNow_10 (fun x3 => ?_)
  refine j_cIp (st := []) (fun x e => ⟨runsS C wml_X2_66 wce_X6_fits rfl rfl rfl rfl rfl dX2_fitsNow_13, c_X6_fits (bL B) (bD B) _ _ _ _ x e⟩) (fun x4 => ?_)
  exact j_zretp C dX2_fitsNow_16
def f_X6_may (a0 : Nat) (p1 : Int32) (h : Hp) : Option Int32 :=
  bnd (gO h a0 6) fun _ => bnd (gR h a0 6 4) fun a1 => bnd (f_X2_has a1 p1 h) fun x2 => if x2 = 0 then (some (-1 : Int32)) else (bnd (gR h a0 6 4) fun a4 => bnd (f_X2_waits a4 p1 h) fun x5 => if x5 = 0 then (some (-2 : Int32)) else (bnd (gR h a0 6 4) fun a7 => bnd (f_X2_fitsNow a7 p1 h) fun x8 => jn1 (fun (w9 : Int32) => some w9) fun k10 => if x8 = 0 then (k10 (0 : Int32)) else (k10 (1 : Int32))))
set_option maxHeartbeats 4000000 in
set_option maxRecDepth 100000 in
theorem c_X6_may (l : Launch) (D : hD) (a0 : Nat) (p1 : Int32) (h : Hp) (x : Int32) (e : f_X6_may a0 p1 h = some x) : (∃ fs, gO h a0 6 = some fs) ∧ Ct l D yX6_may cX6_may 2 (some .int) 3 63 [.ref a0, .int p1] h (some (.int x)) h := by
  obtain ⟨fs, g1, g2⟩ := bnd_some e
  refine ⟨⟨fs, g1⟩, ?_⟩
  refine ct_of (out := (oIp h)) g2 (by decide +kernel) rfl (fun B C hin hl hd => ?_)
  subst hl; subst hd
  show J B _ _ h 0 [(0, .ref a0), (1, .int p1)] []
  refine j_aload_n C dX6_may_0 0 rfl rfl ?_
  refine j_getR C wfl_X6_27 dX6_may_1 (fun a1 => ?_)
  refine j_iload_n C dX6_may_4 1 rfl rfl ?_
  refine j_cIp (st := []) (fun x e => ⟨runsV C wml_X6_97 wce_X2_has (c_X2_has (bL B) (bD B) _ _ _ x e).1 rfl rfl rfl rfl rfl dX6_may_5, (c_X2_has (bL B) (bD B) _ _ _ x e).2⟩) (fun x2 => ?_)
  refine j_if_ne C 13 dX6_may_8 (by decide) (fun c3 => ?_) (fun c3 => ?_)
  · refine j_aload_n C dX6_may_13 0 rfl rfl ?_
    refine j_getR C wfl_X6_27 dX6_may_14 (fun a4 => ?_)
    refine j_iload_n C dX6_may_17 1 rfl rfl ?_
    refine j_cIp (st := []) (fun x e => ⟨runsV C wml_X6_116 wce_X2_waits (c_X2_waits (bL B) (bD B) _ _ _ x e).1 rfl rfl rfl rfl rfl dX6_may_18, (c_X2_waits (bL B) (bD B) _ _ _ x e).2⟩) (fun x5 => ?_)
    refine j_if_ne C 27 dX6_may_21 (by decide) (fun c6 => ?_) (fun c6 => ?_)
    · refine j_aload_n C dX6_may_27 0 rfl rfl ?_
      refine j_getR C wfl_X6_27 dX6_may_28 (fun a7 => ?_)
      refine j_iload_n C dX6_may_31 1 rfl rfl ?_
      refine j_cIp (st := []) (fun x e => ⟨runsV C wml_X6_119 wce_X2_fitsNow (c_X2_fitsNow (bL B) (bD B) _ _ _ x e).1 rfl rfl rfl rfl rfl dX6_may_32, (c_X2_fitsNow (bL B) (bD B) _ _ _ x e).2⟩) (fun x8 => ?_)
      refine J.jn1 43 (fun (w9 : Int32) => h) (fun (w9 : Int32) => []) (fun (w9 : Int32) => [.int w9]) (fun w9 => ?_) (fun k10 hk10 => ?_)
      · exact j_iretp C dX6_may_43
      refine j_if_eq C 42 dX6_may_35 (by decide) (fun c11 => ?_) (fun c11 => ?_)
      · refine j_iconst C (0 : Int32) dX6_may_42 (by decide) ?_
        refine J.sub (lv' := []) [] rfl ?_
        exact hk10 (0 : Int32)
      · refine j_iconst C (1 : Int32) dX6_may_38 (by decide) ?_
        refine j_goto C 43 dX6_may_39 (by decide) ?_
        refine J.sub (lv' := []) [] rfl ?_
        exact hk10 (1 : Int32)
    · refine j_bipush C (-2 : Int32) dX6_may_24 (by decide) ?_
      exact j_iretp C dX6_may_26
  · refine j_iconst C (-1 : Int32) dX6_may_11 (by decide) ?_
    exact j_iretp C dX6_may_12
def f_X6_more (a0 : Nat) (p1 : Int32) (h : Hp) : Option (Int32 × Hp) :=
  bnd (gO h a0 6) fun _ => bnd (f_X6_isKind p1) fun x1 => if x1 = 0 then (some ((-1 : Int32), h)) else (bnd (gR h a0 6 11) fun a3 => bnd (gR h a0 6 4) fun a4 => bnd (f_X0_takeAll a3 a4 h) fun h5 => bnd (gR h5 a0 6 11) fun a6 => bnd (gR h5 a0 6 4) fun a7 => bnd2 (f_X0_longest a6 a7 h5) fun x8 h9 => bnd (gR h9 a0 6 11) fun a10 => bnd (f_X0_addOne a10 p1 h9) fun h11 => bnd (gR h11 a0 6 11) fun a12 => bnd (gR h11 a0 6 4) fun a13 => bnd2 (f_X0_longest a12 a13 h11) fun x14 h15 => some ((x14 - x8), h15))
set_option maxHeartbeats 4000000 in
set_option maxRecDepth 100000 in
theorem c_X6_more (l : Launch) (D : hD) (a0 : Nat) (p1 : Int32) (h : Hp) (x : (Int32 × Hp)) (e : f_X6_more a0 p1 h = some x) : (∃ fs, gO h a0 6 = some fs) ∧ Ct l D yX6_more cX6_more 3 (some .int) 4 99 [.ref a0, .int p1] h (some (.int x.1)) x.2 := by
  obtain ⟨fs, g1, g2⟩ := bnd_some e
  refine ⟨⟨fs, g1⟩, ?_⟩
  refine ct_of (out := oI) g2 (by decide +kernel) rfl (fun B C hin hl hd => ?_)
  subst hl; subst hd
  show J B _ _ h 0 [(0, .ref a0), (1, .int p1)] []
  refine j_iload_n C dX6_more_0 1 rfl rfl ?_
  refine j_cIp (st := []) (fun x e => ⟨runsS C wml_X6_200 wce_X6_isKind rfl rfl rfl rfl rfl dX6_more_1, c_X6_isKind (bL B) (bD B) _ _ x e⟩) (fun x1 => ?_)
  refine j_if_ne C 9 dX6_more_4 (by decide) (fun c2 => ?_) (fun c2 => ?_)
  · refine j_aload_n C dX6_more_9 0 rfl rfl ?_
    refine j_getR C wfl_X6_44 dX6_more_10 (fun a3 => ?_)
    refine j_aload_n C dX6_more_13 0 rfl rfl ?_
    refine j_getR C wfl_X6_27 dX6_more_14 (fun a4 => ?_)
    refine j_cV (st := []) (fun x e => ⟨runsV C wml_X6_180 wce_X0_takeAll (c_X0_takeAll (bL B) (bD B) _ _ _ x e).1 rfl rfl rfl rfl rfl dX6_more_17, (c_X0_takeAll (bL B) (bD B) _ _ _ x e).2⟩) (fun h5 => ?_)
    refine j_aload_n C dX6_more_20 0 rfl rfl ?_
    refine j_getR C wfl_X6_44 dX6_more_21 (fun a6 => ?_)
    refine j_aload_n C dX6_more_24 0 rfl rfl ?_
    refine j_getR C wfl_X6_27 dX6_more_25 (fun a7 => ?_)
    refine j_cI (st := []) (fun x e => ⟨runsV C wml_X6_187 wce_X0_longest (c_X0_longest (bL B) (bD B) _ _ _ x e).1 rfl rfl rfl rfl rfl dX6_more_28, (c_X0_longest (bL B) (bD B) _ _ _ x e).2⟩) (fun x8 h9 => ?_)
    refine j_istore_n (lv' := [(2, .int x8), (0, .ref a0), (1, .int p1)]) C dX6_more_31 rfl rfl rfl ?_
    refine j_aload_n C dX6_more_32 1 rfl rfl ?_
    refine j_getR C wfl_X6_44 dX6_more_33 (fun a10 => ?_)
    refine j_iload_n C dX6_more_36 2 rfl rfl ?_
    refine j_cV (st := []) (fun x e => ⟨runsV C wml_X6_203 wce_X0_addOne (c_X0_addOne (bL B) (bD B) _ _ _ x e).1 rfl rfl rfl rfl rfl dX6_more_37, (c_X0_addOne (bL B) (bD B) _ _ _ x e).2⟩) (fun h11 => ?_)
    refine j_aload_n C dX6_more_40 1 rfl rfl ?_
    refine j_getR C wfl_X6_44 dX6_more_41 (fun a12 => ?_)
    refine j_aload_n C dX6_more_44 1 rfl rfl ?_
    refine j_getR C wfl_X6_27 dX6_more_45 (fun a13 => ?_)
    refine j_cI (st := []) (fun x e => ⟨runsV C wml_X6_187 wce_X0_longest (c_X0_longest (bL B) (bD B) _ _ _ x e).1 rfl rfl rfl rfl rfl dX6_more_48, (c_X0_longest (bL B) (bD B) _ _ _ x e).2⟩) (fun x14 h15 => ?_)
    refine j_iload_n C dX6_more_51 0 rfl rfl ?_
    refine j_isub C dX6_more_52 ?_
    exact j_iret C dX6_more_53
  · refine j_iconst C (-1 : Int32) dX6_more_7 (by decide) ?_
    exact j_iret C dX6_more_8
def f_X0_nextInRow (a0 : Nat) (p1 : Nat) (p2 : Int32) (p3 : Int32) (p4 : Int32) (p5 : Int32) (h : Hp) : Option Int32 :=
  bnd (gO h a0 0) fun _ => bnd (f_X6_memoryOf p4 p5) fun x1 => bnd (f_X0_answerAt a0 p3 x1 h) fun x2 => bnd (gI h p1 2 0) fun x3 => bnd (f_X6_heldBefore x3 p4) fun x4 => wl1 (fun r6 (i5 : Int32) => if (10 : Int32) ≤ i5 then (some (-4 : Int32)) else (bnd (f_X2_kindOf p1 i5 h) fun x8 => bnd (f_X2_waits p1 i5 h) fun x9 => jn0 (r6 (i5 + (1 : Int32))) fun k10 => if x9 = 0 then k10 else (if ((p2 >>> (i5 &&& 31)) &&& (1 : Int32)) = 0 then (bnd (f_X6_isKind x8) fun x13 => if x13 = 0 then k10 else (bnd (f_X6_fits x8 p4 p5) fun x15 => if x15 = 0 then k10 else (bnd (gR h a0 0 1) fun a17 => bnd (ldI 0 h a17 x8) fun x18 => bnd (f_X6_memoryOf x8 x4) fun x19 => bnd (f_X0_answerAt a0 (p3 - x18) x19 h) fun x20 => if ((1 : Int32) + x20) = x2 then (some i5) else k10))) else k10))) fuel (0 : Int32)
set_option maxHeartbeats 4000000 in
set_option maxRecDepth 100000 in
theorem c_X0_nextInRow (l : Launch) (D : hD) (a0 : Nat) (p1 : Nat) (p2 : Int32) (p3 : Int32) (p4 : Int32) (p5 : Int32) (h : Hp) (x : Int32) (e : f_X0_nextInRow a0 p1 p2 p3 p4 p5 h = some x) : (∃ fs, gO h a0 0 = some fs) ∧ Ct l D yX0_nextInRow cX0_nextInRow 10 (some .int) 2 42 [.ref a0, .ref p1, .int p2, .int p3, .int p4, .int p5] h (some (.int x)) h := by
  obtain ⟨fs, g1, g2⟩ := bnd_some e
  refine ⟨⟨fs, g1⟩, ?_⟩
  refine ct_of (out := (oIp h)) g2 (by decide +kernel) rfl (fun B C hin hl hd => ?_)
  subst hl; subst hd
  show J B _ _ h 0 [(0, .ref a0), (1, .ref p1), (2, .int p2), (3, .int p3), (4, .int p4), (5, .int p5)] []
  refine j_aload_n C dX0_nextInRow_0 0 rfl rfl ?_
  refine j_iload_n C dX0_nextInRow_1 3 rfl rfl ?_
  refine j_iload C dX0_nextInRow_2 4 rfl ?_
  refine j_iload C dX0_nextInRow_4 5 rfl ?_
  refine j_cIp (st := [.int p3, .ref a0]) (fun x e => ⟨runsS C wml_X0_77 wce_X6_memoryOf rfl rfl rfl rfl rfl dX0_nextInRow_6, c_X6_memoryOf (bL B) (bD B) _ _ _ x e⟩) (fun x1 => ?_)
  refine j_cIp (st := []) (fun x e => ⟨runsV C wml_X0_89 wce_X0_answerAt (c_X0_answerAt (bL B) (bD B) _ _ _ _ x e).1 rfl rfl rfl rfl rfl dX0_nextInRow_9, (c_X0_answerAt (bL B) (bD B) _ _ _ _ x e).2⟩) (fun x2 => ?_)
  refine j_istore (lv' := [(6, .int x2), (0, .ref a0), (1, .ref p1), (2, .int p2), (3, .int p3), (4, .int p4), (5, .int p5)]) C dX0_nextInRow_12 rfl rfl ?_
  refine j_aload_n C dX0_nextInRow_14 2 rfl rfl ?_
  refine j_getI C wfl_X0_71 dX0_nextInRow_15 (fun x3 => ?_)
  refine j_iload C dX0_nextInRow_18 5 rfl ?_
  refine j_cIp (st := []) (fun x e => ⟨runsS C wml_X0_92 wce_X6_heldBefore rfl rfl rfl rfl rfl dX0_nextInRow_20, c_X6_heldBefore (bL B) (bD B) _ _ _ x e⟩) (fun x4 => ?_)
  refine j_istore (lv' := [(7, .int x4), (6, .int x2), (0, .ref a0), (1, .ref p1), (2, .int p2), (3, .int p3), (4, .int p4), (5, .int p5)]) C dX0_nextInRow_23 rfl rfl ?_
  refine j_iconst C (0 : Int32) dX0_nextInRow_25 (by decide) ?_
  refine j_istore (lv' := [(8, .int (0 : Int32)), (7, .int x4), (6, .int x2), (0, .ref a0), (1, .ref p1), (2, .int p2), (3, .int p3), (4, .int p4), (5, .int p5)]) C dX0_nextInRow_26 rfl rfl ?_
  refine J.sub (lv' := [(0, .ref a0), (1, .ref p1), (2, .int p2), (3, .int p3), (4, .int p4), (5, .int p5), (6, .int x2), (7, .int x4), (8, .int (0 : Int32))]) [3, 4, 5, 6, 7, 8, 2, 1, 0] rfl ?_
  refine J.wl1 28 (fun (i5 : Int32) => h) (fun (i5 : Int32) => [(0, .ref a0), (1, .ref p1), (2, .int p2), (3, .int p3), (4, .int p4), (5, .int p5), (6, .int x2), (7, .int x4), (8, .int i5)]) (fun (i5 : Int32) => []) (fun r6 hr6 i5 => ?_) fuel (0 : Int32)
  refine j_iload C dX0_nextInRow_28 8 rfl ?_
  refine j_bipush C (10 : Int32) dX0_nextInRow_30 (by decide) ?_
  refine j_icmp_ge C 117 dX0_nextInRow_32 (by decide) (fun c7 => ?_) (fun c7 => ?_)
  · refine j_bipush C (-4 : Int32) dX0_nextInRow_117 (by decide) ?_
    exact j_iretp C dX0_nextInRow_119
  · refine j_aload_n C dX0_nextInRow_35 1 rfl rfl ?_
    refine j_iload C dX0_nextInRow_36 8 rfl ?_
    refine j_cIp (st := []) (fun x e => ⟨runsV C wml_X0_42 wce_X2_kindOf (c_X2_kindOf (bL B) (bD B) _ _ _ x e).1 rfl rfl rfl rfl rfl dX0_nextInRow_38, (c_X2_kindOf (bL B) (bD B) _ _ _ x e).2⟩) (fun x8 => ?_)
    refine j_istore (lv' := [(9, .int x8), (0, .ref a0), (1, .ref p1), (2, .int p2), (3, .int p3), (4, .int p4), (5, .int p5), (6, .int x2), (7, .int x4), (8, .int i5)]) C dX0_nextInRow_41 rfl rfl ?_
    refine j_aload_n C dX0_nextInRow_43 2 rfl rfl ?_
    refine j_iload C dX0_nextInRow_44 9 rfl ?_
    refine j_cIp (st := []) (fun x e => ⟨runsV C wml_X0_37 wce_X2_waits (c_X2_waits (bL B) (bD B) _ _ _ x e).1 rfl rfl rfl rfl rfl dX0_nextInRow_46, (c_X2_waits (bL B) (bD B) _ _ _ x e).2⟩) (fun x9 => ?_)
    refine J.jn0 (h0 := h) (lv0 := [(0, .ref a0), (1, .ref p1), (2, .int p2), (3, .int p3), (4, .int p4), (5, .int p5), (6, .int x2), (7, .int x4), (8, .int i5)]) (st0 := []) 111 ?_ (fun k10 hk10 => ?_)
    · refine j_iinc (lv' := [(8, .int (i5 + (1 : Int32))), (0, .ref a0), (1, .ref p1), (2, .int p2), (3, .int p3), (4, .int p4), (5, .int p5), (6, .int x2), (7, .int x4)]) C (1 : Int32) dX0_nextInRow_111 8 rfl (by decide) rfl rfl ?_
      refine j_goto C 28 dX0_nextInRow_114 (by decide) ?_
      refine J.sub (lv' := [(0, .ref a0), (1, .ref p1), (2, .int p2), (3, .int p3), (4, .int p4), (5, .int p5), (6, .int x2), (7, .int x4), (8, .int (i5 + (1 : Int32)))]) [1, 2, 3, 4, 5, 6, 7, 8, 0] rfl ?_
      exact hr6 (i5 + (1 : Int32))
    refine j_if_eq C 111 dX0_nextInRow_49 (by decide) (fun c11 => ?_) (fun c11 => ?_)
    · refine J.sub (lv' := [(0, .ref a0), (1, .ref p1), (2, .int p2), (3, .int p3), (4, .int p4), (5, .int p5), (6, .int x2), (7, .int x4), (8, .int i5)]) [1, 2, 3, 4, 5, 6, 7, 8, 9] rfl ?_
      exact hk10
    · refine j_iload_n C dX0_nextInRow_52 3 rfl rfl ?_
      refine j_iload C dX0_nextInRow_53 9 rfl ?_
      refine j_ishr C dX0_nextInRow_55 ?_
      refine j_iconst C (1 : Int32) dX0_nextInRow_56 (by decide) ?_
      refine j_iand C dX0_nextInRow_57 ?_
      refine j_if_ne C 111 dX0_nextInRow_58 (by decide) (fun c12 => ?_) (fun c12 => ?_)
      · refine J.sub (lv' := [(0, .ref a0), (1, .ref p1), (2, .int p2), (3, .int p3), (4, .int p4), (5, .int p5), (6, .int x2), (7, .int x4), (8, .int i5)]) [1, 2, 3, 4, 5, 6, 7, 8, 9] rfl ?_
        exact hk10
      · refine j_iload C dX0_nextInRow_61 0 rfl ?_
        refine j_cIp (st := []) (fun x e => ⟨runsS C wml_X0_30 wce_X6_isKind rfl rfl rfl rfl rfl dX0_nextInRow_63, c_X6_isKind (bL B) (bD B) _ _ x e⟩) (fun x13 => ?_)
        refine j_if_eq C 111 dX0_nextInRow_66 (by decide) (fun c14 => ?_) (fun c14 => ?_)
        · refine J.sub (lv' := [(0, .ref a0), (1, .ref p1), (2, .int p2), (3, .int p3), (4, .int p4), (5, .int p5), (6, .int x2), (7, .int x4), (8, .int i5)]) [1, 2, 3, 4, 5, 6, 7, 8, 9] rfl ?_
          exact hk10
        · refine j_iload C dX0_nextInRow_69 0 rfl ?_
          refine j_iload C dX0_nextInRow_71 5 rfl ?_
          refine j_iload C dX0_nextInRow_73 6 rfl ?_
          refine j_cIp (st := []) (fun x e => ⟨runsS C wml_X0_95 wce_X6_fits rfl rfl rfl rfl rfl dX0_nextInRow_75, c_X6_fits (bL B) (bD B) _ _ _ _ x e⟩) (fun x15 => ?_)
          refine j_if_eq C 111 dX0_nextInRow_78 (by decide) (fun c16 => ?_) (fun c16 => ?_)
          · refine J.sub (lv' := [(0, .ref a0), (1, .ref p1), (2, .int p2), (3, .int p3), (4, .int p4), (5, .int p5), (6, .int x2), (7, .int x4), (8, .int i5)]) [1, 2, 3, 4, 5, 6, 7, 8, 9] rfl ?_
            exact hk10
          · refine j_iconst C (1 : Int32) dX0_nextInRow_81 (by decide) ?_
            refine j_aload_n C dX0_nextInRow_82 1 rfl rfl ?_
            refine j_iload_n C dX0_nextInRow_83 4 rfl rfl ?_
            refine j_aload_n C dX0_nextInRow_84 1 rfl rfl ?_
            refine j_getR C wfl_X0_15 dX0_nextInRow_85 (fun a17 => ?_)
            refine j_iload C dX0_nextInRow_88 0 rfl ?_
            refine j_iaload C dX0_nextInRow_90 (fun x18 => ?_)
            refine j_isub C dX0_nextInRow_91 ?_
            refine j_iload C dX0_nextInRow_92 0 rfl ?_
            refine j_iload C dX0_nextInRow_94 8 rfl ?_
            refine j_cIp (st := [.int (p3 - x18), .ref a0, .int (1 : Int32)]) (fun x e => ⟨runsS C wml_X0_77 wce_X6_memoryOf rfl rfl rfl rfl rfl dX0_nextInRow_96, c_X6_memoryOf (bL B) (bD B) _ _ _ x e⟩) (fun x19 => ?_)
            refine j_cIp (st := [.int (1 : Int32)]) (fun x e => ⟨runsV C wml_X0_89 wce_X0_answerAt (c_X0_answerAt (bL B) (bD B) _ _ _ _ x e).1 rfl rfl rfl rfl rfl dX0_nextInRow_99, (c_X0_answerAt (bL B) (bD B) _ _ _ _ x e).2⟩) (fun x20 => ?_)
            refine j_iadd C dX0_nextInRow_102 ?_
            refine j_iload C dX0_nextInRow_103 7 rfl ?_
            refine j_icmp_ne C 111 dX0_nextInRow_105 (by decide) (fun c21 => ?_) (fun c21 => ?_)
            · refine J.sub (lv' := [(0, .ref a0), (1, .ref p1), (2, .int p2), (3, .int p3), (4, .int p4), (5, .int p5), (6, .int x2), (7, .int x4), (8, .int i5)]) [1, 2, 3, 4, 5, 6, 7, 8, 9] rfl ?_
              exact hk10
            · refine j_iload C dX0_nextInRow_108 9 rfl ?_
              exact j_iretp C dX0_nextInRow_110
def f_X0_rowSack (a0 : Nat) (p1 : Nat) (p2 : Int32) (h : Hp) : Option Int32 :=
  bnd (gO h a0 0) fun _ => bnd (gI h p1 2 9) fun x1 => bnd (gI h p1 2 10) fun x2 => bnd (gI h a0 0 3) fun x3 => nm (x3 - (1 : Int32)) fun v4 => wl6 (fun r11 (i5 : Int32) (i6 : Int32) (i7 : Int32) (i8 : Int32) (i9 : Int32) (i10 : Int32) => jn0 (some i9) fun k12 => if p2 < i10 then k12 else (if (10 : Int32) ≤ i10 then k12 else (bnd (f_X0_nextInRow a0 p1 i8 i7 i5 i6 h) fun x15 => bnd (f_X2_kindOf p1 x15 h) fun x16 => bnd (f_X6_isKind x16) fun x17 => if x17 = 0 then (some (-4 : Int32)) else (nm (i8 ||| ((1 : Int32) <<< (x15 &&& 31))) fun v19 => bnd (gR h a0 0 1) fun a20 => bnd (ldI 0 h a20 x16) fun x21 => nm (i7 - x21) fun v22 => bnd (gI h p1 2 0) fun x23 => bnd (f_X6_heldBefore x23 i5) fun x24 => r11 x16 x24 v22 v19 x15 (i10 + (1 : Int32)))))) fuel x1 x2 v4 (0 : Int32) (-4 : Int32) (0 : Int32)
set_option maxHeartbeats 4000000 in
set_option maxRecDepth 100000 in
theorem c_X0_rowSack (l : Launch) (D : hD) (a0 : Nat) (p1 : Nat) (p2 : Int32) (h : Hp) (x : Int32) (e : f_X0_rowSack a0 p1 p2 h = some x) : (∃ fs, gO h a0 0 = some fs) ∧ Ct l D yX0_rowSack cX0_rowSack 10 (some .int) 3 71 [.ref a0, .ref p1, .int p2] h (some (.int x)) h := by
  obtain ⟨fs, g1, g2⟩ := bnd_some e
  refine ⟨⟨fs, g1⟩, ?_⟩
  refine ct_of (out := (oIp h)) g2 (by decide +kernel) rfl (fun B C hin hl hd => ?_)
  subst hl; subst hd
  show J B _ _ h 0 [(0, .ref a0), (1, .ref p1), (2, .int p2)] []
  refine j_aload_n C dX0_rowSack_0 1 rfl rfl ?_
  refine j_getI C wfl_X0_104 dX0_rowSack_1 (fun x1 => ?_)
  refine j_istore_n (lv' := [(3, .int x1), (0, .ref a0), (1, .ref p1), (2, .int p2)]) C dX0_rowSack_4 rfl rfl rfl ?_
  refine j_aload_n C dX0_rowSack_5 2 rfl rfl ?_
  refine j_getI C wfl_X0_107 dX0_rowSack_6 (fun x2 => ?_)
  refine j_istore (lv' := [(4, .int x2), (3, .int x1), (0, .ref a0), (1, .ref p1), (2, .int p2)]) C dX0_rowSack_9 rfl rfl ?_
  refine j_aload_n C dX0_rowSack_11 2 rfl rfl ?_
  refine j_getI C wfl_X0_53 dX0_rowSack_12 (fun x3 => ?_)
  refine j_iconst C (1 : Int32) dX0_rowSack_15 (by decide) ?_
  refine j_isub C dX0_rowSack_16 ?_
  refine j_nmI (fun v4 => ?_)
  refine j_istore (lv' := [(5, .int v4), (4, .int x2), (3, .int x1), (0, .ref a0), (1, .ref p1), (2, .int p2)]) C dX0_rowSack_17 rfl rfl ?_
  refine j_iconst C (0 : Int32) dX0_rowSack_19 (by decide) ?_
  refine j_istore (lv' := [(6, .int (0 : Int32)), (5, .int v4), (4, .int x2), (3, .int x1), (0, .ref a0), (1, .ref p1), (2, .int p2)]) C dX0_rowSack_20 rfl rfl ?_
  refine j_bipush C (-4 : Int32) dX0_rowSack_22 (by decide) ?_
  refine j_istore (lv' := [(7, .int (-4 : Int32)), (6, .int (0 : Int32)), (5, .int v4), (4, .int x2), (3, .int x1), (0, .ref a0), (1, .ref p1), (2, .int p2)]) C dX0_rowSack_24 rfl rfl ?_
  refine j_iconst C (0 : Int32) dX0_rowSack_26 (by decide) ?_
  refine j_istore (lv' := [(8, .int (0 : Int32)), (7, .int (-4 : Int32)), (6, .int (0 : Int32)), (5, .int v4), (4, .int x2), (3, .int x1), (0, .ref a0), (1, .ref p1), (2, .int p2)]) C dX0_rowSack_27 rfl rfl ?_
  refine J.sub (lv' := [(0, .ref a0), (1, .ref p1), (2, .int p2), (3, .int x1), (4, .int x2), (5, .int v4), (6, .int (0 : Int32)), (7, .int (-4 : Int32)), (8, .int (0 : Int32))]) [6, 7, 8, 5, 4, 3, 2, 1, 0] rfl ?_
  refine J.wl6 29 (fun (i5 : Int32) (i6 : Int32) (i7 : Int32) (i8 : Int32) (i9 : Int32) (i10 : Int32) => h) (fun (i5 : Int32) (i6 : Int32) (i7 : Int32) (i8 : Int32) (i9 : Int32) (i10 : Int32) => [(0, .ref a0), (1, .ref p1), (2, .int p2), (3, .int i5), (4, .int i6), (5, .int i7), (6, .int i8), (7, .int i9), (8, .int i10)]) (fun (i5 : Int32) (i6 : Int32) (i7 : Int32) (i8 : Int32) (i9 : Int32) (i10 : Int32) => []) (fun r11 hr11 i5 i6 i7 i8 i9 i10 => ?_) fuel x1 x2 v4 (0 : Int32) (-4 : Int32) (0 : Int32)
  refine j_iload C dX0_rowSack_29 8 rfl ?_
  refine j_iload_n C dX0_rowSack_31 2 rfl rfl ?_
  refine J.jn0 (h0 := h) (lv0 := [(7, .int i9)]) (st0 := []) 115 ?_ (fun k12 hk12 => ?_)
  · refine j_iload C dX0_rowSack_115 0 rfl ?_
    exact j_iretp C dX0_rowSack_117
  refine j_icmp_gt C 115 dX0_rowSack_32 (by decide) (fun c13 => ?_) (fun c13 => ?_)
  · refine J.sub (lv' := [(7, .int i9)]) [7] rfl ?_
    exact hk12
  · refine j_iload C dX0_rowSack_35 8 rfl ?_
    refine j_bipush C (10 : Int32) dX0_rowSack_37 (by decide) ?_
    refine j_icmp_ge C 115 dX0_rowSack_39 (by decide) (fun c14 => ?_) (fun c14 => ?_)
    · refine J.sub (lv' := [(7, .int i9)]) [7] rfl ?_
      exact hk12
    · refine j_aload_n C dX0_rowSack_42 0 rfl rfl ?_
      refine j_aload_n C dX0_rowSack_43 1 rfl rfl ?_
      refine j_iload C dX0_rowSack_44 6 rfl ?_
      refine j_iload C dX0_rowSack_46 5 rfl ?_
      refine j_iload_n C dX0_rowSack_48 3 rfl rfl ?_
      refine j_iload C dX0_rowSack_49 4 rfl ?_
      refine j_cIp (st := []) (fun x e => ⟨runsV C wml_X0_110 wce_X0_nextInRow (c_X0_nextInRow (bL B) (bD B) _ _ _ _ _ _ _ x e).1 rfl rfl rfl rfl rfl dX0_rowSack_51, (c_X0_nextInRow (bL B) (bD B) _ _ _ _ _ _ _ x e).2⟩) (fun x15 => ?_)
      refine j_istore (lv' := [(7, .int x15), (0, .ref a0), (1, .ref p1), (2, .int p2), (3, .int i5), (4, .int i6), (5, .int i7), (6, .int i8), (8, .int i10)]) C dX0_rowSack_54 rfl rfl ?_
      refine j_aload_n C dX0_rowSack_56 2 rfl rfl ?_
      refine j_iload C dX0_rowSack_57 0 rfl ?_
      refine j_cIp (st := []) (fun x e => ⟨runsV C wml_X0_42 wce_X2_kindOf (c_X2_kindOf (bL B) (bD B) _ _ _ x e).1 rfl rfl rfl rfl rfl dX0_rowSack_59, (c_X2_kindOf (bL B) (bD B) _ _ _ x e).2⟩) (fun x16 => ?_)
      refine j_istore (lv' := [(9, .int x16), (7, .int x15), (0, .ref a0), (1, .ref p1), (2, .int p2), (3, .int i5), (4, .int i6), (5, .int i7), (6, .int i8), (8, .int i10)]) C dX0_rowSack_62 rfl rfl ?_
      refine j_iload C dX0_rowSack_64 0 rfl ?_
      refine j_cIp (st := []) (fun x e => ⟨runsS C wml_X0_30 wce_X6_isKind rfl rfl rfl rfl rfl dX0_rowSack_66, c_X6_isKind (bL B) (bD B) _ _ x e⟩) (fun x17 => ?_)
      refine j_if_ne C 75 dX0_rowSack_69 (by decide) (fun c18 => ?_) (fun c18 => ?_)
      · refine j_iload C dX0_rowSack_75 8 rfl ?_
        refine j_iconst C (1 : Int32) dX0_rowSack_77 (by decide) ?_
        refine j_iload C dX0_rowSack_78 1 rfl ?_
        refine j_ishl C dX0_rowSack_80 ?_
        refine j_ior C dX0_rowSack_81 ?_
        refine j_nmI (fun v19 => ?_)
        refine j_istore (lv' := [(6, .int v19), (9, .int x16), (7, .int x15), (0, .ref a0), (1, .ref p1), (2, .int p2), (3, .int i5), (4, .int i6), (5, .int i7), (8, .int i10)]) C dX0_rowSack_82 rfl rfl ?_
        refine j_iload C dX0_rowSack_84 8 rfl ?_
        refine j_aload_n C dX0_rowSack_86 3 rfl rfl ?_
        refine j_getR C wfl_X0_15 dX0_rowSack_87 (fun a20 => ?_)
        refine j_iload C dX0_rowSack_90 1 rfl ?_
        refine j_iaload C dX0_rowSack_92 (fun x21 => ?_)
        refine j_isub C dX0_rowSack_93 ?_
        refine j_nmI (fun v22 => ?_)
        refine j_istore (lv' := [(5, .int v22), (6, .int v19), (9, .int x16), (7, .int x15), (0, .ref a0), (1, .ref p1), (2, .int p2), (3, .int i5), (4, .int i6), (8, .int i10)]) C dX0_rowSack_94 rfl rfl ?_
        refine j_aload_n C dX0_rowSack_96 5 rfl rfl ?_
        refine j_getI C wfl_X0_71 dX0_rowSack_97 (fun x23 => ?_)
        refine j_iload_n C dX0_rowSack_100 7 rfl rfl ?_
        refine j_cIp (st := []) (fun x e => ⟨runsS C wml_X0_92 wce_X6_heldBefore rfl rfl rfl rfl rfl dX0_rowSack_101, c_X6_heldBefore (bL B) (bD B) _ _ _ x e⟩) (fun x24 => ?_)
        refine j_istore (lv' := [(4, .int x24), (5, .int v22), (6, .int v19), (9, .int x16), (7, .int x15), (0, .ref a0), (1, .ref p1), (2, .int p2), (3, .int i5), (8, .int i10)]) C dX0_rowSack_104 rfl rfl ?_
        refine j_iload C dX0_rowSack_106 3 rfl ?_
        refine j_istore_n (lv' := [(3, .int x16), (4, .int x24), (5, .int v22), (6, .int v19), (9, .int x16), (7, .int x15), (0, .ref a0), (1, .ref p1), (2, .int p2), (8, .int i10)]) C dX0_rowSack_108 rfl rfl rfl ?_
        refine j_iinc (lv' := [(8, .int (i10 + (1 : Int32))), (3, .int x16), (4, .int x24), (5, .int v22), (6, .int v19), (9, .int x16), (7, .int x15), (0, .ref a0), (1, .ref p1), (2, .int p2)]) C (1 : Int32) dX0_rowSack_109 9 rfl (by decide) rfl rfl ?_
        refine j_goto C 29 dX0_rowSack_112 (by decide) ?_
        refine J.sub (lv' := [(0, .ref a0), (1, .ref p1), (2, .int p2), (3, .int x16), (4, .int x24), (5, .int v22), (6, .int v19), (7, .int x15), (8, .int (i10 + (1 : Int32)))]) [7, 8, 9, 1, 2, 3, 4, 6, 0] rfl ?_
        exact hr11 x16 x24 v22 v19 x15 (i10 + (1 : Int32))
      · refine j_bipush C (-4 : Int32) dX0_rowSack_72 (by decide) ?_
        exact j_iretp C dX0_rowSack_74
def f_X1_pourOneMore (a0 : Nat) (p1 : Int32) (p2 : Int32) (p3 : Int32) (p4 : Int32) (p5 : Int32) (h : Hp) : Option Hp :=
  bnd (gO h a0 1) fun _ => wl2 (fun r3 (i1 : Int32) (h2 : Hp) => bnd (gI h2 a0 1 7) fun x4 => if x4 ≤ i1 then (some h2) else (bnd (gR h2 a0 1 6) fun a6 => bnd (ldI 0 h2 a6 i1) fun x7 => bnd (gR h2 a0 1 1) fun a8 => bnd (ldI 0 h2 a8 x7) fun x9 => jn1 (fun (h10 : Hp) => r3 (i1 + (1 : Int32)) h10) fun k11 => if x9 = p2 then (k11 h2) else (bnd (gR h2 a0 1 1) fun a13 => bnd (ldI 0 h2 a13 x7) fun x14 => if x14 = p3 then (k11 h2) else (bnd (gR h2 a0 1 1) fun a16 => bnd (ldI 0 h2 a16 x7) fun x17 => nm ((((p1 ||| ((1 : Int32) <<< (x7 &&& 31))) * (36 : Int32)) + (x17 * (6 : Int32))) + p4) fun v18 => bnd (gR h2 a0 1 3) fun a19 => bnd (ldI 0 h2 a19 x7) fun x20 => jn1 (fun (w21 : Int32) => bnd (gR h2 a0 1 2) fun a23 => bnd (ldI 0 h2 a23 x7) fun x24 => nm (w21 + x24) fun v25 => if v18 < 0 then (k11 h2) else (bnd (gR h2 a0 1 8) fun a27 => bnd (aLn h2 a27) fun x28 => if x28 ≤ v18 then (k11 h2) else (bnd (gR h2 a0 1 8) fun a30 => bnd (ldI 0 h2 a30 v18) fun x31 => if x31 ≤ v25 then (k11 h2) else (bnd (gR h2 a0 1 8) fun a33 => bnd (stI 0 h2 a33 v18 v25) fun h34 => k11 h34)))) fun k22 => if x20 ≤ p5 then (k22 p5) else (bnd (gR h2 a0 1 3) fun a36 => bnd (ldI 0 h2 a36 x7) fun x37 => k22 x37))))) fuel (0 : Int32) h
set_option maxHeartbeats 4000000 in
set_option maxRecDepth 100000 in
theorem c_X1_pourOneMore (l : Launch) (D : hD) (a0 : Nat) (p1 : Int32) (p2 : Int32) (p3 : Int32) (p4 : Int32) (p5 : Int32) (h : Hp) (x : Hp) (e : f_X1_pourOneMore a0 p1 p2 p3 p4 p5 h = some x) : (∃ fs, gO h a0 1 = some fs) ∧ Ct l D yX1_pourOneMore cX1_pourOneMore 10 none 0 0 [.ref a0, .int p1, .int p2, .int p3, .int p4, .int p5] h none x := by
  obtain ⟨fs, g1, g2⟩ := bnd_some e
  refine ⟨⟨fs, g1⟩, ?_⟩
  refine ct_of (out := oV) g2 (by decide +kernel) rfl (fun B C hin hl hd => ?_)
  subst hl; subst hd
  show J B _ _ h 0 [(0, .ref a0), (1, .int p1), (2, .int p2), (3, .int p3), (4, .int p4), (5, .int p5)] []
  refine j_iconst C (0 : Int32) dX1_pourOneMore_0 (by decide) ?_
  refine j_istore (lv' := [(6, .int (0 : Int32)), (0, .ref a0), (1, .int p1), (2, .int p2), (3, .int p3), (4, .int p4), (5, .int p5)]) C dX1_pourOneMore_1 rfl rfl ?_
  refine J.sub (lv' := [(0, .ref a0), (1, .int p1), (2, .int p2), (3, .int p3), (4, .int p4), (5, .int p5), (6, .int (0 : Int32))]) [1, 2, 3, 4, 5, 6, 0] rfl ?_
  refine J.wl2 3 (fun (i1 : Int32) (h2 : Hp) => h2) (fun (i1 : Int32) (h2 : Hp) => [(0, .ref a0), (1, .int p1), (2, .int p2), (3, .int p3), (4, .int p4), (5, .int p5), (6, .int i1)]) (fun (i1 : Int32) (h2 : Hp) => []) (fun r3 hr3 i1 h2 => ?_) fuel (0 : Int32) h
  refine j_iload C dX1_pourOneMore_3 6 rfl ?_
  refine j_aload_n C dX1_pourOneMore_5 0 rfl rfl ?_
  refine j_getI C wfl_X1_122 dX1_pourOneMore_6 (fun x4 => ?_)
  refine j_icmp_ge C 144 dX1_pourOneMore_9 (by decide) (fun c5 => ?_) (fun c5 => ?_)
  · exact j_vret C dX1_pourOneMore_144
  · refine j_aload_n C dX1_pourOneMore_12 0 rfl rfl ?_
    refine j_getR C wfl_X1_24 dX1_pourOneMore_13 (fun a6 => ?_)
    refine j_iload C dX1_pourOneMore_16 6 rfl ?_
    refine j_iaload C dX1_pourOneMore_18 (fun x7 => ?_)
    refine j_istore (lv' := [(7, .int x7), (0, .ref a0), (1, .int p1), (2, .int p2), (3, .int p3), (4, .int p4), (5, .int p5), (6, .int i1)]) C dX1_pourOneMore_19 rfl rfl ?_
    refine j_aload_n C dX1_pourOneMore_21 1 rfl rfl ?_
    refine j_getR C wfl_X1_15 dX1_pourOneMore_22 (fun a8 => ?_)
    refine j_iload C dX1_pourOneMore_25 0 rfl ?_
    refine j_iaload C dX1_pourOneMore_27 (fun x9 => ?_)
    refine j_iload_n C dX1_pourOneMore_28 3 rfl rfl ?_
    refine J.jn1 138 (fun (h10 : Hp) => h10) (fun (h10 : Hp) => [(0, .ref a0), (1, .int p1), (2, .int p2), (3, .int p3), (4, .int p4), (5, .int p5), (6, .int i1)]) (fun (h10 : Hp) => []) (fun h10 => ?_) (fun k11 hk11 => ?_)
    · refine j_iinc (lv' := [(6, .int (i1 + (1 : Int32))), (0, .ref a0), (1, .int p1), (2, .int p2), (3, .int p3), (4, .int p4), (5, .int p5)]) C (1 : Int32) dX1_pourOneMore_138 6 rfl (by decide) rfl rfl ?_
      refine j_goto C 3 dX1_pourOneMore_141 (by decide) ?_
      refine J.sub (lv' := [(0, .ref a0), (1, .int p1), (2, .int p2), (3, .int p3), (4, .int p4), (5, .int p5), (6, .int (i1 + (1 : Int32)))]) [1, 2, 3, 4, 5, 6, 0] rfl ?_
      exact hr3 (i1 + (1 : Int32)) h10
    refine j_icmp_eq C 138 dX1_pourOneMore_29 (by decide) (fun c12 => ?_) (fun c12 => ?_)
    · refine J.sub (lv' := [(0, .ref a0), (1, .int p1), (2, .int p2), (3, .int p3), (4, .int p4), (5, .int p5), (6, .int i1)]) [1, 2, 3, 4, 5, 6, 7] rfl ?_
      exact hk11 h2
    · refine j_aload_n C dX1_pourOneMore_32 1 rfl rfl ?_
      refine j_getR C wfl_X1_15 dX1_pourOneMore_33 (fun a13 => ?_)
      refine j_iload C dX1_pourOneMore_36 0 rfl ?_
      refine j_iaload C dX1_pourOneMore_38 (fun x14 => ?_)
      refine j_iload_n C dX1_pourOneMore_39 4 rfl rfl ?_
      refine j_icmp_eq C 138 dX1_pourOneMore_40 (by decide) (fun c15 => ?_) (fun c15 => ?_)
      · refine J.sub (lv' := [(0, .ref a0), (1, .int p1), (2, .int p2), (3, .int p3), (4, .int p4), (5, .int p5), (6, .int i1)]) [1, 2, 3, 4, 5, 6, 7] rfl ?_
        exact hk11 h2
      · refine j_iload_n C dX1_pourOneMore_43 2 rfl rfl ?_
        refine j_iconst C (1 : Int32) dX1_pourOneMore_44 (by decide) ?_
        refine j_iload C dX1_pourOneMore_45 0 rfl ?_
        refine j_ishl C dX1_pourOneMore_47 ?_
        refine j_ior C dX1_pourOneMore_48 ?_
        refine j_bipush C (36 : Int32) dX1_pourOneMore_49 (by decide) ?_
        refine j_imul C dX1_pourOneMore_51 ?_
        refine j_aload_n C dX1_pourOneMore_52 1 rfl rfl ?_
        refine j_getR C wfl_X1_15 dX1_pourOneMore_53 (fun a16 => ?_)
        refine j_iload C dX1_pourOneMore_56 0 rfl ?_
        refine j_iaload C dX1_pourOneMore_58 (fun x17 => ?_)
        refine j_bipush C (6 : Int32) dX1_pourOneMore_59 (by decide) ?_
        refine j_imul C dX1_pourOneMore_61 ?_
        refine j_iadd C dX1_pourOneMore_62 ?_
        refine j_iload C dX1_pourOneMore_63 5 rfl ?_
        refine j_iadd C dX1_pourOneMore_65 ?_
        refine j_nmI (fun v18 => ?_)
        refine j_istore (lv' := [(8, .int v18), (7, .int x7), (0, .ref a0), (1, .int p1), (2, .int p2), (3, .int p3), (4, .int p4), (5, .int p5), (6, .int i1)]) C dX1_pourOneMore_66 rfl rfl ?_
        refine j_aload_n C dX1_pourOneMore_68 2 rfl rfl ?_
        refine j_getR C wfl_X1_21 dX1_pourOneMore_69 (fun a19 => ?_)
        refine j_iload C dX1_pourOneMore_72 1 rfl ?_
        refine j_iaload C dX1_pourOneMore_74 (fun x20 => ?_)
        refine j_iload C dX1_pourOneMore_75 7 rfl ?_
        refine J.jn1 92 (fun (w21 : Int32) => h2) (fun (w21 : Int32) => [(0, .ref a0), (1, .int p1), (2, .int p2), (3, .int p3), (4, .int p4), (5, .int p5), (6, .int i1), (7, .int x7), (8, .int v18)]) (fun (w21 : Int32) => [.int w21]) (fun w21 => ?_) (fun k22 hk22 => ?_)
        · refine j_aload_n C dX1_pourOneMore_92 0 rfl rfl ?_
          refine j_getR C wfl_X1_18 dX1_pourOneMore_93 (fun a23 => ?_)
          refine j_iload C dX1_pourOneMore_96 7 rfl ?_
          refine j_iaload C dX1_pourOneMore_98 (fun x24 => ?_)
          refine j_iadd C dX1_pourOneMore_99 ?_
          refine j_nmI (fun v25 => ?_)
          refine j_istore (lv' := [(9, .int v25), (0, .ref a0), (1, .int p1), (2, .int p2), (3, .int p3), (4, .int p4), (5, .int p5), (6, .int i1), (7, .int x7), (8, .int v18)]) C dX1_pourOneMore_100 rfl rfl ?_
          refine j_iload C dX1_pourOneMore_102 9 rfl ?_
          refine j_if_lt C 138 dX1_pourOneMore_104 (by decide) (fun c26 => ?_) (fun c26 => ?_)
          · refine J.sub (lv' := [(0, .ref a0), (1, .int p1), (2, .int p2), (3, .int p3), (4, .int p4), (5, .int p5), (6, .int i1)]) [1, 2, 3, 4, 5, 6, 7] rfl ?_
            exact hk11 h2
          · refine j_iload C dX1_pourOneMore_107 9 rfl ?_
            refine j_aload_n C dX1_pourOneMore_109 1 rfl rfl ?_
            refine j_getR C wfl_X1_27 dX1_pourOneMore_110 (fun a27 => ?_)
            refine j_alen C dX1_pourOneMore_113 (fun x28 => ?_)
            refine j_icmp_ge C 138 dX1_pourOneMore_114 (by decide) (fun c29 => ?_) (fun c29 => ?_)
            · refine J.sub (lv' := [(0, .ref a0), (1, .int p1), (2, .int p2), (3, .int p3), (4, .int p4), (5, .int p5), (6, .int i1)]) [1, 2, 3, 4, 5, 6, 7] rfl ?_
              exact hk11 h2
            · refine j_iload C dX1_pourOneMore_117 0 rfl ?_
              refine j_aload_n C dX1_pourOneMore_119 1 rfl rfl ?_
              refine j_getR C wfl_X1_27 dX1_pourOneMore_120 (fun a30 => ?_)
              refine j_iload C dX1_pourOneMore_123 9 rfl ?_
              refine j_iaload C dX1_pourOneMore_125 (fun x31 => ?_)
              refine j_icmp_ge C 138 dX1_pourOneMore_126 (by decide) (fun c32 => ?_) (fun c32 => ?_)
              · refine J.sub (lv' := [(0, .ref a0), (1, .int p1), (2, .int p2), (3, .int p3), (4, .int p4), (5, .int p5), (6, .int i1)]) [1, 2, 3, 4, 5, 6, 7] rfl ?_
                exact hk11 h2
              · refine j_aload_n C dX1_pourOneMore_129 1 rfl rfl ?_
                refine j_getR C wfl_X1_27 dX1_pourOneMore_130 (fun a33 => ?_)
                refine j_iload C dX1_pourOneMore_133 9 rfl ?_
                refine j_iload C dX1_pourOneMore_135 0 rfl ?_
                refine j_iastore C dX1_pourOneMore_137 (fun h34 => ?_)
                refine J.sub (lv' := [(0, .ref a0), (1, .int p1), (2, .int p2), (3, .int p3), (4, .int p4), (5, .int p5), (6, .int i1)]) [1, 2, 3, 4, 5, 6, 7] rfl ?_
                exact hk11 h34
        refine j_icmp_le C 90 dX1_pourOneMore_77 (by decide) (fun c35 => ?_) (fun c35 => ?_)
        · refine j_iload C dX1_pourOneMore_90 7 rfl ?_
          refine J.sub (lv' := [(0, .ref a0), (1, .int p1), (2, .int p2), (3, .int p3), (4, .int p4), (5, .int p5), (6, .int i1), (7, .int x7), (8, .int v18)]) [2, 3, 4, 5, 6, 7, 8, 1, 0] rfl ?_
          exact hk22 p5
        · refine j_aload_n C dX1_pourOneMore_80 2 rfl rfl ?_
          refine j_getR C wfl_X1_21 dX1_pourOneMore_81 (fun a36 => ?_)
          refine j_iload C dX1_pourOneMore_84 1 rfl ?_
          refine j_iaload C dX1_pourOneMore_86 (fun x37 => ?_)
          refine j_goto C 92 dX1_pourOneMore_87 (by decide) ?_
          refine J.sub (lv' := [(0, .ref a0), (1, .int p1), (2, .int p2), (3, .int p3), (4, .int p4), (5, .int p5), (6, .int i1), (7, .int x7), (8, .int v18)]) [2, 3, 4, 5, 6, 7, 8, 1, 0] rfl ?_
          exact hk22 x37
