def f_X4_takePrice (a0 : Nat) (p1 : Nat) (h : Hp) : Option (Int32 × Hp) :=
  bnd (gO h a0 4) fun _ => bnd (gR h a0 4 0) fun a1 => bnd (ldI 0 h a1 (0 : Int32)) fun x2 => bnd (pF h p1 2 1 (.int x2)) fun h3 => rZ (1 : Int32) h3
set_option maxHeartbeats 4000000 in
set_option maxRecDepth 100000 in
theorem c_X4_takePrice (l : Launch) (D : hD) (a0 : Nat) (p1 : Nat) (h : Hp) (x : (Int32 × Hp)) (e : f_X4_takePrice a0 p1 h = some x) : (∃ fs, gO h a0 4 = some fs) ∧ Ct l D yX4_takePrice cX4_takePrice 2 (some .boolean) 0 0 [.ref a0, .ref p1] h (some (.int x.1)) x.2 := by
  obtain ⟨fs, g1, g2⟩ := bnd_some e
  refine ⟨⟨fs, g1⟩, ?_⟩
  refine ct_of (out := oI) g2 (by decide +kernel) rfl (fun B C hin hl hd => ?_)
  subst hl; subst hd
  show J B _ _ h 0 [(0, .ref a0), (1, .ref p1)] []
  refine j_aload_n C dX4_takePrice_0 1 rfl rfl ?_
  refine j_aload_n C dX4_takePrice_1 0 rfl rfl ?_
  refine j_getR C wfl_X4_11 dX4_takePrice_2 (fun a1 => ?_)
  refine j_iconst C (0 : Int32) dX4_takePrice_5 (by decide) ?_
  refine j_iaload C dX4_takePrice_6 (fun x2 => ?_)
  refine j_put C wfp_X4_76 dX4_takePrice_7 ⟨_, rfl⟩ (fun h3 => ?_)
  refine j_iconst C (1 : Int32) dX4_takePrice_10 (by decide) ?_
  exact j_zret C dX4_takePrice_11
def f_X2_add (a0 : Nat) (p1 : Int32) (p2 : Int32) (p3 : Int32) (p4 : Int32) (h : Hp) : Option Hp :=
  bnd (gO h a0 2) fun _ => bnd (gI h a0 2 2) fun x1 => if x1 < (10 : Int32) then (bnd (gR h a0 2 3) fun a3 => bnd (gI h a0 2 2) fun x4 => bnd (stI 0 h a3 x4 p1) fun h5 => bnd (gR h5 a0 2 4) fun a6 => bnd (gI h5 a0 2 2) fun x7 => bnd (stI 0 h5 a6 x7 p2) fun h8 => bnd (gR h8 a0 2 5) fun a9 => bnd (gI h8 a0 2 2) fun x10 => bnd (stI 0 h8 a9 x10 p3) fun h11 => bnd (gR h11 a0 2 6) fun a12 => bnd (gI h11 a0 2 2) fun x13 => bnd (stI 0 h11 a12 x13 p4) fun h14 => bnd (gR h14 a0 2 7) fun a15 => bnd (gI h14 a0 2 2) fun x16 => bnd (stI 0 h14 a15 x16 (0 : Int32)) fun h17 => bnd (gI h17 a0 2 2) fun x18 => bnd (pF h17 a0 2 2 (.int (x18 + (1 : Int32)))) fun h19 => some h19) else (some h)
set_option maxHeartbeats 4000000 in
set_option maxRecDepth 100000 in
theorem c_X2_add (l : Launch) (D : hD) (a0 : Nat) (p1 : Int32) (p2 : Int32) (p3 : Int32) (p4 : Int32) (h : Hp) (x : Hp) (e : f_X2_add a0 p1 p2 p3 p4 h = some x) : (∃ fs, gO h a0 2 = some fs) ∧ Ct l D yX2_add cX2_add 5 none 0 0 [.ref a0, .int p1, .int p2, .int p3, .int p4] h none x := by
  obtain ⟨fs, g1, g2⟩ := bnd_some e
  refine ⟨⟨fs, g1⟩, ?_⟩
  refine ct_of (out := oV) g2 (by decide +kernel) rfl (fun B C hin hl hd => ?_)
  subst hl; subst hd
  show J B _ _ h 0 [(0, .ref a0), (1, .int p1), (2, .int p2), (3, .int p3), (4, .int p4)] []
  refine j_aload_n C dX2_add_0 0 rfl rfl ?_
  refine j_getI C wfl_X2_37 dX2_add_1 (fun x1 => ?_)
  refine j_bipush C (10 : Int32) dX2_add_4 (by decide) ?_
  refine j_icmp_lt C 10 dX2_add_6 (by decide) (fun c2 => ?_) (fun c2 => ?_)
  · refine j_aload_n C dX2_add_10 0 rfl rfl ?_
    refine j_getR C wfl_X2_9 dX2_add_11 (fun a3 => ?_)
    refine j_aload_n C dX2_add_14 0 rfl rfl ?_
    refine j_getI C wfl_X2_37 dX2_add_15 (fun x4 => ?_)
    refine j_iload_n C dX2_add_18 1 rfl rfl ?_
    refine j_iastore C dX2_add_19 (fun h5 => ?_)
    refine j_aload_n C dX2_add_20 0 rfl rfl ?_
    refine j_getR C wfl_X2_15 dX2_add_21 (fun a6 => ?_)
    refine j_aload_n C dX2_add_24 0 rfl rfl ?_
    refine j_getI C wfl_X2_37 dX2_add_25 (fun x7 => ?_)
    refine j_iload_n C dX2_add_28 2 rfl rfl ?_
    refine j_iastore C dX2_add_29 (fun h8 => ?_)
    refine j_aload_n C dX2_add_30 0 rfl rfl ?_
    refine j_getR C wfl_X2_18 dX2_add_31 (fun a9 => ?_)
    refine j_aload_n C dX2_add_34 0 rfl rfl ?_
    refine j_getI C wfl_X2_37 dX2_add_35 (fun x10 => ?_)
    refine j_iload_n C dX2_add_38 3 rfl rfl ?_
    refine j_iastore C dX2_add_39 (fun h11 => ?_)
    refine j_aload_n C dX2_add_40 0 rfl rfl ?_
    refine j_getR C wfl_X2_21 dX2_add_41 (fun a12 => ?_)
    refine j_aload_n C dX2_add_44 0 rfl rfl ?_
    refine j_getI C wfl_X2_37 dX2_add_45 (fun x13 => ?_)
    refine j_iload C dX2_add_48 4 rfl ?_
    refine j_iastore C dX2_add_50 (fun h14 => ?_)
    refine j_aload_n C dX2_add_51 0 rfl rfl ?_
    refine j_getR C wfl_X2_24 dX2_add_52 (fun a15 => ?_)
    refine j_aload_n C dX2_add_55 0 rfl rfl ?_
    refine j_getI C wfl_X2_37 dX2_add_56 (fun x16 => ?_)
    refine j_iconst C (0 : Int32) dX2_add_59 (by decide) ?_
    refine j_iastore C dX2_add_60 (fun h17 => ?_)
    refine j_aload_n C dX2_add_61 0 rfl rfl ?_
    refine j_dup C dX2_add_62 (fun _ => rfl) ?_
    refine j_getI C wfl_X2_37 dX2_add_63 (fun x18 => ?_)
    refine j_iconst C (1 : Int32) dX2_add_66 (by decide) ?_
    refine j_iadd C dX2_add_67 ?_
    refine j_put C wfp_X2_37 dX2_add_68 ⟨_, rfl⟩ (fun h19 => ?_)
    exact j_vret C dX2_add_71
  · exact j_vret C dX2_add_9
def f_X6_isKind (p1 : Int32) : Option Int32 :=
  jn1 (fun (w1 : Int32) => rZp w1) fun k2 => jn0 (k2 (0 : Int32)) fun k3 => if p1 < 0 then k3 else (if (5 : Int32) ≤ p1 then k3 else (k2 (1 : Int32)))
set_option maxHeartbeats 4000000 in
set_option maxRecDepth 100000 in
theorem c_X6_isKind (l : Launch) (D : hD) (p1 : Int32) (h : Hp) (x : Int32) (e : f_X6_isKind p1 = some x) : Ct l D yX6_isKind cX6_isKind 1 (some .boolean) 0 0 [.int p1] h (some (.int x)) h := by
  unfold f_X6_isKind at e
  refine ct_of (out := (oIp h)) e (by decide +kernel) rfl (fun B C hin hl hd => ?_)
  subst hl; subst hd
  show J B _ _ h 0 [(0, .int p1)] []
  refine j_iload_n C dX6_isKind_0 0 rfl rfl ?_
  refine J.jn1 14 (fun (w1 : Int32) => h) (fun (w1 : Int32) => []) (fun (w1 : Int32) => [.int w1]) (fun w1 => ?_) (fun k2 hk2 => ?_)
  · exact j_zretp C dX6_isKind_14
  refine J.jn0 (h0 := h) (lv0 := []) (st0 := []) 13 ?_ (fun k3 hk3 => ?_)
  · refine j_iconst C (0 : Int32) dX6_isKind_13 (by decide) ?_
    exact hk2 (0 : Int32)
  refine j_if_lt C 13 dX6_isKind_1 (by decide) (fun c4 => ?_) (fun c4 => ?_)
  · refine J.sub (lv' := []) [] rfl ?_
    exact hk3
  · refine j_iload_n C dX6_isKind_4 0 rfl rfl ?_
    refine j_iconst C (5 : Int32) dX6_isKind_5 (by decide) ?_
    refine j_icmp_ge C 13 dX6_isKind_6 (by decide) (fun c5 => ?_) (fun c5 => ?_)
    · refine J.sub (lv' := []) [] rfl ?_
      exact hk3
    · refine j_iconst C (1 : Int32) dX6_isKind_9 (by decide) ?_
      refine j_goto C 14 dX6_isKind_10 (by decide) ?_
      refine J.sub (lv' := []) [] rfl ?_
      exact hk2 (1 : Int32)
def f_X6_isOwner (p1 : Int32) : Option Int32 :=
  jn1 (fun (w1 : Int32) => rZp w1) fun k2 => jn0 (k2 (0 : Int32)) fun k3 => if p1 < 0 then k3 else (if (5 : Int32) ≤ p1 then k3 else (k2 (1 : Int32)))
set_option maxHeartbeats 4000000 in
set_option maxRecDepth 100000 in
theorem c_X6_isOwner (l : Launch) (D : hD) (p1 : Int32) (h : Hp) (x : Int32) (e : f_X6_isOwner p1 = some x) : Ct l D yX6_isOwner cX6_isOwner 1 (some .boolean) 0 0 [.int p1] h (some (.int x)) h := by
  unfold f_X6_isOwner at e
  refine ct_of (out := (oIp h)) e (by decide +kernel) rfl (fun B C hin hl hd => ?_)
  subst hl; subst hd
  show J B _ _ h 0 [(0, .int p1)] []
  refine j_iload_n C dX6_isOwner_0 0 rfl rfl ?_
  refine J.jn1 14 (fun (w1 : Int32) => h) (fun (w1 : Int32) => []) (fun (w1 : Int32) => [.int w1]) (fun w1 => ?_) (fun k2 hk2 => ?_)
  · exact j_zretp C dX6_isOwner_14
  refine J.jn0 (h0 := h) (lv0 := []) (st0 := []) 13 ?_ (fun k3 hk3 => ?_)
  · refine j_iconst C (0 : Int32) dX6_isOwner_13 (by decide) ?_
    exact hk2 (0 : Int32)
  refine j_if_lt C 13 dX6_isOwner_1 (by decide) (fun c4 => ?_) (fun c4 => ?_)
  · refine J.sub (lv' := []) [] rfl ?_
    exact hk3
  · refine j_iload_n C dX6_isOwner_4 0 rfl rfl ?_
    refine j_iconst C (5 : Int32) dX6_isOwner_5 (by decide) ?_
    refine j_icmp_ge C 13 dX6_isOwner_6 (by decide) (fun c5 => ?_) (fun c5 => ?_)
    · refine J.sub (lv' := []) [] rfl ?_
      exact hk3
    · refine j_iconst C (1 : Int32) dX6_isOwner_9 (by decide) ?_
      refine j_goto C 14 dX6_isOwner_10 (by decide) ?_
      refine J.sub (lv' := []) [] rfl ?_
      exact hk2 (1 : Int32)
def f_X4_takeSack (a0 : Nat) (p1 : Nat) (h : Hp) : Option (Int32 × Hp) :=
  bnd (gO h a0 4) fun _ => bnd (gI h p1 2 2) fun x1 => jn0 (rZ (0 : Int32) h) fun k2 => if (8 : Int32) ≤ x1 then k2 else (bnd (gR h a0 4 0) fun a4 => bnd (ldI 0 h a4 (0 : Int32)) fun x5 => bnd (f_X6_isKind x5) fun x6 => if x6 = 0 then k2 else (bnd (gR h a0 4 0) fun a8 => bnd (ldI 0 h a8 (2 : Int32)) fun x9 => bnd (f_X6_isOwner x9) fun x10 => if x10 = 0 then k2 else (bnd (gR h a0 4 0) fun a12 => bnd (ldI 0 h a12 (1 : Int32)) fun x13 => if x13 < (1 : Int32) then k2 else (bnd (gR h a0 4 0) fun a15 => bnd (ldI 0 h a15 (1 : Int32)) fun x16 => if x16 ≤ (9 : Int32) then (bnd (gR h a0 4 0) fun a18 => bnd (ldI 0 h a18 (0 : Int32)) fun x19 => bnd (gR h a0 4 0) fun a20 => bnd (ldI 0 h a20 (1 : Int32)) fun x21 => bnd (gR h a0 4 0) fun a22 => bnd (ldI 0 h a22 (2 : Int32)) fun x23 => bnd (gR h a0 4 0) fun a24 => bnd (ldI 0 h a24 (3 : Int32)) fun x25 => bnd (f_X2_add p1 x19 x21 x23 x25 h) fun h26 => rZ (1 : Int32) h26) else k2))))
set_option maxHeartbeats 4000000 in
set_option maxRecDepth 100000 in
theorem c_X4_takeSack (l : Launch) (D : hD) (a0 : Nat) (p1 : Nat) (h : Hp) (x : (Int32 × Hp)) (e : f_X4_takeSack a0 p1 h = some x) : (∃ fs, gO h a0 4 = some fs) ∧ Ct l D yX4_takeSack cX4_takeSack 2 (some .boolean) 1 24 [.ref a0, .ref p1] h (some (.int x.1)) x.2 := by
  obtain ⟨fs, g1, g2⟩ := bnd_some e
  refine ⟨⟨fs, g1⟩, ?_⟩
  refine ct_of (out := oI) g2 (by decide +kernel) rfl (fun B C hin hl hd => ?_)
  subst hl; subst hd
  show J B _ _ h 0 [(0, .ref a0), (1, .ref p1)] []
  refine j_aload_n C dX4_takeSack_0 1 rfl rfl ?_
  refine j_getI C wfl_X4_59 dX4_takeSack_1 (fun x1 => ?_)
  refine j_bipush C (8 : Int32) dX4_takeSack_4 (by decide) ?_
  refine J.jn0 (h0 := h) (lv0 := []) (st0 := []) 54 ?_ (fun k2 hk2 => ?_)
  · refine j_iconst C (0 : Int32) dX4_takeSack_54 (by decide) ?_
    exact j_zret C dX4_takeSack_55
  refine j_icmp_ge C 54 dX4_takeSack_6 (by decide) (fun c3 => ?_) (fun c3 => ?_)
  · refine J.sub (lv' := []) [] rfl ?_
    exact hk2
  · refine j_aload_n C dX4_takeSack_9 0 rfl rfl ?_
    refine j_getR C wfl_X4_11 dX4_takeSack_10 (fun a4 => ?_)
    refine j_iconst C (0 : Int32) dX4_takeSack_13 (by decide) ?_
    refine j_iaload C dX4_takeSack_14 (fun x5 => ?_)
    refine j_cIp (st := []) (fun x e => ⟨runsS C wml_X4_62 wce_X6_isKind rfl rfl rfl rfl rfl dX4_takeSack_15, c_X6_isKind (bL B) (bD B) _ _ x e⟩) (fun x6 => ?_)
    refine j_if_eq C 54 dX4_takeSack_18 (by decide) (fun c7 => ?_) (fun c7 => ?_)
    · refine J.sub (lv' := []) [] rfl ?_
      exact hk2
    · refine j_aload_n C dX4_takeSack_21 0 rfl rfl ?_
      refine j_getR C wfl_X4_11 dX4_takeSack_22 (fun a8 => ?_)
      refine j_iconst C (2 : Int32) dX4_takeSack_25 (by decide) ?_
      refine j_iaload C dX4_takeSack_26 (fun x9 => ?_)
      refine j_cIp (st := []) (fun x e => ⟨runsS C wml_X4_66 wce_X6_isOwner rfl rfl rfl rfl rfl dX4_takeSack_27, c_X6_isOwner (bL B) (bD B) _ _ x e⟩) (fun x10 => ?_)
      refine j_if_eq C 54 dX4_takeSack_30 (by decide) (fun c11 => ?_) (fun c11 => ?_)
      · refine J.sub (lv' := []) [] rfl ?_
        exact hk2
      · refine j_aload_n C dX4_takeSack_33 0 rfl rfl ?_
        refine j_getR C wfl_X4_11 dX4_takeSack_34 (fun a12 => ?_)
        refine j_iconst C (1 : Int32) dX4_takeSack_37 (by decide) ?_
        refine j_iaload C dX4_takeSack_38 (fun x13 => ?_)
        refine j_iconst C (1 : Int32) dX4_takeSack_39 (by decide) ?_
        refine j_icmp_lt C 54 dX4_takeSack_40 (by decide) (fun c14 => ?_) (fun c14 => ?_)
        · refine J.sub (lv' := []) [] rfl ?_
          exact hk2
        · refine j_aload_n C dX4_takeSack_43 0 rfl rfl ?_
          refine j_getR C wfl_X4_11 dX4_takeSack_44 (fun a15 => ?_)
          refine j_iconst C (1 : Int32) dX4_takeSack_47 (by decide) ?_
          refine j_iaload C dX4_takeSack_48 (fun x16 => ?_)
          refine j_bipush C (9 : Int32) dX4_takeSack_49 (by decide) ?_
          refine j_icmp_le C 56 dX4_takeSack_51 (by decide) (fun c17 => ?_) (fun c17 => ?_)
          · refine j_aload_n C dX4_takeSack_56 1 rfl rfl ?_
            refine j_aload_n C dX4_takeSack_57 0 rfl rfl ?_
            refine j_getR C wfl_X4_11 dX4_takeSack_58 (fun a18 => ?_)
            refine j_iconst C (0 : Int32) dX4_takeSack_61 (by decide) ?_
            refine j_iaload C dX4_takeSack_62 (fun x19 => ?_)
            refine j_aload_n C dX4_takeSack_63 0 rfl rfl ?_
            refine j_getR C wfl_X4_11 dX4_takeSack_64 (fun a20 => ?_)
            refine j_iconst C (1 : Int32) dX4_takeSack_67 (by decide) ?_
            refine j_iaload C dX4_takeSack_68 (fun x21 => ?_)
            refine j_aload_n C dX4_takeSack_69 0 rfl rfl ?_
            refine j_getR C wfl_X4_11 dX4_takeSack_70 (fun a22 => ?_)
            refine j_iconst C (2 : Int32) dX4_takeSack_73 (by decide) ?_
            refine j_iaload C dX4_takeSack_74 (fun x23 => ?_)
            refine j_aload_n C dX4_takeSack_75 0 rfl rfl ?_
            refine j_getR C wfl_X4_11 dX4_takeSack_76 (fun a24 => ?_)
            refine j_iconst C (3 : Int32) dX4_takeSack_79 (by decide) ?_
            refine j_iaload C dX4_takeSack_80 (fun x25 => ?_)
            refine j_cV (st := []) (fun x e => ⟨runsV C wml_X4_69 wce_X2_add (c_X2_add (bL B) (bD B) _ _ _ _ _ _ x e).1 rfl rfl rfl rfl rfl dX4_takeSack_81, (c_X2_add (bL B) (bD B) _ _ _ _ _ _ x e).2⟩) (fun h26 => ?_)
            refine j_iconst C (1 : Int32) dX4_takeSack_84 (by decide) ?_
            exact j_zret C dX4_takeSack_85
          · refine J.sub (lv' := []) [] rfl ?_
            exact hk2
def f_X4_readItem (a0 : Nat) (p1 : Nat) (p2 : Int32) (p3 : Nat) (h : Hp) : Option (Int32 × Hp) :=
  bnd (gO h a0 4) fun _ => bnd (gI h a0 4 1) fun x1 => jn0 (rZ (0 : Int32) h) fun k2 => if p2 ≤ x1 then k2 else (bnd (gI h a0 4 1) fun x4 => bnd (aLn h p1) fun x5 => if x4 < x5 then (bnd (gI h a0 4 1) fun x7 => bnd (ldI 1 h p1 x7) fun x8 => bnd (gI h a0 4 1) fun x9 => bnd (pF h a0 4 1 (.int (x9 + (1 : Int32)))) fun h10 => sw x8 [(99, 120, bnd2 (f_X4_readNumbers a0 p1 p2 (1 : Int32) h10) fun x12 h13 => jn2 (fun (w14 : Int32) (h15 : Hp) => rZ w14 h15) fun k16 => jn1 (fun (h17 : Hp) => k16 (0 : Int32) h17) fun k18 => if x12 = 0 then (k18 h13) else (bnd2 (f_X4_takePrice a0 p3 h13) fun x20 h21 => if x20 = 0 then (k18 h21) else (k16 (1 : Int32) h21))), (108, 96, bnd2 (f_X4_readNumbers a0 p1 p2 (1 : Int32) h10) fun x23 h24 => jn2 (fun (w25 : Int32) (h26 : Hp) => rZ w25 h26) fun k27 => jn1 (fun (h28 : Hp) => k27 (0 : Int32) h28) fun k29 => if x23 = 0 then (k29 h24) else (bnd2 (f_X4_takeLaw a0 p3 h24) fun x31 h32 => if x31 = 0 then (k29 h32) else (k27 (1 : Int32) h32))), (115, 72, bnd2 (f_X4_readNumbers a0 p1 p2 (4 : Int32) h10) fun x34 h35 => jn2 (fun (w36 : Int32) (h37 : Hp) => rZ w36 h37) fun k38 => jn1 (fun (h39 : Hp) => k38 (0 : Int32) h39) fun k40 => if x34 = 0 then (k40 h35) else (bnd2 (f_X4_takeSack a0 p3 h35) fun x42 h43 => if x42 = 0 then (k40 h43) else (k38 (1 : Int32) h43)))] (rZ (0 : Int32) h10)) else k2)
set_option maxHeartbeats 4000000 in
set_option maxRecDepth 100000 in
theorem c_X4_readItem (l : Launch) (D : hD) (a0 : Nat) (p1 : Nat) (p2 : Int32) (p3 : Nat) (h : Hp) (x : (Int32 × Hp)) (e : f_X4_readItem a0 p1 p2 p3 h = some x) : (∃ fs, gO h a0 4 = some fs) ∧ Ct l D yX4_readItem cX4_readItem 5 (some .boolean) 3 71 [.ref a0, .ref p1, .int p2, .ref p3] h (some (.int x.1)) x.2 := by
  obtain ⟨fs, g1, g2⟩ := bnd_some e
  refine ⟨⟨fs, g1⟩, ?_⟩
  refine ct_of (out := oI) g2 (by decide +kernel) rfl (fun B C hin hl hd => ?_)
  subst hl; subst hd
  show J B _ _ h 0 [(0, .ref a0), (1, .ref p1), (2, .int p2), (3, .ref p3)] []
  refine j_aload_n C dX4_readItem_0 0 rfl rfl ?_
  refine j_getI C wfl_X4_20 dX4_readItem_1 (fun x1 => ?_)
  refine j_iload_n C dX4_readItem_4 2 rfl rfl ?_
  refine J.jn0 (h0 := h) (lv0 := []) (st0 := []) 17 ?_ (fun k2 hk2 => ?_)
  · refine j_iconst C (0 : Int32) dX4_readItem_17 (by decide) ?_
    exact j_zret C dX4_readItem_18
  refine j_icmp_ge C 17 dX4_readItem_5 (by decide) (fun c3 => ?_) (fun c3 => ?_)
  · refine J.sub (lv' := []) [] rfl ?_
    exact hk2
  · refine j_aload_n C dX4_readItem_8 0 rfl rfl ?_
    refine j_getI C wfl_X4_20 dX4_readItem_9 (fun x4 => ?_)
    refine j_aload_n C dX4_readItem_12 1 rfl rfl ?_
    refine j_alen C dX4_readItem_13 (fun x5 => ?_)
    refine j_icmp_lt C 19 dX4_readItem_14 (by decide) (fun c6 => ?_) (fun c6 => ?_)
    · refine j_aload_n C dX4_readItem_19 1 rfl rfl ?_
      refine j_aload_n C dX4_readItem_20 0 rfl rfl ?_
      refine j_getI C wfl_X4_20 dX4_readItem_21 (fun x7 => ?_)
      refine j_baload C dX4_readItem_24 (fun x8 => ?_)
      refine j_istore (lv' := [(4, .int x8), (0, .ref a0), (1, .ref p1), (2, .int p2), (3, .ref p3)]) C dX4_readItem_25 rfl rfl ?_
      refine j_aload_n C dX4_readItem_27 1 rfl rfl ?_
      refine j_dup C dX4_readItem_28 (fun _ => rfl) ?_
      refine j_getI C wfl_X4_20 dX4_readItem_29 (fun x9 => ?_)
      refine j_iconst C (1 : Int32) dX4_readItem_32 (by decide) ?_
      refine j_iadd C dX4_readItem_33 ?_
      refine j_put C wfp_X4_20 dX4_readItem_34 ⟨_, rfl⟩ (fun h10 => ?_)
      refine j_iload C dX4_readItem_37 0 rfl ?_
      refine j_lookup C 144 [(99, 120), (108, 96), (115, 72)] dX4_readItem_39 (by decide) rfl (by decide) (by decide) ?_ ?_
      · refine ⟨fun c11 => ?_, fun c11 => ?_, fun c11 => ?_, trivial⟩
        · dsimp only
          refine j_aload_n C dX4_readItem_120 1 rfl rfl ?_
          refine j_aload_n C dX4_readItem_121 2 rfl rfl ?_
          refine j_iload_n C dX4_readItem_122 3 rfl rfl ?_
          refine j_iconst C (1 : Int32) dX4_readItem_123 (by decide) ?_
          refine j_cI (st := []) (fun x e => ⟨runsV C wml_X4_28 wce_X4_readNumbers (c_X4_readNumbers (bL B) (bD B) _ _ _ _ _ x e).1 rfl rfl rfl rfl rfl dX4_readItem_124, (c_X4_readNumbers (bL B) (bD B) _ _ _ _ _ x e).2⟩) (fun x12 h13 => ?_)
          refine J.jn2 143 (fun (w14 : Int32) (h15 : Hp) => h15) (fun (w14 : Int32) (h15 : Hp) => []) (fun (w14 : Int32) (h15 : Hp) => [.int w14]) (fun w14 h15 => ?_) (fun k16 hk16 => ?_)
          · exact j_zret C dX4_readItem_143
          refine J.jn1 142 (fun (h17 : Hp) => h17) (fun (h17 : Hp) => []) (fun (h17 : Hp) => []) (fun h17 => ?_) (fun k18 hk18 => ?_)
          · refine j_iconst C (0 : Int32) dX4_readItem_142 (by decide) ?_
            exact hk16 (0 : Int32) h17
          refine j_if_eq C 142 dX4_readItem_127 (by decide) (fun c19 => ?_) (fun c19 => ?_)
          · refine J.sub (lv' := []) [] rfl ?_
            exact hk18 h13
          · refine j_aload_n C dX4_readItem_130 1 rfl rfl ?_
            refine j_aload_n C dX4_readItem_131 4 rfl rfl ?_
            refine j_cI (st := []) (fun x e => ⟨runsV C wml_X4_39 wce_X4_takePrice (c_X4_takePrice (bL B) (bD B) _ _ _ x e).1 rfl rfl rfl rfl rfl dX4_readItem_132, (c_X4_takePrice (bL B) (bD B) _ _ _ x e).2⟩) (fun x20 h21 => ?_)
            refine j_if_eq C 142 dX4_readItem_135 (by decide) (fun c22 => ?_) (fun c22 => ?_)
            · refine J.sub (lv' := []) [] rfl ?_
              exact hk18 h21
            · refine j_iconst C (1 : Int32) dX4_readItem_138 (by decide) ?_
              refine j_goto C 143 dX4_readItem_139 (by decide) ?_
              refine J.sub (lv' := []) [] rfl ?_
              exact hk16 (1 : Int32) h21
        · dsimp only
          refine j_aload_n C dX4_readItem_96 1 rfl rfl ?_
          refine j_aload_n C dX4_readItem_97 2 rfl rfl ?_
          refine j_iload_n C dX4_readItem_98 3 rfl rfl ?_
          refine j_iconst C (1 : Int32) dX4_readItem_99 (by decide) ?_
          refine j_cI (st := []) (fun x e => ⟨runsV C wml_X4_28 wce_X4_readNumbers (c_X4_readNumbers (bL B) (bD B) _ _ _ _ _ x e).1 rfl rfl rfl rfl rfl dX4_readItem_100, (c_X4_readNumbers (bL B) (bD B) _ _ _ _ _ x e).2⟩) (fun x23 h24 => ?_)
          refine J.jn2 119 (fun (w25 : Int32) (h26 : Hp) => h26) (fun (w25 : Int32) (h26 : Hp) => []) (fun (w25 : Int32) (h26 : Hp) => [.int w25]) (fun w25 h26 => ?_) (fun k27 hk27 => ?_)
          · exact j_zret C dX4_readItem_119
          refine J.jn1 118 (fun (h28 : Hp) => h28) (fun (h28 : Hp) => []) (fun (h28 : Hp) => []) (fun h28 => ?_) (fun k29 hk29 => ?_)
          · refine j_iconst C (0 : Int32) dX4_readItem_118 (by decide) ?_
            exact hk27 (0 : Int32) h28
          refine j_if_eq C 118 dX4_readItem_103 (by decide) (fun c30 => ?_) (fun c30 => ?_)
          · refine J.sub (lv' := []) [] rfl ?_
            exact hk29 h24
          · refine j_aload_n C dX4_readItem_106 1 rfl rfl ?_
            refine j_aload_n C dX4_readItem_107 4 rfl rfl ?_
            refine j_cI (st := []) (fun x e => ⟨runsV C wml_X4_36 wce_X4_takeLaw (c_X4_takeLaw (bL B) (bD B) _ _ _ x e).1 rfl rfl rfl rfl rfl dX4_readItem_108, (c_X4_takeLaw (bL B) (bD B) _ _ _ x e).2⟩) (fun x31 h32 => ?_)
            refine j_if_eq C 118 dX4_readItem_111 (by decide) (fun c33 => ?_) (fun c33 => ?_)
            · refine J.sub (lv' := []) [] rfl ?_
              exact hk29 h32
            · refine j_iconst C (1 : Int32) dX4_readItem_114 (by decide) ?_
              refine j_goto C 119 dX4_readItem_115 (by decide) ?_
              refine J.sub (lv' := []) [] rfl ?_
              exact hk27 (1 : Int32) h32
        · dsimp only
          refine j_aload_n C dX4_readItem_72 1 rfl rfl ?_
          refine j_aload_n C dX4_readItem_73 2 rfl rfl ?_
          refine j_iload_n C dX4_readItem_74 3 rfl rfl ?_
          refine j_iconst C (4 : Int32) dX4_readItem_75 (by decide) ?_
          refine j_cI (st := []) (fun x e => ⟨runsV C wml_X4_28 wce_X4_readNumbers (c_X4_readNumbers (bL B) (bD B) _ _ _ _ _ x e).1 rfl rfl rfl rfl rfl dX4_readItem_76, (c_X4_readNumbers (bL B) (bD B) _ _ _ _ _ x e).2⟩) (fun x34 h35 => ?_)
          refine J.jn2 95 (fun (w36 : Int32) (h37 : Hp) => h37) (fun (w36 : Int32) (h37 : Hp) => []) (fun (w36 : Int32) (h37 : Hp) => [.int w36]) (fun w36 h37 => ?_) (fun k38 hk38 => ?_)
          · exact j_zret C dX4_readItem_95
          refine J.jn1 94 (fun (h39 : Hp) => h39) (fun (h39 : Hp) => []) (fun (h39 : Hp) => []) (fun h39 => ?_) (fun k40 hk40 => ?_)
          · refine j_iconst C (0 : Int32) dX4_readItem_94 (by decide) ?_
            exact hk38 (0 : Int32) h39
          refine j_if_eq C 94 dX4_readItem_79 (by decide) (fun c41 => ?_) (fun c41 => ?_)
          · refine J.sub (lv' := []) [] rfl ?_
            exact hk40 h35
          · refine j_aload_n C dX4_readItem_82 1 rfl rfl ?_
            refine j_aload_n C dX4_readItem_83 4 rfl rfl ?_
            refine j_cI (st := []) (fun x e => ⟨runsV C wml_X4_32 wce_X4_takeSack (c_X4_takeSack (bL B) (bD B) _ _ _ x e).1 rfl rfl rfl rfl rfl dX4_readItem_84, (c_X4_takeSack (bL B) (bD B) _ _ _ x e).2⟩) (fun x42 h43 => ?_)
            refine j_if_eq C 94 dX4_readItem_87 (by decide) (fun c44 => ?_) (fun c44 => ?_)
            · refine J.sub (lv' := []) [] rfl ?_
              exact hk40 h43
            · refine j_iconst C (1 : Int32) dX4_readItem_90 (by decide) ?_
              refine j_goto C 95 dX4_readItem_91 (by decide) ?_
              refine J.sub (lv' := []) [] rfl ?_
              exact hk38 (1 : Int32) h43
      · refine j_iconst C (0 : Int32) dX4_readItem_144 (by decide) ?_
        exact j_zret C dX4_readItem_145
    · refine J.sub (lv' := []) [] rfl ?_
      exact hk2
def f_X4_read (a0 : Nat) (p1 : Nat) (p2 : Int32) (p3 : Nat) (h : Hp) : Option (Int32 × Hp) :=
  bnd (gO h a0 4) fun _ => bnd (f_X2_clear p3 h) fun h1 => bnd (pF h1 a0 4 1 (.int (0 : Int32))) fun h2 => wl2 (fun r5 (i3 : Int32) (h4 : Hp) => jn0 (some ((-4 : Int32), h4)) fun k6 => if (300 : Int32) ≤ i3 then k6 else (bnd (gI h4 a0 4 1) fun x8 => if p2 ≤ x8 then k6 else (bnd (gI h4 a0 4 1) fun x10 => bnd2 (f_X4_readItem a0 p1 p2 p3 h4) fun x11 h12 => if x11 = 0 then (some (x10, h12)) else (r5 (i3 + (1 : Int32)) h12)))) fuel (0 : Int32) h2
set_option maxHeartbeats 4000000 in
set_option maxRecDepth 100000 in
theorem c_X4_read (l : Launch) (D : hD) (a0 : Nat) (p1 : Nat) (p2 : Int32) (p3 : Nat) (h : Hp) (x : (Int32 × Hp)) (e : f_X4_read a0 p1 p2 p3 h = some x) : (∃ fs, gO h a0 4 = some fs) ∧ Ct l D yX4_read cX4_read 6 (some .int) 4 95 [.ref a0, .ref p1, .int p2, .ref p3] h (some (.int x.1)) x.2 := by
  obtain ⟨fs, g1, g2⟩ := bnd_some e
  refine ⟨⟨fs, g1⟩, ?_⟩
  refine ct_of (out := oI) g2 (by decide +kernel) rfl (fun B C hin hl hd => ?_)
  subst hl; subst hd
  show J B _ _ h 0 [(0, .ref a0), (1, .ref p1), (2, .int p2), (3, .ref p3)] []
  refine j_aload_n C dX4_read_0 3 rfl rfl ?_
  refine j_cV (st := []) (fun x e => ⟨runsV C wml_X4_15 wce_X2_clear (c_X2_clear (bL B) (bD B) _ _ x e).1 rfl rfl rfl rfl rfl dX4_read_1, (c_X2_clear (bL B) (bD B) _ _ x e).2⟩) (fun h1 => ?_)
  refine j_aload_n C dX4_read_4 0 rfl rfl ?_
  refine j_iconst C (0 : Int32) dX4_read_5 (by decide) ?_
  refine j_put C wfp_X4_20 dX4_read_6 ⟨_, rfl⟩ (fun h2 => ?_)
  refine j_iconst C (0 : Int32) dX4_read_9 (by decide) ?_
  refine j_istore (lv' := [(4, .int (0 : Int32)), (0, .ref a0), (1, .ref p1), (2, .int p2), (3, .ref p3)]) C dX4_read_10 rfl rfl ?_
  refine J.sub (lv' := [(0, .ref a0), (1, .ref p1), (2, .int p2), (3, .ref p3), (4, .int (0 : Int32))]) [1, 2, 3, 4, 0] rfl ?_
  refine J.wl2 12 (fun (i3 : Int32) (h4 : Hp) => h4) (fun (i3 : Int32) (h4 : Hp) => [(0, .ref a0), (1, .ref p1), (2, .int p2), (3, .ref p3), (4, .int i3)]) (fun (i3 : Int32) (h4 : Hp) => []) (fun r5 hr5 i3 h4 => ?_) fuel (0 : Int32) h2
  refine j_iload C dX4_read_12 4 rfl ?_
  refine j_sipush C (300 : Int32) dX4_read_14 (by decide) ?_
  refine J.jn0 (h0 := h4) (lv0 := []) (st0 := []) 53 ?_ (fun k6 hk6 => ?_)
  · refine j_bipush C (-4 : Int32) dX4_read_53 (by decide) ?_
    exact j_iret C dX4_read_55
  refine j_icmp_ge C 53 dX4_read_17 (by decide) (fun c7 => ?_) (fun c7 => ?_)
  · refine J.sub (lv' := []) [] rfl ?_
    exact hk6
  · refine j_aload_n C dX4_read_20 0 rfl rfl ?_
    refine j_getI C wfl_X4_20 dX4_read_21 (fun x8 => ?_)
    refine j_iload_n C dX4_read_24 2 rfl rfl ?_
    refine j_icmp_ge C 53 dX4_read_25 (by decide) (fun c9 => ?_) (fun c9 => ?_)
    · refine J.sub (lv' := []) [] rfl ?_
      exact hk6
    · refine j_aload_n C dX4_read_28 0 rfl rfl ?_
      refine j_getI C wfl_X4_20 dX4_read_29 (fun x10 => ?_)
      refine j_istore (lv' := [(5, .int x10), (0, .ref a0), (1, .ref p1), (2, .int p2), (3, .ref p3), (4, .int i3)]) C dX4_read_32 rfl rfl ?_
      refine j_aload_n C dX4_read_34 1 rfl rfl ?_
      refine j_aload_n C dX4_read_35 2 rfl rfl ?_
      refine j_iload_n C dX4_read_36 3 rfl rfl ?_
      refine j_aload_n C dX4_read_37 4 rfl rfl ?_
      refine j_cI (st := []) (fun x e => ⟨runsV C wml_X4_24 wce_X4_readItem (c_X4_readItem (bL B) (bD B) _ _ _ _ _ x e).1 rfl rfl rfl rfl rfl dX4_read_38, (c_X4_readItem (bL B) (bD B) _ _ _ _ _ x e).2⟩) (fun x11 h12 => ?_)
      refine j_if_ne C 47 dX4_read_41 (by decide) (fun c13 => ?_) (fun c13 => ?_)
      · refine j_iinc (lv' := [(4, .int (i3 + (1 : Int32))), (5, .int x10), (0, .ref a0), (1, .ref p1), (2, .int p2), (3, .ref p3)]) C (1 : Int32) dX4_read_47 5 rfl (by decide) rfl rfl ?_
        refine j_goto C 12 dX4_read_50 (by decide) ?_
        refine J.sub (lv' := [(0, .ref a0), (1, .ref p1), (2, .int p2), (3, .ref p3), (4, .int (i3 + (1 : Int32)))]) [2, 3, 4, 5, 0] rfl ?_
        exact hr5 (i3 + (1 : Int32)) h12
      · refine j_iload C dX4_read_44 0 rfl ?_
        exact j_iret C dX4_read_46
def f_X6_fault (a0 : Nat) (h : Hp) : Option (Int32 × Hp) :=
  bnd (gO h a0 6) fun _ => bnd (gR h a0 6 2) fun a1 => bnd (gR h a0 6 0) fun a2 => bnd (gI h a0 6 1) fun x3 => bnd (gR h a0 6 3) fun a4 => bnd2 (f_X4_read a1 a2 x3 a4 h) fun x5 h6 => some (x5, h6)
set_option maxHeartbeats 4000000 in
set_option maxRecDepth 100000 in
theorem c_X6_fault (l : Launch) (D : hD) (a0 : Nat) (h : Hp) (x : (Int32 × Hp)) (e : f_X6_fault a0 h = some x) : (∃ fs, gO h a0 6 = some fs) ∧ Ct l D yX6_fault cX6_fault 1 (some .int) 5 120 [.ref a0] h (some (.int x.1)) x.2 := by
  obtain ⟨fs, g1, g2⟩ := bnd_some e
  refine ⟨⟨fs, g1⟩, ?_⟩
  refine ct_of (out := oI) g2 (by decide +kernel) rfl (fun B C hin hl hd => ?_)
  subst hl; subst hd
  show J B _ _ h 0 [(0, .ref a0)] []
  refine j_aload_n C dX6_fault_0 0 rfl rfl ?_
  refine j_getR C wfl_X6_16 dX6_fault_1 (fun a1 => ?_)
  refine j_aload_n C dX6_fault_4 0 rfl rfl ?_
  refine j_getR C wfl_X6_9 dX6_fault_5 (fun a2 => ?_)
  refine j_aload_n C dX6_fault_8 0 rfl rfl ?_
  refine j_getI C wfl_X6_73 dX6_fault_9 (fun x3 => ?_)
  refine j_aload_n C dX6_fault_12 0 rfl rfl ?_
  refine j_getR C wfl_X6_23 dX6_fault_13 (fun a4 => ?_)
  refine j_cI (st := []) (fun x e => ⟨runsV C wml_X6_77 wce_X4_read (c_X4_read (bL B) (bD B) _ _ _ _ _ x e).1 rfl rfl rfl rfl rfl dX6_fault_16, (c_X4_read (bL B) (bD B) _ _ _ _ _ x e).2⟩) (fun x5 h6 => ?_)
  exact j_iret C dX6_fault_19
def f_X0_answerAt (a0 : Nat) (p1 : Int32) (p2 : Int32) (h : Hp) : Option Int32 :=
  bnd (gO h a0 0) fun _ => nm ((p1 * (36 : Int32)) + p2) fun v1 => jn1 (fun (w2 : Int32) => some w2) fun k3 => jn0 (k3 (0 : Int32)) fun k4 => if v1 < 0 then k4 else (bnd (gR h a0 0 4) fun a6 => bnd (aLn h a6) fun x7 => if x7 ≤ v1 then k4 else (bnd (gR h a0 0 4) fun a9 => bnd (ldI 0 h a9 v1) fun x10 => k3 x10))
set_option maxHeartbeats 4000000 in
set_option maxRecDepth 100000 in
theorem c_X0_answerAt (l : Launch) (D : hD) (a0 : Nat) (p1 : Int32) (p2 : Int32) (h : Hp) (x : Int32) (e : f_X0_answerAt a0 p1 p2 h = some x) : (∃ fs, gO h a0 0 = some fs) ∧ Ct l D yX0_answerAt cX0_answerAt 4 (some .int) 0 0 [.ref a0, .int p1, .int p2] h (some (.int x)) h := by
  obtain ⟨fs, g1, g2⟩ := bnd_some e
  refine ⟨⟨fs, g1⟩, ?_⟩
  refine ct_of (out := (oIp h)) g2 (by decide +kernel) rfl (fun B C hin hl hd => ?_)
  subst hl; subst hd
  show J B _ _ h 0 [(0, .ref a0), (1, .int p1), (2, .int p2)] []
  refine j_iload_n C dX0_answerAt_0 1 rfl rfl ?_
  refine j_bipush C (36 : Int32) dX0_answerAt_1 (by decide) ?_
  refine j_imul C dX0_answerAt_3 ?_
  refine j_iload_n C dX0_answerAt_4 2 rfl rfl ?_
  refine j_iadd C dX0_answerAt_5 ?_
  refine j_nmI (fun v1 => ?_)
  refine j_istore_n (lv' := [(3, .int v1), (0, .ref a0), (1, .int p1), (2, .int p2)]) C dX0_answerAt_6 rfl rfl rfl ?_
  refine j_iload_n C dX0_answerAt_7 0 rfl rfl ?_
  refine J.jn1 30 (fun (w2 : Int32) => h) (fun (w2 : Int32) => []) (fun (w2 : Int32) => [.int w2]) (fun w2 => ?_) (fun k3 hk3 => ?_)
  · exact j_iretp C dX0_answerAt_30
  refine J.jn0 (h0 := h) (lv0 := []) (st0 := []) 29 ?_ (fun k4 hk4 => ?_)
  · refine j_iconst C (0 : Int32) dX0_answerAt_29 (by decide) ?_
    exact hk3 (0 : Int32)
  refine j_if_lt C 29 dX0_answerAt_8 (by decide) (fun c5 => ?_) (fun c5 => ?_)
  · refine J.sub (lv' := []) [] rfl ?_
    exact hk4
  · refine j_iload_n C dX0_answerAt_11 0 rfl rfl ?_
    refine j_aload_n C dX0_answerAt_12 1 rfl rfl ?_
    refine j_getR C wfl_X0_21 dX0_answerAt_13 (fun a6 => ?_)
    refine j_alen C dX0_answerAt_16 (fun x7 => ?_)
    refine j_icmp_ge C 29 dX0_answerAt_17 (by decide) (fun c8 => ?_) (fun c8 => ?_)
    · refine J.sub (lv' := []) [] rfl ?_
      exact hk4
    · refine j_aload_n C dX0_answerAt_20 1 rfl rfl ?_
      refine j_getR C wfl_X0_21 dX0_answerAt_21 (fun a9 => ?_)
      refine j_iload_n C dX0_answerAt_24 0 rfl rfl ?_
      refine j_iaload C dX0_answerAt_25 (fun x10 => ?_)
      refine j_goto C 30 dX0_answerAt_26 (by decide) ?_
      refine J.sub (lv' := []) [] rfl ?_
      exact hk3 x10
def f_X6_fits (p1 : Int32) (p2 : Int32) (p3 : Int32) : Option Int32 :=
  jn1 (fun (w1 : Int32) => rZp w1) fun k2 => jn0 (k2 (0 : Int32)) fun k3 => if p1 = p2 then k3 else (if p1 = p3 then k3 else (k2 (1 : Int32)))
set_option maxHeartbeats 4000000 in
set_option maxRecDepth 100000 in
theorem c_X6_fits (l : Launch) (D : hD) (p1 : Int32) (p2 : Int32) (p3 : Int32) (h : Hp) (x : Int32) (e : f_X6_fits p1 p2 p3 = some x) : Ct l D yX6_fits cX6_fits 3 (some .boolean) 0 0 [.int p1, .int p2, .int p3] h (some (.int x)) h := by
  unfold f_X6_fits at e
  refine ct_of (out := (oIp h)) e (by decide +kernel) rfl (fun B C hin hl hd => ?_)
  subst hl; subst hd
  show J B _ _ h 0 [(0, .int p1), (1, .int p2), (2, .int p3)] []
  refine j_iload_n C dX6_fits_0 0 rfl rfl ?_
  refine j_iload_n C dX6_fits_1 1 rfl rfl ?_
  refine J.jn1 15 (fun (w1 : Int32) => h) (fun (w1 : Int32) => []) (fun (w1 : Int32) => [.int w1]) (fun w1 => ?_) (fun k2 hk2 => ?_)
  · exact j_zretp C dX6_fits_15
  refine J.jn0 (h0 := h) (lv0 := []) (st0 := []) 14 ?_ (fun k3 hk3 => ?_)
  · refine j_iconst C (0 : Int32) dX6_fits_14 (by decide) ?_
    exact hk2 (0 : Int32)
  refine j_icmp_eq C 14 dX6_fits_2 (by decide) (fun c4 => ?_) (fun c4 => ?_)
  · refine J.sub (lv' := []) [] rfl ?_
    exact hk3
  · refine j_iload_n C dX6_fits_5 0 rfl rfl ?_
    refine j_iload_n C dX6_fits_6 2 rfl rfl ?_
    refine j_icmp_eq C 14 dX6_fits_7 (by decide) (fun c5 => ?_) (fun c5 => ?_)
    · refine J.sub (lv' := []) [] rfl ?_
      exact hk3
    · refine j_iconst C (1 : Int32) dX6_fits_10 (by decide) ?_
      refine j_goto C 15 dX6_fits_11 (by decide) ?_
      refine J.sub (lv' := []) [] rfl ?_
      exact hk2 (1 : Int32)
def f_X6_heldBefore (p1 : Int32) (p2 : Int32) : Option Int32 :=
  jn1 (fun (w1 : Int32) => some w1) fun k2 => if p1 = (1 : Int32) then (k2 p2) else (k2 (5 : Int32))
set_option maxHeartbeats 4000000 in
set_option maxRecDepth 100000 in
theorem c_X6_heldBefore (l : Launch) (D : hD) (p1 : Int32) (p2 : Int32) (h : Hp) (x : Int32) (e : f_X6_heldBefore p1 p2 = some x) : Ct l D yX6_heldBefore cX6_heldBefore 2 (some .int) 0 0 [.int p1, .int p2] h (some (.int x)) h := by
  unfold f_X6_heldBefore at e
  refine ct_of (out := (oIp h)) e (by decide +kernel) rfl (fun B C hin hl hd => ?_)
  subst hl; subst hd
  show J B _ _ h 0 [(0, .int p1), (1, .int p2)] []
  refine j_iload_n C dX6_heldBefore_0 0 rfl rfl ?_
  refine j_iconst C (1 : Int32) dX6_heldBefore_1 (by decide) ?_
  refine J.jn1 10 (fun (w1 : Int32) => h) (fun (w1 : Int32) => []) (fun (w1 : Int32) => [.int w1]) (fun w1 => ?_) (fun k2 hk2 => ?_)
  · exact j_iretp C dX6_heldBefore_10
  refine j_icmp_ne C 9 dX6_heldBefore_2 (by decide) (fun c3 => ?_) (fun c3 => ?_)
  · refine j_iconst C (5 : Int32) dX6_heldBefore_9 (by decide) ?_
    refine J.sub (lv' := []) [] rfl ?_
    exact hk2 (5 : Int32)
  · refine j_iload_n C dX6_heldBefore_5 1 rfl rfl ?_
    refine j_goto C 10 dX6_heldBefore_6 (by decide) ?_
    refine J.sub (lv' := []) [] rfl ?_
    exact hk2 p2
def f_X6_memoryOf (p1 : Int32) (p2 : Int32) : Option Int32 :=
  some ((p1 * (6 : Int32)) + p2)
set_option maxHeartbeats 4000000 in
set_option maxRecDepth 100000 in
theorem c_X6_memoryOf (l : Launch) (D : hD) (p1 : Int32) (p2 : Int32) (h : Hp) (x : Int32) (e : f_X6_memoryOf p1 p2 = some x) : Ct l D yX6_memoryOf cX6_memoryOf 2 (some .int) 0 0 [.int p1, .int p2] h (some (.int x)) h := by
  unfold f_X6_memoryOf at e
  refine ct_of (out := (oIp h)) e (by decide +kernel) rfl (fun B C hin hl hd => ?_)
  subst hl; subst hd
  show J B _ _ h 0 [(0, .int p1), (1, .int p2)] []
  refine j_iload_n C dX6_memoryOf_0 0 rfl rfl ?_
  refine j_bipush C (6 : Int32) dX6_memoryOf_1 (by decide) ?_
  refine j_imul C dX6_memoryOf_3 ?_
  refine j_iload_n C dX6_memoryOf_4 1 rfl rfl ?_
  refine j_iadd C dX6_memoryOf_5 ?_
  exact j_iretp C dX6_memoryOf_6
def f_X0_answer (a0 : Nat) (p1 : Int32) (p2 : Int32) (p3 : Int32) (p4 : Int32) (p5 : Int32) (h : Hp) : Option Int32 :=
  bnd (gO h a0 0) fun _ => jn1 (fun (w1 : Int32) => bnd (f_X6_heldBefore p2 p3) fun x3 => wl2 (fun r6 (i4 : Int32) (i5 : Int32) => if (5 : Int32) ≤ i5 then (some i4) else (bnd (gR h a0 0 2) fun a8 => bnd (ldI 0 h a8 i5) fun x9 => jn1 (fun (z10 : Int32) => r6 z10 (i5 + (1 : Int32))) fun k11 => if x9 ≤ 0 then (k11 i4) else (bnd (f_X6_fits i5 p3 p4) fun x13 => if x13 = 0 then (k11 i4) else (bnd (gR h a0 0 1) fun a15 => bnd (ldI 0 h a15 i5) fun x16 => bnd (f_X6_memoryOf i5 x3) fun x17 => bnd (f_X0_answerAt a0 (p1 - x16) x17 h) fun x18 => jn1 (fun (w19 : Int32) => k11 w19) fun k20 => if p5 = 0 then (k20 (mx i4 ((1 : Int32) + x18))) else (k20 (i4 + x18)))))) fuel w1 (0 : Int32)) fun k2 => jn0 (k2 (0 : Int32)) fun k22 => if p5 = 0 then k22 else (if p1 = 0 then (k2 (1 : Int32)) else k22)
set_option maxHeartbeats 4000000 in
set_option maxRecDepth 100000 in
theorem c_X0_answer (l : Launch) (D : hD) (a0 : Nat) (p1 : Int32) (p2 : Int32) (p3 : Int32) (p4 : Int32) (p5 : Int32) (h : Hp) (x : Int32) (e : f_X0_answer a0 p1 p2 p3 p4 p5 h = some x) : (∃ fs, gO h a0 0 = some fs) ∧ Ct l D yX0_answer cX0_answer 10 (some .int) 1 23 [.ref a0, .int p1, .int p2, .int p3, .int p4, .int p5] h (some (.int x)) h := by
  obtain ⟨fs, g1, g2⟩ := bnd_some e
  refine ⟨⟨fs, g1⟩, ?_⟩
  refine ct_of (out := (oIp h)) g2 (by decide +kernel) rfl (fun B C hin hl hd => ?_)
  subst hl; subst hd
  show J B _ _ h 0 [(0, .ref a0), (1, .int p1), (2, .int p2), (3, .int p3), (4, .int p4), (5, .int p5)] []
  refine j_iload C dX0_answer_0 5 rfl ?_
  refine J.jn1 14 (fun (w1 : Int32) => h) (fun (w1 : Int32) => [(0, .ref a0), (1, .int p1), (2, .int p2), (3, .int p3), (4, .int p4), (5, .int p5)]) (fun (w1 : Int32) => [.int w1]) (fun w1 => ?_) (fun k2 hk2 => ?_)
  · refine j_istore (lv' := [(6, .int w1), (0, .ref a0), (1, .int p1), (2, .int p2), (3, .int p3), (4, .int p4), (5, .int p5)]) C dX0_answer_14 rfl rfl ?_
    refine j_iload_n C dX0_answer_16 3 rfl rfl ?_
    refine j_iload_n C dX0_answer_17 4 rfl rfl ?_
    refine j_cIp (st := []) (fun x e => ⟨runsS C wml_X0_92 wce_X6_heldBefore rfl rfl rfl rfl rfl dX0_answer_18, c_X6_heldBefore (bL B) (bD B) _ _ _ x e⟩) (fun x3 => ?_)
    refine j_istore (lv' := [(7, .int x3), (6, .int w1), (0, .ref a0), (1, .int p1), (2, .int p2), (3, .int p3), (4, .int p4), (5, .int p5)]) C dX0_answer_21 rfl rfl ?_
    refine j_iconst C (0 : Int32) dX0_answer_23 (by decide) ?_
    refine j_istore (lv' := [(8, .int (0 : Int32)), (7, .int x3), (6, .int w1), (0, .ref a0), (1, .int p1), (2, .int p2), (3, .int p3), (4, .int p4), (5, .int p5)]) C dX0_answer_24 rfl rfl ?_
    refine J.sub (lv' := [(0, .ref a0), (1, .int p1), (3, .int p3), (4, .int p4), (5, .int p5), (6, .int w1), (7, .int x3), (8, .int (0 : Int32))]) [3, 4, 6, 7, 8, 2, 1, 0] rfl ?_
    refine J.wl2 26 (fun (i4 : Int32) (i5 : Int32) => h) (fun (i4 : Int32) (i5 : Int32) => [(0, .ref a0), (1, .int p1), (3, .int p3), (4, .int p4), (5, .int p5), (6, .int i4), (7, .int x3), (8, .int i5)]) (fun (i4 : Int32) (i5 : Int32) => []) (fun r6 hr6 i4 i5 => ?_) fuel w1 (0 : Int32)
    refine j_iload C dX0_answer_26 7 rfl ?_
    refine j_iconst C (5 : Int32) dX0_answer_28 (by decide) ?_
    refine j_icmp_ge C 105 dX0_answer_29 (by decide) (fun c7 => ?_) (fun c7 => ?_)
    · refine j_iload C dX0_answer_105 5 rfl ?_
      exact j_iretp C dX0_answer_107
    · refine j_aload_n C dX0_answer_32 0 rfl rfl ?_
      refine j_getR C wfl_X0_18 dX0_answer_33 (fun a8 => ?_)
      refine j_iload C dX0_answer_36 7 rfl ?_
      refine j_iaload C dX0_answer_38 (fun x9 => ?_)
      refine J.jn1 99 (fun (z10 : Int32) => h) (fun (z10 : Int32) => [(0, .ref a0), (1, .int p1), (3, .int p3), (4, .int p4), (5, .int p5), (6, .int z10), (7, .int x3), (8, .int i5)]) (fun (z10 : Int32) => []) (fun z10 => ?_) (fun k11 hk11 => ?_)
      · refine j_iinc (lv' := [(8, .int (i5 + (1 : Int32))), (0, .ref a0), (1, .int p1), (3, .int p3), (4, .int p4), (5, .int p5), (6, .int z10), (7, .int x3)]) C (1 : Int32) dX0_answer_99 7 rfl (by decide) rfl rfl ?_
        refine j_goto C 26 dX0_answer_102 (by decide) ?_
        refine J.sub (lv' := [(0, .ref a0), (1, .int p1), (3, .int p3), (4, .int p4), (5, .int p5), (6, .int z10), (7, .int x3), (8, .int (i5 + (1 : Int32)))]) [1, 2, 3, 4, 5, 6, 7, 0] rfl ?_
        exact hr6 z10 (i5 + (1 : Int32))
      refine j_if_le C 99 dX0_answer_39 (by decide) (fun c12 => ?_) (fun c12 => ?_)
      · exact hk11 i4
      · refine j_iload C dX0_answer_42 7 rfl ?_
        refine j_iload_n C dX0_answer_44 2 rfl rfl ?_
        refine j_iload C dX0_answer_45 3 rfl ?_
        refine j_cIp (st := []) (fun x e => ⟨runsS C wml_X0_95 wce_X6_fits rfl rfl rfl rfl rfl dX0_answer_47, c_X6_fits (bL B) (bD B) _ _ _ _ x e⟩) (fun x13 => ?_)
        refine j_if_eq C 99 dX0_answer_50 (by decide) (fun c14 => ?_) (fun c14 => ?_)
        · exact hk11 i4
        · refine j_aload_n C dX0_answer_53 0 rfl rfl ?_
          refine j_iload_n C dX0_answer_54 1 rfl rfl ?_
          refine j_aload_n C dX0_answer_55 0 rfl rfl ?_
          refine j_getR C wfl_X0_15 dX0_answer_56 (fun a15 => ?_)
          refine j_iload C dX0_answer_59 7 rfl ?_
          refine j_iaload C dX0_answer_61 (fun x16 => ?_)
          refine j_isub C dX0_answer_62 ?_
          refine j_iload C dX0_answer_63 7 rfl ?_
          refine j_iload C dX0_answer_65 6 rfl ?_
          refine j_cIp (st := [.int (p1 - x16), .ref a0]) (fun x e => ⟨runsS C wml_X0_77 wce_X6_memoryOf rfl rfl rfl rfl rfl dX0_answer_67, c_X6_memoryOf (bL B) (bD B) _ _ _ x e⟩) (fun x17 => ?_)
          refine j_cIp (st := []) (fun x e => ⟨runsV C wml_X0_89 wce_X0_answerAt (c_X0_answerAt (bL B) (bD B) _ _ _ _ x e).1 rfl rfl rfl rfl rfl dX0_answer_70, (c_X0_answerAt (bL B) (bD B) _ _ _ _ x e).2⟩) (fun x18 => ?_)
          refine j_istore (lv' := [(9, .int x18), (0, .ref a0), (1, .int p1), (3, .int p3), (4, .int p4), (5, .int p5), (6, .int i4), (7, .int x3), (8, .int i5)]) C dX0_answer_73 rfl rfl ?_
          refine j_iload C dX0_answer_75 5 rfl ?_
          refine J.jn1 97 (fun (w19 : Int32) => h) (fun (w19 : Int32) => [(0, .ref a0), (1, .int p1), (3, .int p3), (4, .int p4), (5, .int p5), (7, .int x3), (8, .int i5)]) (fun (w19 : Int32) => [.int w19]) (fun w19 => ?_) (fun k20 hk20 => ?_)
          · refine j_istore (lv' := [(6, .int w19), (0, .ref a0), (1, .int p1), (3, .int p3), (4, .int p4), (5, .int p5), (7, .int x3), (8, .int i5)]) C dX0_answer_97 rfl rfl ?_
            refine J.sub (lv' := [(0, .ref a0), (1, .int p1), (3, .int p3), (4, .int p4), (5, .int p5), (6, .int w19), (7, .int x3), (8, .int i5)]) [1, 2, 3, 4, 5, 0, 6, 7] rfl ?_
            exact hk11 w19
          refine j_if_eq C 88 dX0_answer_77 (by decide) (fun c21 => ?_) (fun c21 => ?_)
          · refine j_iload C dX0_answer_88 6 rfl ?_
            refine j_iconst C (1 : Int32) dX0_answer_90 (by decide) ?_
            refine j_iload C dX0_answer_91 0 rfl ?_
            refine j_iadd C dX0_answer_93 ?_
            refine j_max C wob_X0_99 wma_max_s wma_i wma_max_c rfl rfl rfl dX0_answer_94 ?_
            refine J.sub (lv' := [(0, .ref a0), (1, .int p1), (3, .int p3), (4, .int p4), (5, .int p5), (7, .int x3), (8, .int i5)]) [1, 2, 3, 4, 5, 7, 8] rfl ?_
            exact hk20 (mx i4 ((1 : Int32) + x18))
          · refine j_iload C dX0_answer_80 6 rfl ?_
            refine j_iload C dX0_answer_82 0 rfl ?_
            refine j_iadd C dX0_answer_84 ?_
            refine j_goto C 97 dX0_answer_85 (by decide) ?_
            refine J.sub (lv' := [(0, .ref a0), (1, .int p1), (3, .int p3), (4, .int p4), (5, .int p5), (7, .int x3), (8, .int i5)]) [1, 2, 3, 4, 5, 7, 8] rfl ?_
            exact hk20 (i4 + x18)
  refine J.jn0 (h0 := h) (lv0 := [(0, .ref a0), (1, .int p1), (2, .int p2), (3, .int p3), (4, .int p4), (5, .int p5)]) (st0 := []) 13 ?_ (fun k22 hk22 => ?_)
  · refine j_iconst C (0 : Int32) dX0_answer_13 (by decide) ?_
    exact hk2 (0 : Int32)
  refine j_if_eq C 13 dX0_answer_2 (by decide) (fun c23 => ?_) (fun c23 => ?_)
  · exact hk22
  · refine j_iload_n C dX0_answer_5 1 rfl rfl ?_
    refine j_if_ne C 13 dX0_answer_6 (by decide) (fun c24 => ?_) (fun c24 => ?_)
    · exact hk22
    · refine j_iconst C (1 : Int32) dX0_answer_9 (by decide) ?_
      refine j_goto C 14 dX0_answer_10 (by decide) ?_
      exact hk2 (1 : Int32)
def f_X0_unfold (a0 : Nat) (p1 : Int32) (h : Hp) : Option Hp :=
  bnd (gO h a0 0) fun _ => wl3 (fun r4 (i1 : Int32) (i2 : Int32) (h3 : Hp) => if i2 < 0 then (some h3) else (bnd (gR h3 a0 0 2) fun a6 => bnd (gR h3 a0 0 1) fun a7 => bnd (ldI 0 h3 a7 i2) fun x8 => jn1 (fun (w9 : Int32) => bnd (stI 0 h3 a6 i2 w9) fun h11 => bnd (gR h11 a0 0 2) fun a12 => bnd (ldI 0 h11 a12 i2) fun x13 => bnd (gR h11 a0 0 1) fun a14 => bnd (ldI 0 h11 a14 i2) fun x15 => nm (i1 - (x13 * x15)) fun v16 => r4 v16 (i2 + (-1 : Int32)) h11) fun k10 => if x8 ≤ 0 then (k10 (0 : Int32)) else (bnd (gR h3 a0 0 1) fun a18 => bnd (ldI 0 h3 a18 i2) fun x19 => if x19 = 0 then none else k10 (i1 / x19)))) fuel p1 (4 : Int32) h
set_option maxHeartbeats 4000000 in
set_option maxRecDepth 100000 in
theorem c_X0_unfold (l : Launch) (D : hD) (a0 : Nat) (p1 : Int32) (h : Hp) (x : Hp) (e : f_X0_unfold a0 p1 h = some x) : (∃ fs, gO h a0 0 = some fs) ∧ Ct l D yX0_unfold cX0_unfold 4 none 0 0 [.ref a0, .int p1] h none x := by
  obtain ⟨fs, g1, g2⟩ := bnd_some e
  refine ⟨⟨fs, g1⟩, ?_⟩
  refine ct_of (out := oV) g2 (by decide +kernel) rfl (fun B C hin hl hd => ?_)
  subst hl; subst hd
  show J B _ _ h 0 [(0, .ref a0), (1, .int p1)] []
  refine j_iload_n C dX0_unfold_0 1 rfl rfl ?_
  refine j_istore_n (lv' := [(2, .int p1), (0, .ref a0), (1, .int p1)]) C dX0_unfold_1 rfl rfl rfl ?_
  refine j_iconst C (4 : Int32) dX0_unfold_2 (by decide) ?_
  refine j_istore_n (lv' := [(3, .int (4 : Int32)), (2, .int p1), (0, .ref a0), (1, .int p1)]) C dX0_unfold_3 rfl rfl rfl ?_
  refine J.sub (lv' := [(0, .ref a0), (2, .int p1), (3, .int (4 : Int32))]) [2, 1, 0] rfl ?_
  refine J.wl3 4 (fun (i1 : Int32) (i2 : Int32) (h3 : Hp) => h3) (fun (i1 : Int32) (i2 : Int32) (h3 : Hp) => [(0, .ref a0), (2, .int i1), (3, .int i2)]) (fun (i1 : Int32) (i2 : Int32) (h3 : Hp) => []) (fun r4 hr4 i1 i2 h3 => ?_) fuel p1 (4 : Int32) h
  refine j_iload_n C dX0_unfold_4 2 rfl rfl ?_
  refine j_if_lt C 57 dX0_unfold_5 (by decide) (fun c5 => ?_) (fun c5 => ?_)
  · exact j_vret C dX0_unfold_57
  · refine j_aload_n C dX0_unfold_8 0 rfl rfl ?_
    refine j_getR C wfl_X0_18 dX0_unfold_9 (fun a6 => ?_)
    refine j_iload_n C dX0_unfold_12 2 rfl rfl ?_
    refine j_aload_n C dX0_unfold_13 0 rfl rfl ?_
    refine j_getR C wfl_X0_15 dX0_unfold_14 (fun a7 => ?_)
    refine j_iload_n C dX0_unfold_17 2 rfl rfl ?_
    refine j_iaload C dX0_unfold_18 (fun x8 => ?_)
    refine J.jn1 34 (fun (w9 : Int32) => h3) (fun (w9 : Int32) => [(0, .ref a0), (2, .int i1), (3, .int i2)]) (fun (w9 : Int32) => [.int w9, .int i2, .ref a6]) (fun w9 => ?_) (fun k10 hk10 => ?_)
    · refine j_iastore C dX0_unfold_34 (fun h11 => ?_)
      refine j_iload_n C dX0_unfold_35 1 rfl rfl ?_
      refine j_aload_n C dX0_unfold_36 0 rfl rfl ?_
      refine j_getR C wfl_X0_18 dX0_unfold_37 (fun a12 => ?_)
      refine j_iload_n C dX0_unfold_40 2 rfl rfl ?_
      refine j_iaload C dX0_unfold_41 (fun x13 => ?_)
      refine j_aload_n C dX0_unfold_42 0 rfl rfl ?_
      refine j_getR C wfl_X0_15 dX0_unfold_43 (fun a14 => ?_)
      refine j_iload_n C dX0_unfold_46 2 rfl rfl ?_
      refine j_iaload C dX0_unfold_47 (fun x15 => ?_)
      refine j_imul C dX0_unfold_48 ?_
      refine j_isub C dX0_unfold_49 ?_
      refine j_nmI (fun v16 => ?_)
      refine j_istore_n (lv' := [(2, .int v16), (0, .ref a0), (3, .int i2)]) C dX0_unfold_50 rfl rfl rfl ?_
      refine j_iinc (lv' := [(3, .int (i2 + (-1 : Int32))), (2, .int v16), (0, .ref a0)]) C (-1 : Int32) dX0_unfold_51 2 rfl (by decide) rfl rfl ?_
      refine j_goto C 4 dX0_unfold_54 (by decide) ?_
      refine J.sub (lv' := [(0, .ref a0), (2, .int v16), (3, .int (i2 + (-1 : Int32)))]) [2, 1, 0] rfl ?_
      exact hr4 v16 (i2 + (-1 : Int32)) h11
    refine j_if_le C 33 dX0_unfold_19 (by decide) (fun c17 => ?_) (fun c17 => ?_)
    · refine j_iconst C (0 : Int32) dX0_unfold_33 (by decide) ?_
      exact hk10 (0 : Int32)
    · refine j_iload_n C dX0_unfold_22 1 rfl rfl ?_
      refine j_aload_n C dX0_unfold_23 0 rfl rfl ?_
      refine j_getR C wfl_X0_15 dX0_unfold_24 (fun a18 => ?_)
      refine j_iload_n C dX0_unfold_27 2 rfl rfl ?_
      refine j_iaload C dX0_unfold_28 (fun x19 => ?_)
      refine j_idiv C dX0_unfold_29 ?_
      refine j_goto C 34 dX0_unfold_30 (by decide) ?_
      exact hk10 (i1 / x19)
