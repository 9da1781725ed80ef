def f_X6_isInLine (a0 : Nat) (p1 : Int32) (h : Hp) : Option Int32 :=
  bnd (gO h a0 6) fun _ => wl1 (fun r2 (i1 : Int32) => bnd (gI h a0 6 10) fun x3 => if x3 ≤ i1 then (rZp (0 : Int32)) else (bnd (gR h a0 6 9) fun a5 => bnd (ldI 0 h a5 i1) fun x6 => if x6 = p1 then (rZp (1 : Int32)) else (r2 (i1 + (1 : Int32))))) fuel (0 : Int32)
set_option maxHeartbeats 4000000 in
set_option maxRecDepth 100000 in
theorem c_X6_isInLine (l : Launch) (D : hD) (a0 : Nat) (p1 : Int32) (h : Hp) (x : Int32) (e : f_X6_isInLine a0 p1 h = some x) : (∃ fs, gO h a0 6 = some fs) ∧ Ct l D yX6_isInLine cX6_isInLine 3 (some .boolean) 0 0 [.ref a0, .int p1] h (some (.int x)) h := by
  obtain ⟨fs, g1, g2⟩ := bnd_some e
  refine ⟨⟨fs, g1⟩, ?_⟩
  refine ct_of (out := (oIp h)) g2 (by decide +kernel) rfl (fun B C hin hl hd => ?_)
  subst hl; subst hd
  show J B _ _ h 0 [(0, .ref a0), (1, .int p1)] []
  refine j_iconst C (0 : Int32) dX6_isInLine_0 (by decide) ?_
  refine j_istore_n (lv' := [(2, .int (0 : Int32)), (0, .ref a0), (1, .int p1)]) C dX6_isInLine_1 rfl rfl rfl ?_
  refine J.sub (lv' := [(0, .ref a0), (1, .int p1), (2, .int (0 : Int32))]) [1, 2, 0] rfl ?_
  refine J.wl1 2 (fun (i1 : Int32) => h) (fun (i1 : Int32) => [(0, .ref a0), (1, .int p1), (2, .int i1)]) (fun (i1 : Int32) => []) (fun r2 hr2 i1 => ?_) fuel (0 : Int32)
  refine j_iload_n C dX6_isInLine_2 2 rfl rfl ?_
  refine j_aload_n C dX6_isInLine_3 0 rfl rfl ?_
  refine j_getI C wfl_X6_88 dX6_isInLine_4 (fun x3 => ?_)
  refine j_icmp_ge C 28 dX6_isInLine_7 (by decide) (fun c4 => ?_) (fun c4 => ?_)
  · refine j_iconst C (0 : Int32) dX6_isInLine_28 (by decide) ?_
    exact j_zretp C dX6_isInLine_29
  · refine j_aload_n C dX6_isInLine_10 0 rfl rfl ?_
    refine j_getR C wfl_X6_37 dX6_isInLine_11 (fun a5 => ?_)
    refine j_iload_n C dX6_isInLine_14 2 rfl rfl ?_
    refine j_iaload C dX6_isInLine_15 (fun x6 => ?_)
    refine j_iload_n C dX6_isInLine_16 1 rfl rfl ?_
    refine j_icmp_ne C 22 dX6_isInLine_17 (by decide) (fun c7 => ?_) (fun c7 => ?_)
    · refine j_iinc (lv' := [(2, .int (i1 + (1 : Int32))), (0, .ref a0), (1, .int p1)]) C (1 : Int32) dX6_isInLine_22 2 rfl (by decide) rfl rfl ?_
      refine j_goto C 2 dX6_isInLine_25 (by decide) ?_
      refine J.sub (lv' := [(0, .ref a0), (1, .int p1), (2, .int (i1 + (1 : Int32)))]) [1, 2, 0] rfl ?_
      exact hr2 (i1 + (1 : Int32))
    · refine j_iconst C (1 : Int32) dX6_isInLine_20 (by decide) ?_
      exact j_zretp C dX6_isInLine_21
def f_X6_queue (a0 : Nat) (p1 : Int32) (h : Hp) : Option (Int32 × Hp) :=
  bnd (gO h a0 6) fun _ => bnd (gR h a0 6 4) fun a1 => bnd (f_X2_has a1 p1 h) fun x2 => if x2 = 0 then (some ((-1 : Int32), h)) else (bnd (gR h a0 6 4) fun a4 => bnd (f_X2_waits a4 p1 h) fun x5 => jn0 (some ((-2 : Int32), h)) fun k6 => if x5 = 0 then k6 else (bnd (f_X6_isInLine a0 p1 h) fun x8 => if x8 = 0 then (bnd (gI h a0 6 10) fun x10 => if x10 < (10 : Int32) then (bnd (gR h a0 6 9) fun a12 => bnd (gI h a0 6 10) fun x13 => bnd (stI 0 h a12 x13 p1) fun h14 => bnd (gI h14 a0 6 10) fun x15 => bnd (pF h14 a0 6 10 (.int (x15 + (1 : Int32)))) fun h16 => bnd (gI h16 a0 6 10) fun x17 => some (x17, h16)) else k6) else k6))
set_option maxHeartbeats 4000000 in
set_option maxRecDepth 100000 in
theorem c_X6_queue (l : Launch) (D : hD) (a0 : Nat) (p1 : Int32) (h : Hp) (x : (Int32 × Hp)) (e : f_X6_queue a0 p1 h = some x) : (∃ fs, gO h a0 6 = some fs) ∧ Ct l D yX6_queue cX6_queue 2 (some .int) 2 42 [.ref a0, .int p1] h (some (.int x.1)) x.2 := by
  obtain ⟨fs, g1, g2⟩ := bnd_some e
  refine ⟨⟨fs, g1⟩, ?_⟩
  refine ct_of (out := oI) g2 (by decide +kernel) rfl (fun B C hin hl hd => ?_)
  subst hl; subst hd
  show J B _ _ h 0 [(0, .ref a0), (1, .int p1)] []
  refine j_aload_n C dX6_queue_0 0 rfl rfl ?_
  refine j_getR C wfl_X6_27 dX6_queue_1 (fun a1 => ?_)
  refine j_iload_n C dX6_queue_4 1 rfl rfl ?_
  refine j_cIp (st := []) (fun x e => ⟨runsV C wml_X6_97 wce_X2_has (c_X2_has (bL B) (bD B) _ _ _ x e).1 rfl rfl rfl rfl rfl dX6_queue_5, (c_X2_has (bL B) (bD B) _ _ _ x e).2⟩) (fun x2 => ?_)
  refine j_if_ne C 13 dX6_queue_8 (by decide) (fun c3 => ?_) (fun c3 => ?_)
  · refine j_aload_n C dX6_queue_13 0 rfl rfl ?_
    refine j_getR C wfl_X6_27 dX6_queue_14 (fun a4 => ?_)
    refine j_iload_n C dX6_queue_17 1 rfl rfl ?_
    refine j_cIp (st := []) (fun x e => ⟨runsV C wml_X6_116 wce_X2_waits (c_X2_waits (bL B) (bD B) _ _ _ x e).1 rfl rfl rfl rfl rfl dX6_queue_18, (c_X2_waits (bL B) (bD B) _ _ _ x e).2⟩) (fun x5 => ?_)
    refine J.jn0 (h0 := h) (lv0 := []) (st0 := []) 41 ?_ (fun k6 hk6 => ?_)
    · refine j_bipush C (-2 : Int32) dX6_queue_41 (by decide) ?_
      exact j_iret C dX6_queue_43
    refine j_if_eq C 41 dX6_queue_21 (by decide) (fun c7 => ?_) (fun c7 => ?_)
    · refine J.sub (lv' := []) [] rfl ?_
      exact hk6
    · refine j_aload_n C dX6_queue_24 0 rfl rfl ?_
      refine j_iload_n C dX6_queue_25 1 rfl rfl ?_
      refine j_cIp (st := []) (fun x e => ⟨runsV C wml_X6_139 wce_X6_isInLine (c_X6_isInLine (bL B) (bD B) _ _ _ x e).1 rfl rfl rfl rfl rfl dX6_queue_26, (c_X6_isInLine (bL B) (bD B) _ _ _ x e).2⟩) (fun x8 => ?_)
      refine j_if_ne C 41 dX6_queue_29 (by decide) (fun c9 => ?_) (fun c9 => ?_)
      · refine J.sub (lv' := []) [] rfl ?_
        exact hk6
      · refine j_aload_n C dX6_queue_32 0 rfl rfl ?_
        refine j_getI C wfl_X6_88 dX6_queue_33 (fun x10 => ?_)
        refine j_bipush C (10 : Int32) dX6_queue_36 (by decide) ?_
        refine j_icmp_lt C 44 dX6_queue_38 (by decide) (fun c11 => ?_) (fun c11 => ?_)
        · refine j_aload_n C dX6_queue_44 0 rfl rfl ?_
          refine j_getR C wfl_X6_37 dX6_queue_45 (fun a12 => ?_)
          refine j_aload_n C dX6_queue_48 0 rfl rfl ?_
          refine j_getI C wfl_X6_88 dX6_queue_49 (fun x13 => ?_)
          refine j_iload_n C dX6_queue_52 1 rfl rfl ?_
          refine j_iastore C dX6_queue_53 (fun h14 => ?_)
          refine j_aload_n C dX6_queue_54 0 rfl rfl ?_
          refine j_dup C dX6_queue_55 (fun _ => rfl) ?_
          refine j_getI C wfl_X6_88 dX6_queue_56 (fun x15 => ?_)
          refine j_iconst C (1 : Int32) dX6_queue_59 (by decide) ?_
          refine j_iadd C dX6_queue_60 ?_
          refine j_put C wfp_X6_88 dX6_queue_61 ⟨_, rfl⟩ (fun h16 => ?_)
          refine j_aload_n C dX6_queue_64 0 rfl rfl ?_
          refine j_getI C wfl_X6_88 dX6_queue_65 (fun x17 => ?_)
          exact j_iret C dX6_queue_68
        · refine J.sub (lv' := []) [] rfl ?_
          exact hk6
  · refine j_iconst C (-1 : Int32) dX6_queue_11 (by decide) ?_
    exact j_iret C dX6_queue_12
def f_X6_sack (a0 : Nat) (p1 : Int32) (p2 : Int32) (h : Hp) : Option Int32 :=
  bnd (gO h a0 6) fun _ => bnd (gR h a0 6 4) fun a1 => bnd (f_X2_has a1 p1 h) fun x2 => if x2 = 0 then (some (-1 : Int32)) else (sw p2 [(0, 48, bnd (gR h a0 6 4) fun a5 => bnd (gR h a5 2 3) fun a6 => bnd (ldI 0 h a6 p1) fun x7 => some x7), (1, 58, bnd (gR h a0 6 4) fun a8 => bnd (gR h a8 2 4) fun a9 => bnd (ldI 0 h a9 p1) fun x10 => some x10), (2, 68, bnd (gR h a0 6 4) fun a11 => bnd (gR h a11 2 5) fun a12 => bnd (ldI 0 h a12 p1) fun x13 => some x13), (3, 78, bnd (gR h a0 6 4) fun a14 => bnd (gR h a14 2 6) fun a15 => bnd (ldI 0 h a15 p1) fun x16 => some x16), (4, 88, bnd (gR h a0 6 4) fun a17 => bnd (gR h a17 2 7) fun a18 => bnd (ldI 0 h a18 p1) fun x19 => some x19)] (some (-1 : Int32)))
set_option maxHeartbeats 4000000 in
set_option maxRecDepth 100000 in
theorem c_X6_sack (l : Launch) (D : hD) (a0 : Nat) (p1 : Int32) (p2 : Int32) (h : Hp) (x : Int32) (e : f_X6_sack a0 p1 p2 h = some x) : (∃ fs, gO h a0 6 = some fs) ∧ Ct l D yX6_sack cX6_sack 3 (some .int) 1 21 [.ref a0, .int p1, .int p2] h (some (.int x)) h := by
  obtain ⟨fs, g1, g2⟩ := bnd_some e
  refine ⟨⟨fs, g1⟩, ?_⟩
  refine ct_of (out := (oIp h)) g2 (by decide +kernel) rfl (fun B C hin hl hd => ?_)
  subst hl; subst hd
  show J B _ _ h 0 [(0, .ref a0), (1, .int p1), (2, .int p2)] []
  refine j_aload_n C dX6_sack_0 0 rfl rfl ?_
  refine j_getR C wfl_X6_27 dX6_sack_1 (fun a1 => ?_)
  refine j_iload_n C dX6_sack_4 1 rfl rfl ?_
  refine j_cIp (st := []) (fun x e => ⟨runsV C wml_X6_97 wce_X2_has (c_X2_has (bL B) (bD B) _ _ _ x e).1 rfl rfl rfl rfl rfl dX6_sack_5, (c_X2_has (bL B) (bD B) _ _ _ x e).2⟩) (fun x2 => ?_)
  refine j_if_ne C 13 dX6_sack_8 (by decide) (fun c3 => ?_) (fun c3 => ?_)
  · refine j_iload_n C dX6_sack_13 2 rfl rfl ?_
    refine j_table C 98 [(0, 48), (1, 58), (2, 68), (3, 78), (4, 88)] dX6_sack_14 rfl (by decide) (by decide) (by decide) ?_ ?_
    · refine ⟨fun c4 => ?_, fun c4 => ?_, fun c4 => ?_, fun c4 => ?_, fun c4 => ?_, trivial⟩
      · dsimp only
        refine j_aload_n C dX6_sack_48 0 rfl rfl ?_
        refine j_getR C wfl_X6_27 dX6_sack_49 (fun a5 => ?_)
        refine j_getR C wfl_X6_101 dX6_sack_52 (fun a6 => ?_)
        refine j_iload_n C dX6_sack_55 1 rfl rfl ?_
        refine j_iaload C dX6_sack_56 (fun x7 => ?_)
        exact j_iretp C dX6_sack_57
      · dsimp only
        refine j_aload_n C dX6_sack_58 0 rfl rfl ?_
        refine j_getR C wfl_X6_27 dX6_sack_59 (fun a8 => ?_)
        refine j_getR C wfl_X6_104 dX6_sack_62 (fun a9 => ?_)
        refine j_iload_n C dX6_sack_65 1 rfl rfl ?_
        refine j_iaload C dX6_sack_66 (fun x10 => ?_)
        exact j_iretp C dX6_sack_67
      · dsimp only
        refine j_aload_n C dX6_sack_68 0 rfl rfl ?_
        refine j_getR C wfl_X6_27 dX6_sack_69 (fun a11 => ?_)
        refine j_getR C wfl_X6_107 dX6_sack_72 (fun a12 => ?_)
        refine j_iload_n C dX6_sack_75 1 rfl rfl ?_
        refine j_iaload C dX6_sack_76 (fun x13 => ?_)
        exact j_iretp C dX6_sack_77
      · dsimp only
        refine j_aload_n C dX6_sack_78 0 rfl rfl ?_
        refine j_getR C wfl_X6_27 dX6_sack_79 (fun a14 => ?_)
        refine j_getR C wfl_X6_110 dX6_sack_82 (fun a15 => ?_)
        refine j_iload_n C dX6_sack_85 1 rfl rfl ?_
        refine j_iaload C dX6_sack_86 (fun x16 => ?_)
        exact j_iretp C dX6_sack_87
      · dsimp only
        refine j_aload_n C dX6_sack_88 0 rfl rfl ?_
        refine j_getR C wfl_X6_27 dX6_sack_89 (fun a17 => ?_)
        refine j_getR C wfl_X6_113 dX6_sack_92 (fun a18 => ?_)
        refine j_iload_n C dX6_sack_95 1 rfl rfl ?_
        refine j_iaload C dX6_sack_96 (fun x19 => ?_)
        exact j_iretp C dX6_sack_97
    · refine j_iconst C (-1 : Int32) dX6_sack_98 (by decide) ?_
      exact j_iretp C dX6_sack_99
  · refine j_iconst C (-1 : Int32) dX6_sack_11 (by decide) ?_
    exact j_iretp C dX6_sack_12
def f_X6_sell (a0 : Nat) (p1 : Int32) (h : Hp) : Option (Int32 × Hp) :=
  bnd (gO h a0 6) fun _ => bnd (gR h a0 6 4) fun a1 => bnd (f_X2_has a1 p1 h) fun x2 => if x2 = 0 then (some ((-1 : Int32), h)) else (bnd (gR h a0 6 4) fun a4 => bnd (f_X2_waits a4 p1 h) fun x5 => if x5 = 0 then (some ((-2 : Int32), h)) else (bnd (f_X6_remember a0 h) fun h7 => bnd (pF h7 a0 6 10 (.int (0 : Int32))) fun h8 => bnd (gR h8 a0 6 4) fun a9 => bnd (gR h8 a9 2 7) fun a10 => bnd (stI 0 h8 a10 p1 (2 : Int32)) fun h11 => bnd (gR h11 a0 6 4) fun a12 => bnd (gR h11 a12 2 4) fun a13 => bnd (ldI 0 h11 a13 p1) fun x14 => some (x14, h11)))
set_option maxHeartbeats 4000000 in
set_option maxRecDepth 100000 in
theorem c_X6_sell (l : Launch) (D : hD) (a0 : Nat) (p1 : Int32) (h : Hp) (x : (Int32 × Hp)) (e : f_X6_sell a0 p1 h = some x) : (∃ fs, gO h a0 6 = some fs) ∧ Ct l D yX6_sell cX6_sell 2 (some .int) 3 69 [.ref a0, .int p1] h (some (.int x.1)) x.2 := by
  obtain ⟨fs, g1, g2⟩ := bnd_some e
  refine ⟨⟨fs, g1⟩, ?_⟩
  refine ct_of (out := oI) g2 (by decide +kernel) rfl (fun B C hin hl hd => ?_)
  subst hl; subst hd
  show J B _ _ h 0 [(0, .ref a0), (1, .int p1)] []
  refine j_aload_n C dX6_sell_0 0 rfl rfl ?_
  refine j_getR C wfl_X6_27 dX6_sell_1 (fun a1 => ?_)
  refine j_iload_n C dX6_sell_4 1 rfl rfl ?_
  refine j_cIp (st := []) (fun x e => ⟨runsV C wml_X6_97 wce_X2_has (c_X2_has (bL B) (bD B) _ _ _ x e).1 rfl rfl rfl rfl rfl dX6_sell_5, (c_X2_has (bL B) (bD B) _ _ _ x e).2⟩) (fun x2 => ?_)
  refine j_if_ne C 13 dX6_sell_8 (by decide) (fun c3 => ?_) (fun c3 => ?_)
  · refine j_aload_n C dX6_sell_13 0 rfl rfl ?_
    refine j_getR C wfl_X6_27 dX6_sell_14 (fun a4 => ?_)
    refine j_iload_n C dX6_sell_17 1 rfl rfl ?_
    refine j_cIp (st := []) (fun x e => ⟨runsV C wml_X6_116 wce_X2_waits (c_X2_waits (bL B) (bD B) _ _ _ x e).1 rfl rfl rfl rfl rfl dX6_sell_18, (c_X2_waits (bL B) (bD B) _ _ _ x e).2⟩) (fun x5 => ?_)
    refine j_if_ne C 27 dX6_sell_21 (by decide) (fun c6 => ?_) (fun c6 => ?_)
    · refine j_aload_n C dX6_sell_27 0 rfl rfl ?_
      refine j_cV (st := []) (fun x e => ⟨runsV C wml_X6_122 wce_X6_remember (c_X6_remember (bL B) (bD B) _ _ x e).1 rfl rfl rfl rfl rfl dX6_sell_28, (c_X6_remember (bL B) (bD B) _ _ x e).2⟩) (fun h7 => ?_)
      refine j_aload_n C dX6_sell_31 0 rfl rfl ?_
      refine j_iconst C (0 : Int32) dX6_sell_32 (by decide) ?_
      refine j_put C wfp_X6_88 dX6_sell_33 ⟨_, rfl⟩ (fun h8 => ?_)
      refine j_aload_n C dX6_sell_36 0 rfl rfl ?_
      refine j_getR C wfl_X6_27 dX6_sell_37 (fun a9 => ?_)
      refine j_getR C wfl_X6_113 dX6_sell_40 (fun a10 => ?_)
      refine j_iload_n C dX6_sell_43 1 rfl rfl ?_
      refine j_iconst C (2 : Int32) dX6_sell_44 (by decide) ?_
      refine j_iastore C dX6_sell_45 (fun h11 => ?_)
      refine j_aload_n C dX6_sell_46 0 rfl rfl ?_
      refine j_getR C wfl_X6_27 dX6_sell_47 (fun a12 => ?_)
      refine j_getR C wfl_X6_104 dX6_sell_50 (fun a13 => ?_)
      refine j_iload_n C dX6_sell_53 1 rfl rfl ?_
      refine j_iaload C dX6_sell_54 (fun x14 => ?_)
      exact j_iret C dX6_sell_55
    · refine j_bipush C (-2 : Int32) dX6_sell_24 (by decide) ?_
      exact j_iret C dX6_sell_26
  · refine j_iconst C (-1 : Int32) dX6_sell_11 (by decide) ?_
    exact j_iret C dX6_sell_12
def f_X6_bread (a0 : Nat) (h : Hp) : Option Int32 :=
  bnd (gO h a0 6) fun _ => wl2 (fun r3 (i1 : Int32) (i2 : Int32) => bnd (gI h a0 6 10) fun x4 => if x4 ≤ i2 then (some i1) else (bnd (gR h a0 6 4) fun a6 => bnd (gR h a0 6 9) fun a7 => bnd (ldI 0 h a7 (i2 - (2 : Int32))) fun x8 => bnd (f_X2_kindOf a6 x8 h) fun x9 => bnd (gR h a0 6 4) fun a10 => bnd (gR h a0 6 9) fun a11 => bnd (ldI 0 h a11 (i2 - (1 : Int32))) fun x12 => bnd (f_X2_kindOf a10 x12 h) fun x13 => bnd (gR h a0 6 4) fun a14 => bnd (gR h a0 6 9) fun a15 => bnd (ldI 0 h a15 i2) fun x16 => bnd (f_X2_kindOf a14 x16 h) fun x17 => jn1 (fun (z18 : Int32) => r3 z18 (i2 + (1 : Int32))) fun k19 => if x9 = x13 then (k19 i1) else (if x13 = x17 then (k19 i1) else (if x9 = x17 then (k19 i1) else (k19 (i1 + (1 : Int32))))))) fuel (0 : Int32) (2 : Int32)
set_option maxHeartbeats 4000000 in
set_option maxRecDepth 100000 in
theorem c_X6_bread (l : Launch) (D : hD) (a0 : Nat) (h : Hp) (x : Int32) (e : f_X6_bread a0 h = some x) : (∃ fs, gO h a0 6 = some fs) ∧ Ct l D yX6_bread cX6_bread 6 (some .int) 2 42 [.ref a0] h (some (.int x)) h := by
  obtain ⟨fs, g1, g2⟩ := bnd_some e
  refine ⟨⟨fs, g1⟩, ?_⟩
  refine ct_of (out := (oIp h)) g2 (by decide +kernel) rfl (fun B C hin hl hd => ?_)
  subst hl; subst hd
  show J B _ _ h 0 [(0, .ref a0)] []
  refine j_iconst C (0 : Int32) dX6_bread_0 (by decide) ?_
  refine j_istore_n (lv' := [(1, .int (0 : Int32)), (0, .ref a0)]) C dX6_bread_1 rfl rfl rfl ?_
  refine j_iconst C (2 : Int32) dX6_bread_2 (by decide) ?_
  refine j_istore_n (lv' := [(2, .int (2 : Int32)), (1, .int (0 : Int32)), (0, .ref a0)]) C dX6_bread_3 rfl rfl rfl ?_
  refine J.sub (lv' := [(0, .ref a0), (1, .int (0 : Int32)), (2, .int (2 : Int32))]) [2, 1, 0] rfl ?_
  refine J.wl2 4 (fun (i1 : Int32) (i2 : Int32) => h) (fun (i1 : Int32) (i2 : Int32) => [(0, .ref a0), (1, .int i1), (2, .int i2)]) (fun (i1 : Int32) (i2 : Int32) => []) (fun r3 hr3 i1 i2 => ?_) fuel (0 : Int32) (2 : Int32)
  refine j_iload_n C dX6_bread_4 2 rfl rfl ?_
  refine j_aload_n C dX6_bread_5 0 rfl rfl ?_
  refine j_getI C wfl_X6_88 dX6_bread_6 (fun x4 => ?_)
  refine j_icmp_ge C 88 dX6_bread_9 (by decide) (fun c5 => ?_) (fun c5 => ?_)
  · refine j_iload_n C dX6_bread_88 1 rfl rfl ?_
    exact j_iretp C dX6_bread_89
  · refine j_aload_n C dX6_bread_12 0 rfl rfl ?_
    refine j_getR C wfl_X6_27 dX6_bread_13 (fun a6 => ?_)
    refine j_aload_n C dX6_bread_16 0 rfl rfl ?_
    refine j_getR C wfl_X6_37 dX6_bread_17 (fun a7 => ?_)
    refine j_iload_n C dX6_bread_20 2 rfl rfl ?_
    refine j_iconst C (2 : Int32) dX6_bread_21 (by decide) ?_
    refine j_isub C dX6_bread_22 ?_
    refine j_iaload C dX6_bread_23 (fun x8 => ?_)
    refine j_cIp (st := []) (fun x e => ⟨runsV C wml_X6_162 wce_X2_kindOf (c_X2_kindOf (bL B) (bD B) _ _ _ x e).1 rfl rfl rfl rfl rfl dX6_bread_24, (c_X2_kindOf (bL B) (bD B) _ _ _ x e).2⟩) (fun x9 => ?_)
    refine j_istore_n (lv' := [(3, .int x9), (0, .ref a0), (1, .int i1), (2, .int i2)]) C dX6_bread_27 rfl rfl rfl ?_
    refine j_aload_n C dX6_bread_28 1 rfl rfl ?_
    refine j_getR C wfl_X6_27 dX6_bread_29 (fun a10 => ?_)
    refine j_aload_n C dX6_bread_32 1 rfl rfl ?_
    refine j_getR C wfl_X6_37 dX6_bread_33 (fun a11 => ?_)
    refine j_iload_n C dX6_bread_36 3 rfl rfl ?_
    refine j_iconst C (1 : Int32) dX6_bread_37 (by decide) ?_
    refine j_isub C dX6_bread_38 ?_
    refine j_iaload C dX6_bread_39 (fun x12 => ?_)
    refine j_cIp (st := []) (fun x e => ⟨runsV C wml_X6_162 wce_X2_kindOf (c_X2_kindOf (bL B) (bD B) _ _ _ x e).1 rfl rfl rfl rfl rfl dX6_bread_40, (c_X2_kindOf (bL B) (bD B) _ _ _ x e).2⟩) (fun x13 => ?_)
    refine j_istore (lv' := [(4, .int x13), (3, .int x9), (0, .ref a0), (1, .int i1), (2, .int i2)]) C dX6_bread_43 rfl rfl ?_
    refine j_aload_n C dX6_bread_45 2 rfl rfl ?_
    refine j_getR C wfl_X6_27 dX6_bread_46 (fun a14 => ?_)
    refine j_aload_n C dX6_bread_49 2 rfl rfl ?_
    refine j_getR C wfl_X6_37 dX6_bread_50 (fun a15 => ?_)
    refine j_iload_n C dX6_bread_53 4 rfl rfl ?_
    refine j_iaload C dX6_bread_54 (fun x16 => ?_)
    refine j_cIp (st := []) (fun x e => ⟨runsV C wml_X6_162 wce_X2_kindOf (c_X2_kindOf (bL B) (bD B) _ _ _ x e).1 rfl rfl rfl rfl rfl dX6_bread_55, (c_X2_kindOf (bL B) (bD B) _ _ _ x e).2⟩) (fun x17 => ?_)
    refine j_istore (lv' := [(5, .int x17), (4, .int x13), (3, .int x9), (0, .ref a0), (1, .int i1), (2, .int i2)]) C dX6_bread_58 rfl rfl ?_
    refine j_iload_n C dX6_bread_60 2 rfl rfl ?_
    refine j_iload C dX6_bread_61 1 rfl ?_
    refine J.jn1 82 (fun (z18 : Int32) => h) (fun (z18 : Int32) => [(0, .ref a0), (1, .int z18), (2, .int i2)]) (fun (z18 : Int32) => []) (fun z18 => ?_) (fun k19 hk19 => ?_)
    · refine j_iinc (lv' := [(2, .int (i2 + (1 : Int32))), (0, .ref a0), (1, .int z18)]) C (1 : Int32) dX6_bread_82 2 rfl (by decide) rfl rfl ?_
      refine j_goto C 4 dX6_bread_85 (by decide) ?_
      refine J.sub (lv' := [(0, .ref a0), (1, .int z18), (2, .int (i2 + (1 : Int32)))]) [1, 2, 0] rfl ?_
      exact hr3 z18 (i2 + (1 : Int32))
    refine j_icmp_eq C 82 dX6_bread_63 (by decide) (fun c20 => ?_) (fun c20 => ?_)
    · refine J.sub (lv' := [(0, .ref a0), (1, .int i1), (2, .int i2)]) [3, 4, 5] rfl ?_
      exact hk19 i1
    · refine j_iload C dX6_bread_66 1 rfl ?_
      refine j_iload C dX6_bread_68 0 rfl ?_
      refine j_icmp_eq C 82 dX6_bread_70 (by decide) (fun c21 => ?_) (fun c21 => ?_)
      · refine J.sub (lv' := [(0, .ref a0), (1, .int i1), (2, .int i2)]) [3, 4, 5] rfl ?_
        exact hk19 i1
      · refine j_iload_n C dX6_bread_73 2 rfl rfl ?_
        refine j_iload C dX6_bread_74 0 rfl ?_
        refine j_icmp_eq C 82 dX6_bread_76 (by decide) (fun c22 => ?_) (fun c22 => ?_)
        · refine J.sub (lv' := [(0, .ref a0), (1, .int i1), (2, .int i2)]) [3, 4, 5] rfl ?_
          exact hk19 i1
        · refine j_iinc (lv' := [(1, .int (i1 + (1 : Int32))), (5, .int x17), (4, .int x13), (3, .int x9), (0, .ref a0), (2, .int i2)]) C (1 : Int32) dX6_bread_79 4 rfl (by decide) rfl rfl ?_
          refine J.sub (lv' := [(0, .ref a0), (1, .int (i1 + (1 : Int32))), (2, .int i2)]) [4, 0, 5] rfl ?_
          exact hk19 (i1 + (1 : Int32))
def f_X6_stopPlace (a0 : Nat) (h : Hp) : Option Int32 :=
  bnd (gO h a0 6) fun _ => bnd (gR h a0 6 4) fun a1 => bnd (gI h a1 2 9) fun x2 => bnd (gR h a0 6 4) fun a3 => bnd (gI h a3 2 10) fun x4 => wl3 (fun r8 (i5 : Int32) (i6 : Int32) (i7 : Int32) => bnd (gI h a0 6 10) fun x9 => if x9 ≤ i7 then (bnd (gI h a0 6 10) fun x11 => some x11) else (bnd (gR h a0 6 4) fun a12 => bnd (gR h a0 6 9) fun a13 => bnd (ldI 0 h a13 i7) fun x14 => bnd (f_X2_kindOf a12 x14 h) fun x15 => bnd (f_X6_fits x15 i5 i6) fun x16 => if x16 = 0 then (some i7) else (bnd (gR h a0 6 4) fun a18 => bnd (gI h a18 2 0) fun x19 => bnd (f_X6_heldBefore x19 i5) fun x20 => r8 x15 x20 (i7 + (1 : Int32))))) fuel x2 x4 (0 : Int32)
set_option maxHeartbeats 4000000 in
set_option maxRecDepth 100000 in
theorem c_X6_stopPlace (l : Launch) (D : hD) (a0 : Nat) (h : Hp) (x : Int32) (e : f_X6_stopPlace a0 h = some x) : (∃ fs, gO h a0 6 = some fs) ∧ Ct l D yX6_stopPlace cX6_stopPlace 5 (some .int) 2 42 [.ref a0] h (some (.int x)) h := by
  obtain ⟨fs, g1, g2⟩ := bnd_some e
  refine ⟨⟨fs, g1⟩, ?_⟩
  refine ct_of (out := (oIp h)) g2 (by decide +kernel) rfl (fun B C hin hl hd => ?_)
  subst hl; subst hd
  show J B _ _ h 0 [(0, .ref a0)] []
  refine j_aload_n C dX6_stopPlace_0 0 rfl rfl ?_
  refine j_getR C wfl_X6_27 dX6_stopPlace_1 (fun a1 => ?_)
  refine j_getI C wfl_X6_156 dX6_stopPlace_4 (fun x2 => ?_)
  refine j_istore_n (lv' := [(1, .int x2), (0, .ref a0)]) C dX6_stopPlace_7 rfl rfl rfl ?_
  refine j_aload_n C dX6_stopPlace_8 1 rfl rfl ?_
  refine j_getR C wfl_X6_27 dX6_stopPlace_9 (fun a3 => ?_)
  refine j_getI C wfl_X6_159 dX6_stopPlace_12 (fun x4 => ?_)
  refine j_istore_n (lv' := [(2, .int x4), (1, .int x2), (0, .ref a0)]) C dX6_stopPlace_15 rfl rfl rfl ?_
  refine j_iconst C (0 : Int32) dX6_stopPlace_16 (by decide) ?_
  refine j_istore_n (lv' := [(3, .int (0 : Int32)), (2, .int x4), (1, .int x2), (0, .ref a0)]) C dX6_stopPlace_17 rfl rfl rfl ?_
  refine J.sub (lv' := [(0, .ref a0), (1, .int x2), (2, .int x4), (3, .int (0 : Int32))]) [3, 2, 1, 0] rfl ?_
  refine J.wl3 18 (fun (i5 : Int32) (i6 : Int32) (i7 : Int32) => h) (fun (i5 : Int32) (i6 : Int32) (i7 : Int32) => [(0, .ref a0), (1, .int i5), (2, .int i6), (3, .int i7)]) (fun (i5 : Int32) (i6 : Int32) (i7 : Int32) => []) (fun r8 hr8 i5 i6 i7 => ?_) fuel x2 x4 (0 : Int32)
  refine j_iload_n C dX6_stopPlace_18 3 rfl rfl ?_
  refine j_aload_n C dX6_stopPlace_19 0 rfl rfl ?_
  refine j_getI C wfl_X6_88 dX6_stopPlace_20 (fun x9 => ?_)
  refine j_icmp_ge C 74 dX6_stopPlace_23 (by decide) (fun c10 => ?_) (fun c10 => ?_)
  · refine j_aload_n C dX6_stopPlace_74 0 rfl rfl ?_
    refine j_getI C wfl_X6_88 dX6_stopPlace_75 (fun x11 => ?_)
    exact j_iretp C dX6_stopPlace_78
  · refine j_aload_n C dX6_stopPlace_26 0 rfl rfl ?_
    refine j_getR C wfl_X6_27 dX6_stopPlace_27 (fun a12 => ?_)
    refine j_aload_n C dX6_stopPlace_30 0 rfl rfl ?_
    refine j_getR C wfl_X6_37 dX6_stopPlace_31 (fun a13 => ?_)
    refine j_iload_n C dX6_stopPlace_34 3 rfl rfl ?_
    refine j_iaload C dX6_stopPlace_35 (fun x14 => ?_)
    refine j_cIp (st := []) (fun x e => ⟨runsV C wml_X6_162 wce_X2_kindOf (c_X2_kindOf (bL B) (bD B) _ _ _ x e).1 rfl rfl rfl rfl rfl dX6_stopPlace_36, (c_X2_kindOf (bL B) (bD B) _ _ _ x e).2⟩) (fun x15 => ?_)
    refine j_istore (lv' := [(4, .int x15), (0, .ref a0), (1, .int i5), (2, .int i6), (3, .int i7)]) C dX6_stopPlace_39 rfl rfl ?_
    refine j_iload C dX6_stopPlace_41 0 rfl ?_
    refine j_iload_n C dX6_stopPlace_43 2 rfl rfl ?_
    refine j_iload_n C dX6_stopPlace_44 3 rfl rfl ?_
    refine j_cIp (st := []) (fun x e => ⟨runsS C wml_X6_166 wce_X6_fits rfl rfl rfl rfl rfl dX6_stopPlace_45, c_X6_fits (bL B) (bD B) _ _ _ _ x e⟩) (fun x16 => ?_)
    refine j_if_ne C 53 dX6_stopPlace_48 (by decide) (fun c17 => ?_) (fun c17 => ?_)
    · refine j_aload_n C dX6_stopPlace_53 1 rfl rfl ?_
      refine j_getR C wfl_X6_27 dX6_stopPlace_54 (fun a18 => ?_)
      refine j_getI C wfl_X6_170 dX6_stopPlace_57 (fun x19 => ?_)
      refine j_iload_n C dX6_stopPlace_60 2 rfl rfl ?_
      refine j_cIp (st := []) (fun x e => ⟨runsS C wml_X6_173 wce_X6_heldBefore rfl rfl rfl rfl rfl dX6_stopPlace_61, c_X6_heldBefore (bL B) (bD B) _ _ _ x e⟩) (fun x20 => ?_)
      refine j_istore_n (lv' := [(2, .int x20), (4, .int x15), (0, .ref a0), (1, .int i5), (3, .int i7)]) C dX6_stopPlace_64 rfl rfl rfl ?_
      refine j_iload C dX6_stopPlace_65 1 rfl ?_
      refine j_istore_n (lv' := [(1, .int x15), (2, .int x20), (4, .int x15), (0, .ref a0), (3, .int i7)]) C dX6_stopPlace_67 rfl rfl rfl ?_
      refine j_iinc (lv' := [(3, .int (i7 + (1 : Int32))), (1, .int x15), (2, .int x20), (4, .int x15), (0, .ref a0)]) C (1 : Int32) dX6_stopPlace_68 4 rfl (by decide) rfl rfl ?_
      refine j_goto C 18 dX6_stopPlace_71 (by decide) ?_
      refine J.sub (lv' := [(0, .ref a0), (1, .int x15), (2, .int x20), (3, .int (i7 + (1 : Int32)))]) [4, 1, 2, 0] rfl ?_
      exact hr8 x15 x20 (i7 + (1 : Int32))
    · refine j_iload_n C dX6_stopPlace_51 4 rfl rfl ?_
      exact j_iretp C dX6_stopPlace_52
def f_X6_lineEnds (a0 : Nat) (h : Hp) : Option Int32 :=
  bnd (gO h a0 6) fun _ => bnd (f_X6_stopPlace a0 h) fun x1 => bnd (gR h a0 6 4) fun a2 => bnd (gI h a2 2 8) fun x3 => wl2 (fun r6 (i4 : Int32) (i5 : Int32) => if x1 ≤ i5 then (some i4) else (bnd (gR h a0 6 4) fun a8 => bnd (gR h a0 6 9) fun a9 => bnd (ldI 0 h a9 i5) fun x10 => bnd (f_X2_hourAfter a8 i4 x10 h) fun x11 => r6 x11 (i5 + (1 : Int32)))) fuel x3 (0 : Int32)
set_option maxHeartbeats 4000000 in
set_option maxRecDepth 100000 in
theorem c_X6_lineEnds (l : Launch) (D : hD) (a0 : Nat) (h : Hp) (x : Int32) (e : f_X6_lineEnds a0 h = some x) : (∃ fs, gO h a0 6 = some fs) ∧ Ct l D yX6_lineEnds cX6_lineEnds 4 (some .int) 3 66 [.ref a0] h (some (.int x)) h := by
  obtain ⟨fs, g1, g2⟩ := bnd_some e
  refine ⟨⟨fs, g1⟩, ?_⟩
  refine ct_of (out := (oIp h)) g2 (by decide +kernel) rfl (fun B C hin hl hd => ?_)
  subst hl; subst hd
  show J B _ _ h 0 [(0, .ref a0)] []
  refine j_aload_n C dX6_lineEnds_0 0 rfl rfl ?_
  refine j_cIp (st := []) (fun x e => ⟨runsV C wml_X6_146 wce_X6_stopPlace (c_X6_stopPlace (bL B) (bD B) _ _ x e).1 rfl rfl rfl rfl rfl dX6_lineEnds_1, (c_X6_stopPlace (bL B) (bD B) _ _ x e).2⟩) (fun x1 => ?_)
  refine j_istore_n (lv' := [(1, .int x1), (0, .ref a0)]) C dX6_lineEnds_4 rfl rfl rfl ?_
  refine j_aload_n C dX6_lineEnds_5 1 rfl rfl ?_
  refine j_getR C wfl_X6_27 dX6_lineEnds_6 (fun a2 => ?_)
  refine j_getI C wfl_X6_129 dX6_lineEnds_9 (fun x3 => ?_)
  refine j_istore_n (lv' := [(2, .int x3), (1, .int x1), (0, .ref a0)]) C dX6_lineEnds_12 rfl rfl rfl ?_
  refine j_iconst C (0 : Int32) dX6_lineEnds_13 (by decide) ?_
  refine j_istore_n (lv' := [(3, .int (0 : Int32)), (2, .int x3), (1, .int x1), (0, .ref a0)]) C dX6_lineEnds_14 rfl rfl rfl ?_
  refine J.sub (lv' := [(0, .ref a0), (1, .int x1), (2, .int x3), (3, .int (0 : Int32))]) [3, 2, 1, 0] rfl ?_
  refine J.wl2 15 (fun (i4 : Int32) (i5 : Int32) => h) (fun (i4 : Int32) (i5 : Int32) => [(0, .ref a0), (1, .int x1), (2, .int i4), (3, .int i5)]) (fun (i4 : Int32) (i5 : Int32) => []) (fun r6 hr6 i4 i5 => ?_) fuel x3 (0 : Int32)
  refine j_iload_n C dX6_lineEnds_15 3 rfl rfl ?_
  refine j_iload_n C dX6_lineEnds_16 1 rfl rfl ?_
  refine j_icmp_ge C 41 dX6_lineEnds_17 (by decide) (fun c7 => ?_) (fun c7 => ?_)
  · refine j_iload_n C dX6_lineEnds_41 2 rfl rfl ?_
    exact j_iretp C dX6_lineEnds_42
  · refine j_aload_n C dX6_lineEnds_20 0 rfl rfl ?_
    refine j_getR C wfl_X6_27 dX6_lineEnds_21 (fun a8 => ?_)
    refine j_iload_n C dX6_lineEnds_24 2 rfl rfl ?_
    refine j_aload_n C dX6_lineEnds_25 0 rfl rfl ?_
    refine j_getR C wfl_X6_37 dX6_lineEnds_26 (fun a9 => ?_)
    refine j_iload_n C dX6_lineEnds_29 3 rfl rfl ?_
    refine j_iaload C dX6_lineEnds_30 (fun x10 => ?_)
    refine j_cIp (st := []) (fun x e => ⟨runsV C wml_X6_177 wce_X2_hourAfter (c_X2_hourAfter (bL B) (bD B) _ _ _ _ x e).1 rfl rfl rfl rfl rfl dX6_lineEnds_31, (c_X2_hourAfter (bL B) (bD B) _ _ _ _ x e).2⟩) (fun x11 => ?_)
    refine j_istore_n (lv' := [(2, .int x11), (0, .ref a0), (1, .int x1), (3, .int i5)]) C dX6_lineEnds_34 rfl rfl rfl ?_
    refine j_iinc (lv' := [(3, .int (i5 + (1 : Int32))), (2, .int x11), (0, .ref a0), (1, .int x1)]) C (1 : Int32) dX6_lineEnds_35 3 rfl (by decide) rfl rfl ?_
    refine j_goto C 15 dX6_lineEnds_38 (by decide) ?_
    refine J.sub (lv' := [(0, .ref a0), (1, .int x1), (2, .int x11), (3, .int (i5 + (1 : Int32)))]) [2, 3, 1, 0] rfl ?_
    exact hr6 x11 (i5 + (1 : Int32))
def f_X6_stopsNowhere (a0 : Nat) (h : Hp) : Option Int32 :=
  bnd (gO h a0 6) fun _ => bnd (f_X6_stopPlace a0 h) fun x1 => bnd (gI h a0 6 10) fun x2 => jn1 (fun (w3 : Int32) => rZp w3) fun k4 => if x1 < x2 then (k4 (0 : Int32)) else (k4 (1 : Int32))
set_option maxHeartbeats 4000000 in
set_option maxRecDepth 100000 in
theorem c_X6_stopsNowhere (l : Launch) (D : hD) (a0 : Nat) (h : Hp) (x : Int32) (e : f_X6_stopsNowhere a0 h = some x) : (∃ fs, gO h a0 6 = some fs) ∧ Ct l D yX6_stopsNowhere cX6_stopsNowhere 1 (some .boolean) 3 66 [.ref a0] h (some (.int x)) h := by
  obtain ⟨fs, g1, g2⟩ := bnd_some e
  refine ⟨⟨fs, g1⟩, ?_⟩
  refine ct_of (out := (oIp h)) g2 (by decide +kernel) rfl (fun B C hin hl hd => ?_)
  subst hl; subst hd
  show J B _ _ h 0 [(0, .ref a0)] []
  refine j_aload_n C dX6_stopsNowhere_0 0 rfl rfl ?_
  refine j_cIp (st := []) (fun x e => ⟨runsV C wml_X6_146 wce_X6_stopPlace (c_X6_stopPlace (bL B) (bD B) _ _ x e).1 rfl rfl rfl rfl rfl dX6_stopsNowhere_1, (c_X6_stopPlace (bL B) (bD B) _ _ x e).2⟩) (fun x1 => ?_)
  refine j_aload_n C dX6_stopsNowhere_4 0 rfl rfl ?_
  refine j_getI C wfl_X6_88 dX6_stopsNowhere_5 (fun x2 => ?_)
  refine J.jn1 16 (fun (w3 : Int32) => h) (fun (w3 : Int32) => []) (fun (w3 : Int32) => [.int w3]) (fun w3 => ?_) (fun k4 hk4 => ?_)
  · exact j_zretp C dX6_stopsNowhere_16
  refine j_icmp_lt C 15 dX6_stopsNowhere_8 (by decide) (fun c5 => ?_) (fun c5 => ?_)
  · refine j_iconst C (0 : Int32) dX6_stopsNowhere_15 (by decide) ?_
    refine J.sub (lv' := []) [] rfl ?_
    exact hk4 (0 : Int32)
  · refine j_iconst C (1 : Int32) dX6_stopsNowhere_11 (by decide) ?_
    refine j_goto C 16 dX6_stopsNowhere_12 (by decide) ?_
    refine J.sub (lv' := []) [] rfl ?_
    exact hk4 (1 : Int32)
def f_X6_stops (a0 : Nat) (p1 : Int32) (h : Hp) : Option Int32 :=
  bnd (gO h a0 6) fun _ => sw p1 [(0, 28, bnd (f_X6_stopsNowhere a0 h) fun x2 => jn1 (fun (w3 : Int32) => some w3) fun k4 => if x2 = 0 then (bnd (f_X6_stopPlace a0 h) fun x6 => k4 x6) else (k4 (-4 : Int32))), (1, 45, bnd (f_X6_lineEnds a0 h) fun x7 => some x7), (2, 50, bnd (f_X6_bread a0 h) fun x8 => some x8)] (some (-1 : Int32))
set_option maxHeartbeats 4000000 in
set_option maxRecDepth 100000 in
theorem c_X6_stops (l : Launch) (D : hD) (a0 : Nat) (p1 : Int32) (h : Hp) (x : Int32) (e : f_X6_stops a0 p1 h = some x) : (∃ fs, gO h a0 6 = some fs) ∧ Ct l D yX6_stops cX6_stops 2 (some .int) 4 89 [.ref a0, .int p1] h (some (.int x)) h := by
  obtain ⟨fs, g1, g2⟩ := bnd_some e
  refine ⟨⟨fs, g1⟩, ?_⟩
  refine ct_of (out := (oIp h)) g2 (by decide +kernel) rfl (fun B C hin hl hd => ?_)
  subst hl; subst hd
  show J B _ _ h 0 [(0, .ref a0), (1, .int p1)] []
  refine j_iload_n C dX6_stops_0 1 rfl rfl ?_
  refine j_table C 55 [(0, 28), (1, 45), (2, 50)] dX6_stops_1 rfl (by decide) (by decide) (by decide) ?_ ?_
  · refine ⟨fun c1 => ?_, fun c1 => ?_, fun c1 => ?_, trivial⟩
    · dsimp only
      refine j_aload_n C dX6_stops_28 0 rfl rfl ?_
      refine j_cIp (st := []) (fun x e => ⟨runsV C wml_X6_142 wce_X6_stopsNowhere (c_X6_stopsNowhere (bL B) (bD B) _ _ x e).1 rfl rfl rfl rfl rfl dX6_stops_29, (c_X6_stopsNowhere (bL B) (bD B) _ _ x e).2⟩) (fun x2 => ?_)
      refine J.jn1 44 (fun (w3 : Int32) => h) (fun (w3 : Int32) => []) (fun (w3 : Int32) => [.int w3]) (fun w3 => ?_) (fun k4 hk4 => ?_)
      · exact j_iretp C dX6_stops_44
      refine j_if_eq C 40 dX6_stops_32 (by decide) (fun c5 => ?_) (fun c5 => ?_)
      · refine j_aload_n C dX6_stops_40 0 rfl rfl ?_
        refine j_cIp (st := []) (fun x e => ⟨runsV C wml_X6_146 wce_X6_stopPlace (c_X6_stopPlace (bL B) (bD B) _ _ x e).1 rfl rfl rfl rfl rfl dX6_stops_41, (c_X6_stopPlace (bL B) (bD B) _ _ x e).2⟩) (fun x6 => ?_)
        refine J.sub (lv' := []) [] rfl ?_
        exact hk4 x6
      · refine j_bipush C (-4 : Int32) dX6_stops_35 (by decide) ?_
        refine j_goto C 44 dX6_stops_37 (by decide) ?_
        refine J.sub (lv' := []) [] rfl ?_
        exact hk4 (-4 : Int32)
    · dsimp only
      refine j_aload_n C dX6_stops_45 0 rfl rfl ?_
      refine j_cIp (st := []) (fun x e => ⟨runsV C wml_X6_150 wce_X6_lineEnds (c_X6_lineEnds (bL B) (bD B) _ _ x e).1 rfl rfl rfl rfl rfl dX6_stops_46, (c_X6_lineEnds (bL B) (bD B) _ _ x e).2⟩) (fun x7 => ?_)
      exact j_iretp C dX6_stops_49
    · dsimp only
      refine j_aload_n C dX6_stops_50 0 rfl rfl ?_
      refine j_cIp (st := []) (fun x e => ⟨runsV C wml_X6_153 wce_X6_bread (c_X6_bread (bL B) (bD B) _ _ x e).1 rfl rfl rfl rfl rfl dX6_stops_51, (c_X6_bread (bL B) (bD B) _ _ x e).2⟩) (fun x8 => ?_)
      exact j_iretp C dX6_stops_54
  · refine j_iconst C (-1 : Int32) dX6_stops_55 (by decide) ?_
    exact j_iretp C dX6_stops_56
def f_X3_choose : Nat → Nat → Int32 → Int32 → Hp → Option Hp
  | 0, _, _, _, _ => none
  | n + 1, a0, p1, p2, h => bnd (gO h a0 3) fun _ => if p1 < (5 : Int32) then (bnd (gR h a0 3 1) fun a2 => bnd (ldI 0 h a2 p1) fun x3 => jn1 (fun (h4 : Hp) => bnd (f_X3_choose n a0 (p1 + (1 : Int32)) p2 h4) fun h6 => some h6) fun k5 => if x3 = (-4 : Int32) then (nm (p1 + (1 : Int32)) fun v8 => wl2 (fun r11 (i9 : Int32) (h10 : Hp) => if (5 : Int32) ≤ i9 then (k5 h10) else (bnd (gR h10 a0 3 1) fun a13 => bnd (ldI 0 h10 a13 i9) fun x14 => jn1 (fun (h15 : Hp) => r11 (i9 + (1 : Int32)) h15) fun k16 => if x14 = (-4 : Int32) then (bnd (gR h10 a0 3 0) fun a18 => bnd (ldI 2 h10 a18 ((p1 * (5 : Int32)) + i9)) fun x19 => if x19 = 0 then (k16 h10) else (bnd (gR h10 a0 3 1) fun a21 => bnd (stI 0 h10 a21 p1 i9) fun h22 => bnd (gR h22 a0 3 1) fun a23 => bnd (stI 0 h22 a23 i9 p1) fun h24 => bnd (f_X3_choose n a0 (p1 + (1 : Int32)) (p2 + (1 : Int32)) h24) fun h25 => bnd (gR h25 a0 3 1) fun a26 => bnd (stI 0 h25 a26 p1 (-4 : Int32)) fun h27 => bnd (gR h27 a0 3 1) fun a28 => bnd (stI 0 h27 a28 i9 (-4 : Int32)) fun h29 => k16 h29)) else (k16 h10))) fuel v8 h) else (k5 h)) else (bnd (gI h a0 3 3) fun x30 => jn1 (fun (h31 : Hp) => some h31) fun k32 => if p2 ≤ x30 then (k32 h) else (bnd (pF h a0 3 3 (.int p2)) fun h34 => bnd (gR h34 a0 3 1) fun a35 => bnd (gR h34 a0 3 2) fun a36 => bnd (cpI h34 a35 (0 : Int32) a36 (0 : Int32) (5 : Int32)) fun h37 => k32 h37))
set_option maxHeartbeats 4000000 in
set_option maxRecDepth 100000 in
theorem c_X3_choose (l : Launch) (D : hD) : ∀ (n : Nat) (a0 : Nat) (p1 : Int32) (p2 : Int32) (h : Hp) (x : Hp), f_X3_choose n a0 p1 p2 h = some x → (∃ fs, gO h a0 3 = some fs) ∧ Ct l D yX3_choose cX3_choose 4 none (1 + n) (26 + 23 * n) [.ref a0, .int p1, .int p2] h none x := by
  intro n
  induction n with
  | zero =>
    intro a0 p1 p2 h x e
    cases e
  | succ n ih =>
    intro a0 p1 p2 h x e
    obtain ⟨fs, g1, g2⟩ := bnd_some e
    refine ⟨⟨fs, g1⟩, ?_⟩
    refine ct_of (out := oV) g2 (by decide +kernel) rfl (fun B C hin hl hd => ?_)
    subst hl; subst hd
    show J B _ _ h 0 [(0, .ref a0), (1, .int p1), (2, .int p2)] []
    refine j_iload_n C dX3_choose_0 1 rfl rfl ?_
    refine j_iconst C (5 : Int32) dX3_choose_1 (by decide) ?_
    refine j_icmp_lt C 33 dX3_choose_2 (by decide) (fun c1 => ?_) (fun c1 => ?_)
    · refine j_aload_n C dX3_choose_33 0 rfl rfl ?_
      refine j_getR C wfl_X3_15 dX3_choose_34 (fun a2 => ?_)
      refine j_iload_n C dX3_choose_37 1 rfl rfl ?_
      refine j_iaload C dX3_choose_38 (fun x3 => ?_)
      refine j_bipush C (-4 : Int32) dX3_choose_39 (by decide) ?_
      refine J.jn1 123 (fun (h4 : Hp) => h4) (fun (h4 : Hp) => [(0, .ref a0), (1, .int p1), (2, .int p2)]) (fun (h4 : Hp) => []) (fun h4 => ?_) (fun k5 hk5 => ?_)
      · refine j_aload_n C dX3_choose_123 0 rfl rfl ?_
        refine j_iload_n C dX3_choose_124 1 rfl rfl ?_
        refine j_iconst C (1 : Int32) dX3_choose_125 (by decide) ?_
        refine j_iadd C dX3_choose_126 ?_
        refine j_iload_n C dX3_choose_127 2 rfl rfl ?_
        refine j_cV (st := []) (fun x e => ⟨runsV C wml_X3_36 wce_X3_choose (ih _ _ _ _ x e).1 rfl rfl rfl (Nat.ble_eq.mpr (by omega)) (Nat.ble_eq.mpr (by omega)) dX3_choose_128, (ih _ _ _ _ x e).2⟩) (fun h6 => ?_)
        exact j_vret C dX3_choose_131
      refine j_icmp_ne C 123 dX3_choose_41 (by decide) (fun c7 => ?_) (fun c7 => ?_)
      · exact hk5 h
      · refine j_iload_n C dX3_choose_44 1 rfl rfl ?_
        refine j_iconst C (1 : Int32) dX3_choose_45 (by decide) ?_
        refine j_iadd C dX3_choose_46 ?_
        refine j_nmI (fun v8 => ?_)
        refine j_istore_n (lv' := [(3, .int v8), (0, .ref a0), (1, .int p1), (2, .int p2)]) C dX3_choose_47 rfl rfl rfl ?_
        refine J.sub (lv' := [(0, .ref a0), (1, .int p1), (2, .int p2), (3, .int v8)]) [1, 2, 3, 0] rfl ?_
        refine J.wl2 48 (fun (i9 : Int32) (h10 : Hp) => h10) (fun (i9 : Int32) (h10 : Hp) => [(0, .ref a0), (1, .int p1), (2, .int p2), (3, .int i9)]) (fun (i9 : Int32) (h10 : Hp) => []) (fun r11 hr11 i9 h10 => ?_) fuel v8 h
        refine j_iload_n C dX3_choose_48 3 rfl rfl ?_
        refine j_iconst C (5 : Int32) dX3_choose_49 (by decide) ?_
        refine j_icmp_ge C 123 dX3_choose_50 (by decide) (fun c12 => ?_) (fun c12 => ?_)
        · refine J.sub (lv' := [(0, .ref a0), (1, .int p1), (2, .int p2)]) [0, 1, 2] rfl ?_
          exact hk5 h10
        · refine j_aload_n C dX3_choose_53 0 rfl rfl ?_
          refine j_getR C wfl_X3_15 dX3_choose_54 (fun a13 => ?_)
          refine j_iload_n C dX3_choose_57 3 rfl rfl ?_
          refine j_iaload C dX3_choose_58 (fun x14 => ?_)
          refine j_bipush C (-4 : Int32) dX3_choose_59 (by decide) ?_
          refine J.jn1 117 (fun (h15 : Hp) => h15) (fun (h15 : Hp) => [(0, .ref a0), (1, .int p1), (2, .int p2), (3, .int i9)]) (fun (h15 : Hp) => []) (fun h15 => ?_) (fun k16 hk16 => ?_)
          · refine j_iinc (lv' := [(3, .int (i9 + (1 : Int32))), (0, .ref a0), (1, .int p1), (2, .int p2)]) C (1 : Int32) dX3_choose_117 3 rfl (by decide) rfl rfl ?_
            refine j_goto C 48 dX3_choose_120 (by decide) ?_
            refine J.sub (lv' := [(0, .ref a0), (1, .int p1), (2, .int p2), (3, .int (i9 + (1 : Int32)))]) [1, 2, 3, 0] rfl ?_
            exact hr11 (i9 + (1 : Int32)) h15
          refine j_icmp_ne C 117 dX3_choose_61 (by decide) (fun c17 => ?_) (fun c17 => ?_)
          · exact hk16 h10
          · refine j_aload_n C dX3_choose_64 0 rfl rfl ?_
            refine j_getR C wfl_X3_9 dX3_choose_65 (fun a18 => ?_)
            refine j_iload_n C dX3_choose_68 1 rfl rfl ?_
            refine j_iconst C (5 : Int32) dX3_choose_69 (by decide) ?_
            refine j_imul C dX3_choose_70 ?_
            refine j_iload_n C dX3_choose_71 3 rfl rfl ?_
            refine j_iadd C dX3_choose_72 ?_
            refine j_zaload C dX3_choose_73 (fun x19 => ?_)
            refine j_if_eq C 117 dX3_choose_74 (by decide) (fun c20 => ?_) (fun c20 => ?_)
            · exact hk16 h10
            · refine j_aload_n C dX3_choose_77 0 rfl rfl ?_
              refine j_getR C wfl_X3_15 dX3_choose_78 (fun a21 => ?_)
              refine j_iload_n C dX3_choose_81 1 rfl rfl ?_
              refine j_iload_n C dX3_choose_82 3 rfl rfl ?_
              refine j_iastore C dX3_choose_83 (fun h22 => ?_)
              refine j_aload_n C dX3_choose_84 0 rfl rfl ?_
              refine j_getR C wfl_X3_15 dX3_choose_85 (fun a23 => ?_)
              refine j_iload_n C dX3_choose_88 3 rfl rfl ?_
              refine j_iload_n C dX3_choose_89 1 rfl rfl ?_
              refine j_iastore C dX3_choose_90 (fun h24 => ?_)
              refine j_aload_n C dX3_choose_91 0 rfl rfl ?_
              refine j_iload_n C dX3_choose_92 1 rfl rfl ?_
              refine j_iconst C (1 : Int32) dX3_choose_93 (by decide) ?_
              refine j_iadd C dX3_choose_94 ?_
              refine j_iload_n C dX3_choose_95 2 rfl rfl ?_
              refine j_iconst C (1 : Int32) dX3_choose_96 (by decide) ?_
              refine j_iadd C dX3_choose_97 ?_
              refine j_cV (st := []) (fun x e => ⟨runsV C wml_X3_36 wce_X3_choose (ih _ _ _ _ x e).1 rfl rfl rfl (Nat.ble_eq.mpr (by omega)) (Nat.ble_eq.mpr (by omega)) dX3_choose_98, (ih _ _ _ _ x e).2⟩) (fun h25 => ?_)
              refine j_aload_n C dX3_choose_101 0 rfl rfl ?_
              refine j_getR C wfl_X3_15 dX3_choose_102 (fun a26 => ?_)
              refine j_iload_n C dX3_choose_105 1 rfl rfl ?_
              refine j_bipush C (-4 : Int32) dX3_choose_106 (by decide) ?_
              refine j_iastore C dX3_choose_108 (fun h27 => ?_)
              refine j_aload_n C dX3_choose_109 0 rfl rfl ?_
              refine j_getR C wfl_X3_15 dX3_choose_110 (fun a28 => ?_)
              refine j_iload_n C dX3_choose_113 3 rfl rfl ?_
              refine j_bipush C (-4 : Int32) dX3_choose_114 (by decide) ?_
              refine j_iastore C dX3_choose_116 (fun h29 => ?_)
              exact hk16 h29
    · refine j_iload_n C dX3_choose_5 2 rfl rfl ?_
      refine j_aload_n C dX3_choose_6 0 rfl rfl ?_
      refine j_getI C wfl_X3_32 dX3_choose_7 (fun x30 => ?_)
      refine J.jn1 32 (fun (h31 : Hp) => h31) (fun (h31 : Hp) => []) (fun (h31 : Hp) => []) (fun h31 => ?_) (fun k32 hk32 => ?_)
      · exact j_vret C dX3_choose_32
      refine j_icmp_le C 32 dX3_choose_10 (by decide) (fun c33 => ?_) (fun c33 => ?_)
      · refine J.sub (lv' := []) [] rfl ?_
        exact hk32 h
      · refine j_aload_n C dX3_choose_13 0 rfl rfl ?_
        refine j_iload_n C dX3_choose_14 2 rfl rfl ?_
        refine j_put C wfp_X3_32 dX3_choose_15 ⟨_, rfl⟩ (fun h34 => ?_)
        refine j_aload_n C dX3_choose_18 0 rfl rfl ?_
        refine j_getR C wfl_X3_15 dX3_choose_19 (fun a35 => ?_)
        refine j_iconst C (0 : Int32) dX3_choose_22 (by decide) ?_
        refine j_aload_n C dX3_choose_23 0 rfl rfl ?_
        refine j_getR C wfl_X3_19 dX3_choose_24 (fun a36 => ?_)
        refine j_iconst C (0 : Int32) dX3_choose_27 (by decide) ?_
        refine j_iconst C (5 : Int32) dX3_choose_28 (by decide) ?_
        refine j_copy C wob_X3_60 wcp_n wcp_s wcp_i (Nat.ble_eq.mpr (by omega)) (Nat.ble_eq.mpr (by omega)) rfl dX3_choose_29 (fun h37 => ?_)
        refine J.sub (lv' := []) [] rfl ?_
        exact hk32 h37
def f_X0_takeOwners (a0 : Nat) (p1 : Nat) (p2 : Int32) (p3 : Int32) (h : Hp) : Option Hp :=
  bnd (gO h a0 0) fun _ => bnd (f_X0_takeNone a0 h) fun h1 => wl2 (fun r4 (i2 : Int32) (h3 : Hp) => if (10 : Int32) ≤ i2 then (some h3) else (bnd (f_X2_waits p1 i2 h3) fun x6 => jn1 (fun (h7 : Hp) => r4 (i2 + (1 : Int32)) h7) fun k8 => if x6 = 0 then (k8 h3) else (bnd (gR h3 p1 2 5) fun a10 => bnd (ldI 0 h3 a10 i2) fun x11 => jn0 (bnd (f_X2_kindOf p1 i2 h3) fun x13 => bnd (f_X0_addOne a0 x13 h3) fun h14 => k8 h14) fun k12 => if x11 = p2 then k12 else (bnd (gR h3 p1 2 5) fun a16 => bnd (ldI 0 h3 a16 i2) fun x17 => if x17 = p3 then k12 else (k8 h3))))) fuel (0 : Int32) h1
set_option maxHeartbeats 4000000 in
set_option maxRecDepth 100000 in
theorem c_X0_takeOwners (l : Launch) (D : hD) (a0 : Nat) (p1 : Nat) (p2 : Int32) (p3 : Int32) (h : Hp) (x : Hp) (e : f_X0_takeOwners a0 p1 p2 p3 h = some x) : (∃ fs, gO h a0 0 = some fs) ∧ Ct l D yX0_takeOwners cX0_takeOwners 5 none 2 43 [.ref a0, .ref p1, .int p2, .int p3] h none x := by
  obtain ⟨fs, g1, g2⟩ := bnd_some e
  refine ⟨⟨fs, g1⟩, ?_⟩
  refine ct_of (out := oV) g2 (by decide +kernel) rfl (fun B C hin hl hd => ?_)
  subst hl; subst hd
  show J B _ _ h 0 [(0, .ref a0), (1, .ref p1), (2, .int p2), (3, .int p3)] []
  refine j_aload_n C dX0_takeOwners_0 0 rfl rfl ?_
  refine j_cV (st := []) (fun x e => ⟨runsV C wml_X0_34 wce_X0_takeNone (c_X0_takeNone (bL B) (bD B) _ _ x e).1 rfl rfl rfl rfl rfl dX0_takeOwners_1, (c_X0_takeNone (bL B) (bD B) _ _ x e).2⟩) (fun h1 => ?_)
  refine j_iconst C (0 : Int32) dX0_takeOwners_4 (by decide) ?_
  refine j_istore (lv' := [(4, .int (0 : Int32)), (0, .ref a0), (1, .ref p1), (2, .int p2), (3, .int p3)]) C dX0_takeOwners_5 rfl rfl ?_
  refine J.sub (lv' := [(0, .ref a0), (1, .ref p1), (2, .int p2), (3, .int p3), (4, .int (0 : Int32))]) [1, 2, 3, 4, 0] rfl ?_
  refine J.wl2 7 (fun (i2 : Int32) (h3 : Hp) => h3) (fun (i2 : Int32) (h3 : Hp) => [(0, .ref a0), (1, .ref p1), (2, .int p2), (3, .int p3), (4, .int i2)]) (fun (i2 : Int32) (h3 : Hp) => []) (fun r4 hr4 i2 h3 => ?_) fuel (0 : Int32) h1
  refine j_iload C dX0_takeOwners_7 4 rfl ?_
  refine j_bipush C (10 : Int32) dX0_takeOwners_9 (by decide) ?_
  refine j_icmp_ge C 61 dX0_takeOwners_11 (by decide) (fun c5 => ?_) (fun c5 => ?_)
  · exact j_vret C dX0_takeOwners_61
  · refine j_aload_n C dX0_takeOwners_14 1 rfl rfl ?_
    refine j_iload C dX0_takeOwners_15 4 rfl ?_
    refine j_cIp (st := []) (fun x e => ⟨runsV C wml_X0_37 wce_X2_waits (c_X2_waits (bL B) (bD B) _ _ _ x e).1 rfl rfl rfl rfl rfl dX0_takeOwners_17, (c_X2_waits (bL B) (bD B) _ _ _ x e).2⟩) (fun x6 => ?_)
    refine J.jn1 55 (fun (h7 : Hp) => h7) (fun (h7 : Hp) => [(0, .ref a0), (1, .ref p1), (2, .int p2), (3, .int p3), (4, .int i2)]) (fun (h7 : Hp) => []) (fun h7 => ?_) (fun k8 hk8 => ?_)
    · refine j_iinc (lv' := [(4, .int (i2 + (1 : Int32))), (0, .ref a0), (1, .ref p1), (2, .int p2), (3, .int p3)]) C (1 : Int32) dX0_takeOwners_55 4 rfl (by decide) rfl rfl ?_
      refine j_goto C 7 dX0_takeOwners_58 (by decide) ?_
      refine J.sub (lv' := [(0, .ref a0), (1, .ref p1), (2, .int p2), (3, .int p3), (4, .int (i2 + (1 : Int32)))]) [1, 2, 3, 4, 0] rfl ?_
      exact hr4 (i2 + (1 : Int32)) h7
    refine j_if_eq C 55 dX0_takeOwners_20 (by decide) (fun c9 => ?_) (fun c9 => ?_)
    · exact hk8 h3
    · refine j_aload_n C dX0_takeOwners_23 1 rfl rfl ?_
      refine j_getR C wfl_X0_50 dX0_takeOwners_24 (fun a10 => ?_)
      refine j_iload C dX0_takeOwners_27 4 rfl ?_
      refine j_iaload C dX0_takeOwners_29 (fun x11 => ?_)
      refine j_iload_n C dX0_takeOwners_30 2 rfl rfl ?_
      refine J.jn0 (h0 := h3) (lv0 := [(0, .ref a0), (1, .ref p1), (2, .int p2), (3, .int p3), (4, .int i2)]) (st0 := []) 45 ?_ (fun k12 hk12 => ?_)
      · refine j_aload_n C dX0_takeOwners_45 0 rfl rfl ?_
        refine j_aload_n C dX0_takeOwners_46 1 rfl rfl ?_
        refine j_iload C dX0_takeOwners_47 4 rfl ?_
        refine j_cIp (st := [.ref a0]) (fun x e => ⟨runsV C wml_X0_42 wce_X2_kindOf (c_X2_kindOf (bL B) (bD B) _ _ _ x e).1 rfl rfl rfl rfl rfl dX0_takeOwners_49, (c_X2_kindOf (bL B) (bD B) _ _ _ x e).2⟩) (fun x13 => ?_)
        refine j_cV (st := []) (fun x e => ⟨runsV C wml_X0_46 wce_X0_addOne (c_X0_addOne (bL B) (bD B) _ _ _ x e).1 rfl rfl rfl rfl rfl dX0_takeOwners_52, (c_X0_addOne (bL B) (bD B) _ _ _ x e).2⟩) (fun h14 => ?_)
        exact hk8 h14
      refine j_icmp_eq C 45 dX0_takeOwners_31 (by decide) (fun c15 => ?_) (fun c15 => ?_)
      · exact hk12
      · refine j_aload_n C dX0_takeOwners_34 1 rfl rfl ?_
        refine j_getR C wfl_X0_50 dX0_takeOwners_35 (fun a16 => ?_)
        refine j_iload C dX0_takeOwners_38 4 rfl ?_
        refine j_iaload C dX0_takeOwners_40 (fun x17 => ?_)
        refine j_iload_n C dX0_takeOwners_41 3 rfl rfl ?_
        refine j_icmp_ne C 55 dX0_takeOwners_42 (by decide) (fun c18 => ?_) (fun c18 => ?_)
        · exact hk8 h3
        · exact hk12
