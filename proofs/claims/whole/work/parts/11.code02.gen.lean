def f_X0_weigh (a0 : Nat) (h : Hp) : Option Hp :=
  bnd (gO h a0 0) fun _ => bnd (pF h a0 0 3 (.int (1 : Int32))) fun h1 => wl2 (fun r4 (i2 : Int32) (h3 : Hp) => if (5 : Int32) ≤ i2 then (some h3) else (bnd (gR h3 a0 0 1) fun a6 => bnd (gI h3 a0 0 3) fun x7 => bnd (stI 0 h3 a6 i2 x7) fun h8 => bnd (gI h8 a0 0 3) fun x9 => bnd (gR h8 a0 0 0) fun a10 => bnd (ldI 0 h8 a10 i2) fun x11 => bnd (pF h8 a0 0 3 (.int (x9 * (x11 + (1 : Int32))))) fun h12 => r4 (i2 + (1 : Int32)) h12)) fuel (0 : Int32) h1
set_option maxHeartbeats 4000000 in
set_option maxRecDepth 100000 in
theorem c_X0_weigh (l : Launch) (D : hD) (a0 : Nat) (h : Hp) (x : Hp) (e : f_X0_weigh a0 h = some x) : (∃ fs, gO h a0 0 = some fs) ∧ Ct l D yX0_weigh cX0_weigh 2 none 0 0 [.ref a0] h none x := by
  obtain ⟨fs, g1, g2⟩ := bnd_some e
  refine ⟨⟨fs, g1⟩, ?_⟩
  refine ct_of (out := oV) g2 (by decide +kernel) rfl (fun B C hin hl hd => ?_)
  subst hl; subst hd
  show J B _ _ h 0 [(0, .ref a0)] []
  refine j_aload_n C dX0_weigh_0 0 rfl rfl ?_
  refine j_iconst C (1 : Int32) dX0_weigh_1 (by decide) ?_
  refine j_put C wfp_X0_53 dX0_weigh_2 ⟨_, rfl⟩ (fun h1 => ?_)
  refine j_iconst C (0 : Int32) dX0_weigh_5 (by decide) ?_
  refine j_istore_n (lv' := [(1, .int (0 : Int32)), (0, .ref a0)]) C dX0_weigh_6 rfl rfl rfl ?_
  refine J.sub (lv' := [(0, .ref a0), (1, .int (0 : Int32))]) [1, 0] rfl ?_
  refine J.wl2 7 (fun (i2 : Int32) (h3 : Hp) => h3) (fun (i2 : Int32) (h3 : Hp) => [(0, .ref a0), (1, .int i2)]) (fun (i2 : Int32) (h3 : Hp) => []) (fun r4 hr4 i2 h3 => ?_) fuel (0 : Int32) h1
  refine j_iload_n C dX0_weigh_7 1 rfl rfl ?_
  refine j_iconst C (5 : Int32) dX0_weigh_8 (by decide) ?_
  refine j_icmp_ge C 45 dX0_weigh_9 (by decide) (fun c5 => ?_) (fun c5 => ?_)
  · exact j_vret C dX0_weigh_45
  · refine j_aload_n C dX0_weigh_12 0 rfl rfl ?_
    refine j_getR C wfl_X0_15 dX0_weigh_13 (fun a6 => ?_)
    refine j_iload_n C dX0_weigh_16 1 rfl rfl ?_
    refine j_aload_n C dX0_weigh_17 0 rfl rfl ?_
    refine j_getI C wfl_X0_53 dX0_weigh_18 (fun x7 => ?_)
    refine j_iastore C dX0_weigh_21 (fun h8 => ?_)
    refine j_aload_n C dX0_weigh_22 0 rfl rfl ?_
    refine j_dup C dX0_weigh_23 (fun _ => rfl) ?_
    refine j_getI C wfl_X0_53 dX0_weigh_24 (fun x9 => ?_)
    refine j_aload_n C dX0_weigh_27 0 rfl rfl ?_
    refine j_getR C wfl_X0_9 dX0_weigh_28 (fun a10 => ?_)
    refine j_iload_n C dX0_weigh_31 1 rfl rfl ?_
    refine j_iaload C dX0_weigh_32 (fun x11 => ?_)
    refine j_iconst C (1 : Int32) dX0_weigh_33 (by decide) ?_
    refine j_iadd C dX0_weigh_34 ?_
    refine j_imul C dX0_weigh_35 ?_
    refine j_put C wfp_X0_53 dX0_weigh_36 ⟨_, rfl⟩ (fun h12 => ?_)
    refine j_iinc (lv' := [(1, .int (i2 + (1 : Int32))), (0, .ref a0)]) C (1 : Int32) dX0_weigh_39 1 rfl (by decide) rfl rfl ?_
    refine j_goto C 7 dX0_weigh_42 (by decide) ?_
    refine J.sub (lv' := [(0, .ref a0), (1, .int (i2 + (1 : Int32)))]) [1, 0] rfl ?_
    exact hr4 (i2 + (1 : Int32)) h12
def f_X2_memoryNow (a0 : Nat) (h : Hp) : Option Int32 :=
  bnd (gO h a0 2) fun _ => bnd (gI h a0 2 9) fun x1 => bnd (gI h a0 2 10) fun x2 => bnd (f_X6_memoryOf x1 x2) fun x3 => some x3
set_option maxHeartbeats 4000000 in
set_option maxRecDepth 100000 in
theorem c_X2_memoryNow (l : Launch) (D : hD) (a0 : Nat) (h : Hp) (x : Int32) (e : f_X2_memoryNow a0 h = some x) : (∃ fs, gO h a0 2 = some fs) ∧ Ct l D yX2_memoryNow cX2_memoryNow 1 (some .int) 1 21 [.ref a0] h (some (.int x)) h := by
  obtain ⟨fs, g1, g2⟩ := bnd_some e
  refine ⟨⟨fs, g1⟩, ?_⟩
  refine ct_of (out := (oIp h)) g2 (by decide +kernel) rfl (fun B C hin hl hd => ?_)
  subst hl; subst hd
  show J B _ _ h 0 [(0, .ref a0)] []
  refine j_aload_n C dX2_memoryNow_0 0 rfl rfl ?_
  refine j_getI C wfl_X2_43 dX2_memoryNow_1 (fun x1 => ?_)
  refine j_aload_n C dX2_memoryNow_4 0 rfl rfl ?_
  refine j_getI C wfl_X2_46 dX2_memoryNow_5 (fun x2 => ?_)
  refine j_cIp (st := []) (fun x e => ⟨runsS C wml_X2_70 wce_X6_memoryOf rfl rfl rfl rfl rfl dX2_memoryNow_8, c_X6_memoryOf (bL B) (bD B) _ _ _ x e⟩) (fun x3 => ?_)
  exact j_iretp C dX2_memoryNow_11
def f_X6_firstBefore (p1 : Int32) : Option Int32 :=
  jn1 (fun (w1 : Int32) => some w1) fun k2 => if p1 = (1 : Int32) then (k2 (0 : Int32)) else (k2 (5 : Int32))
set_option maxHeartbeats 4000000 in
set_option maxRecDepth 100000 in
theorem c_X6_firstBefore (l : Launch) (D : hD) (p1 : Int32) (h : Hp) (x : Int32) (e : f_X6_firstBefore p1 = some x) : Ct l D yX6_firstBefore cX6_firstBefore 1 (some .int) 0 0 [.int p1] h (some (.int x)) h := by
  unfold f_X6_firstBefore at e
  refine ct_of (out := (oIp h)) e (by decide +kernel) rfl (fun B C hin hl hd => ?_)
  subst hl; subst hd
  show J B _ _ h 0 [(0, .int p1)] []
  refine j_iload_n C dX6_firstBefore_0 0 rfl rfl ?_
  refine j_iconst C (1 : Int32) dX6_firstBefore_1 (by decide) ?_
  refine J.jn1 10 (fun (w1 : Int32) => h) (fun (w1 : Int32) => []) (fun (w1 : Int32) => [.int w1]) (fun w1 => ?_) (fun k2 hk2 => ?_)
  · exact j_iretp C dX6_firstBefore_10
  refine j_icmp_ne C 9 dX6_firstBefore_2 (by decide) (fun c3 => ?_) (fun c3 => ?_)
  · refine j_iconst C (5 : Int32) dX6_firstBefore_9 (by decide) ?_
    refine J.sub (lv' := []) [] rfl ?_
    exact hk2 (5 : Int32)
  · refine j_iconst C (0 : Int32) dX6_firstBefore_5 (by decide) ?_
    refine j_goto C 10 dX6_firstBefore_6 (by decide) ?_
    refine J.sub (lv' := []) [] rfl ?_
    exact hk2 (0 : Int32)
def f_X6_roomFor (p1 : Nat) (p2 : Int32) (h : Hp) : Option (Nat × Hp) :=
  bnd (aLn h p1) fun x1 => jn2 (fun (b2 : Nat) (h3 : Hp) => some (b2, h3)) fun k4 => if x1 < p2 then (bnd (aLn h p1) fun x6 => bnd2 (nwI 0 h (mx p2 ((2 : Int32) * x6))) fun a7 h8 => k4 a7 h8) else (k4 p1 h)
set_option maxHeartbeats 4000000 in
set_option maxRecDepth 100000 in
theorem c_X6_roomFor (l : Launch) (D : hD) (p1 : Nat) (p2 : Int32) (h : Hp) (x : (Nat × Hp)) (e : f_X6_roomFor p1 p2 h = some x) : Ct l D yX6_roomFor cX6_roomFor 2 (some (.array .int)) 1 21 [.ref p1, .int p2] h (some (.ref x.1)) x.2 := by
  unfold f_X6_roomFor at e
  refine ct_of (out := oR) e (by decide +kernel) rfl (fun B C hin hl hd => ?_)
  subst hl; subst hd
  show J B _ _ h 0 [(0, .ref p1), (1, .int p2)] []
  refine j_aload_n C dX6_roomFor_0 0 rfl rfl ?_
  refine j_alen C dX6_roomFor_1 (fun x1 => ?_)
  refine j_iload_n C dX6_roomFor_2 1 rfl rfl ?_
  refine J.jn2 20 (fun (b2 : Nat) (h3 : Hp) => h3) (fun (b2 : Nat) (h3 : Hp) => []) (fun (b2 : Nat) (h3 : Hp) => [.ref b2]) (fun b2 h3 => ?_) (fun k4 hk4 => ?_)
  · exact j_aret C dX6_roomFor_20
  refine j_icmp_lt C 10 dX6_roomFor_3 (by decide) (fun c5 => ?_) (fun c5 => ?_)
  · refine j_iload_n C dX6_roomFor_10 1 rfl rfl ?_
    refine j_iconst C (2 : Int32) dX6_roomFor_11 (by decide) ?_
    refine j_aload_n C dX6_roomFor_12 0 rfl rfl ?_
    refine j_alen C dX6_roomFor_13 (fun x6 => ?_)
    refine j_imul C dX6_roomFor_14 ?_
    refine j_max C wob_X6_262 wma_max_s wma_i wma_max_c rfl rfl rfl dX6_roomFor_15 ?_
    refine j_newI C 0 rfl rfl rfl (by decide) (by intro c h; cases h) warr_int dX6_roomFor_18 (fun a7 h8 => ?_)
    refine J.sub (lv' := []) [] rfl ?_
    exact hk4 a7 h8
  · refine j_aload_n C dX6_roomFor_6 0 rfl rfl ?_
    refine j_goto C 20 dX6_roomFor_7 (by decide) ?_
    refine J.sub (lv' := []) [] rfl ?_
    exact hk4 p1 h
def f_X0_fillAnswers (a0 : Nat) (p1 : Nat) (p2 : Int32) (h : Hp) : Option (Int32 × Hp) :=
  bnd (gO h a0 0) fun _ => bnd (f_X0_weigh a0 h) fun h1 => bnd (gR h1 a0 0 4) fun a2 => bnd (gI h1 a0 0 3) fun x3 => bnd2 (f_X6_roomFor a2 (x3 * (36 : Int32)) h1) fun a4 h5 => bnd (pF h5 a0 0 4 (.ref a4)) fun h6 => wl2 (fun r9 (i7 : Int32) (h8 : Hp) => bnd (gI h8 a0 0 3) fun x10 => if x10 ≤ i7 then (bnd (gI h8 a0 0 3) fun x12 => bnd (f_X2_memoryNow p1 h8) fun x13 => bnd (f_X0_answerAt a0 (x12 - (1 : Int32)) x13 h8) fun x14 => some (x14, h8)) else (bnd (f_X0_unfold a0 i7 h8) fun h15 => wl2 (fun r18 (i16 : Int32) (h17 : Hp) => if (6 : Int32) ≤ i16 then (r9 (i7 + (1 : Int32)) h17) else (bnd (gI h17 p1 2 0) fun x20 => bnd (f_X6_firstBefore x20) fun x21 => wl2 (fun r24 (i22 : Int32) (h23 : Hp) => if (6 : Int32) ≤ i22 then (r18 (i16 + (1 : Int32)) h23) else (bnd (f_X6_memoryOf i16 i22) fun x26 => nm ((i7 * (36 : Int32)) + x26) fun v27 => bnd (gR h23 a0 0 4) fun a28 => bnd (gI h23 p1 2 0) fun x29 => bnd (f_X0_answer a0 i7 x29 i16 i22 p2 h23) fun x30 => bnd (stI 0 h23 a28 v27 x30) fun h31 => r24 (i22 + (1 : Int32)) h31)) fuel x21 h17)) fuel (0 : Int32) h15)) fuel (0 : Int32) h6
set_option maxHeartbeats 4000000 in
set_option maxRecDepth 100000 in
theorem c_X0_fillAnswers (l : Launch) (D : hD) (a0 : Nat) (p1 : Nat) (p2 : Int32) (h : Hp) (x : (Int32 × Hp)) (e : f_X0_fillAnswers a0 p1 p2 h = some x) : (∃ fs, gO h a0 0 = some fs) ∧ Ct l D yX0_fillAnswers cX0_fillAnswers 7 (some .int) 2 52 [.ref a0, .ref p1, .int p2] h (some (.int x.1)) x.2 := by
  obtain ⟨fs, g1, g2⟩ := bnd_some e
  refine ⟨⟨fs, g1⟩, ?_⟩
  refine ct_of (out := oI) g2 (by decide +kernel) rfl (fun B C hin hl hd => ?_)
  subst hl; subst hd
  show J B _ _ h 0 [(0, .ref a0), (1, .ref p1), (2, .int p2)] []
  refine j_aload_n C dX0_fillAnswers_0 0 rfl rfl ?_
  refine j_cV (st := []) (fun x e => ⟨runsV C wml_X0_61 wce_X0_weigh (c_X0_weigh (bL B) (bD B) _ _ x e).1 rfl rfl rfl rfl rfl dX0_fillAnswers_1, (c_X0_weigh (bL B) (bD B) _ _ x e).2⟩) (fun h1 => ?_)
  refine j_aload_n C dX0_fillAnswers_4 0 rfl rfl ?_
  refine j_aload_n C dX0_fillAnswers_5 0 rfl rfl ?_
  refine j_getR C wfl_X0_21 dX0_fillAnswers_6 (fun a2 => ?_)
  refine j_aload_n C dX0_fillAnswers_9 0 rfl rfl ?_
  refine j_getI C wfl_X0_53 dX0_fillAnswers_10 (fun x3 => ?_)
  refine j_bipush C (36 : Int32) dX0_fillAnswers_13 (by decide) ?_
  refine j_imul C dX0_fillAnswers_15 ?_
  refine j_cR (st := [.ref a0]) (fun x e => ⟨runsS C wml_X0_64 wce_X6_roomFor rfl rfl rfl rfl rfl dX0_fillAnswers_16, c_X6_roomFor (bL B) (bD B) _ _ _ x e⟩) (fun a4 h5 => ?_)
  refine j_put C wfp_X0_21 dX0_fillAnswers_19 ⟨_, rfl⟩ (fun h6 => ?_)
  refine j_iconst C (0 : Int32) dX0_fillAnswers_22 (by decide) ?_
  refine j_istore_n (lv' := [(3, .int (0 : Int32)), (0, .ref a0), (1, .ref p1), (2, .int p2)]) C dX0_fillAnswers_23 rfl rfl rfl ?_
  refine J.sub (lv' := [(0, .ref a0), (1, .ref p1), (2, .int p2), (3, .int (0 : Int32))]) [1, 2, 3, 0] rfl ?_
  refine J.wl2 24 (fun (i7 : Int32) (h8 : Hp) => h8) (fun (i7 : Int32) (h8 : Hp) => [(0, .ref a0), (1, .ref p1), (2, .int p2), (3, .int i7)]) (fun (i7 : Int32) (h8 : Hp) => []) (fun r9 hr9 i7 h8 => ?_) fuel (0 : Int32) h6
  refine j_iload_n C dX0_fillAnswers_24 3 rfl rfl ?_
  refine j_aload_n C dX0_fillAnswers_25 0 rfl rfl ?_
  refine j_getI C wfl_X0_53 dX0_fillAnswers_26 (fun x10 => ?_)
  refine j_icmp_ge C 116 dX0_fillAnswers_29 (by decide) (fun c11 => ?_) (fun c11 => ?_)
  · refine j_aload_n C dX0_fillAnswers_116 0 rfl rfl ?_
    refine j_aload_n C dX0_fillAnswers_117 0 rfl rfl ?_
    refine j_getI C wfl_X0_53 dX0_fillAnswers_118 (fun x12 => ?_)
    refine j_iconst C (1 : Int32) dX0_fillAnswers_121 (by decide) ?_
    refine j_isub C dX0_fillAnswers_122 ?_
    refine j_aload_n C dX0_fillAnswers_123 1 rfl rfl ?_
    refine j_cIp (st := [.int (x12 - (1 : Int32)), .ref a0]) (fun x e => ⟨runsV C wml_X0_85 wce_X2_memoryNow (c_X2_memoryNow (bL B) (bD B) _ _ x e).1 rfl rfl rfl rfl rfl dX0_fillAnswers_124, (c_X2_memoryNow (bL B) (bD B) _ _ x e).2⟩) (fun x13 => ?_)
    refine j_cIp (st := []) (fun x e => ⟨runsV C wml_X0_89 wce_X0_answerAt (c_X0_answerAt (bL B) (bD B) _ _ _ _ x e).1 rfl rfl rfl rfl rfl dX0_fillAnswers_127, (c_X0_answerAt (bL B) (bD B) _ _ _ _ x e).2⟩) (fun x14 => ?_)
    exact j_iret C dX0_fillAnswers_130
  · refine j_aload_n C dX0_fillAnswers_32 0 rfl rfl ?_
    refine j_iload_n C dX0_fillAnswers_33 3 rfl rfl ?_
    refine j_cV (st := []) (fun x e => ⟨runsV C wml_X0_68 wce_X0_unfold (c_X0_unfold (bL B) (bD B) _ _ _ x e).1 rfl rfl rfl rfl rfl dX0_fillAnswers_34, (c_X0_unfold (bL B) (bD B) _ _ _ x e).2⟩) (fun h15 => ?_)
    refine j_iconst C (0 : Int32) dX0_fillAnswers_37 (by decide) ?_
    refine j_istore (lv' := [(4, .int (0 : Int32)), (0, .ref a0), (1, .ref p1), (2, .int p2), (3, .int i7)]) C dX0_fillAnswers_38 rfl rfl ?_
    refine J.sub (lv' := [(0, .ref a0), (1, .ref p1), (2, .int p2), (3, .int i7), (4, .int (0 : Int32))]) [1, 2, 3, 4, 0] rfl ?_
    refine J.wl2 40 (fun (i16 : Int32) (h17 : Hp) => h17) (fun (i16 : Int32) (h17 : Hp) => [(0, .ref a0), (1, .ref p1), (2, .int p2), (3, .int i7), (4, .int i16)]) (fun (i16 : Int32) (h17 : Hp) => []) (fun r18 hr18 i16 h17 => ?_) fuel (0 : Int32) h15
    refine j_iload C dX0_fillAnswers_40 4 rfl ?_
    refine j_bipush C (6 : Int32) dX0_fillAnswers_42 (by decide) ?_
    refine j_icmp_ge C 110 dX0_fillAnswers_44 (by decide) (fun c19 => ?_) (fun c19 => ?_)
    · refine j_iinc (lv' := [(3, .int (i7 + (1 : Int32))), (0, .ref a0), (1, .ref p1), (2, .int p2), (4, .int i16)]) C (1 : Int32) dX0_fillAnswers_110 3 rfl (by decide) rfl rfl ?_
      refine j_goto C 24 dX0_fillAnswers_113 (by decide) ?_
      refine J.sub (lv' := [(0, .ref a0), (1, .ref p1), (2, .int p2), (3, .int (i7 + (1 : Int32)))]) [1, 2, 3, 0] rfl ?_
      exact hr9 (i7 + (1 : Int32)) h17
    · refine j_aload_n C dX0_fillAnswers_47 1 rfl rfl ?_
      refine j_getI C wfl_X0_71 dX0_fillAnswers_48 (fun x20 => ?_)
      refine j_cIp (st := []) (fun x e => ⟨runsS C wml_X0_74 wce_X6_firstBefore rfl rfl rfl rfl rfl dX0_fillAnswers_51, c_X6_firstBefore (bL B) (bD B) _ _ x e⟩) (fun x21 => ?_)
      refine j_istore (lv' := [(5, .int x21), (0, .ref a0), (1, .ref p1), (2, .int p2), (3, .int i7), (4, .int i16)]) C dX0_fillAnswers_54 rfl rfl ?_
      refine J.sub (lv' := [(0, .ref a0), (1, .ref p1), (2, .int p2), (3, .int i7), (4, .int i16), (5, .int x21)]) [1, 2, 3, 4, 5, 0] rfl ?_
      refine J.wl2 56 (fun (i22 : Int32) (h23 : Hp) => h23) (fun (i22 : Int32) (h23 : Hp) => [(0, .ref a0), (1, .ref p1), (2, .int p2), (3, .int i7), (4, .int i16), (5, .int i22)]) (fun (i22 : Int32) (h23 : Hp) => []) (fun r24 hr24 i22 h23 => ?_) fuel x21 h17
      refine j_iload C dX0_fillAnswers_56 5 rfl ?_
      refine j_bipush C (6 : Int32) dX0_fillAnswers_58 (by decide) ?_
      refine j_icmp_ge C 104 dX0_fillAnswers_60 (by decide) (fun c25 => ?_) (fun c25 => ?_)
      · refine j_iinc (lv' := [(4, .int (i16 + (1 : Int32))), (0, .ref a0), (1, .ref p1), (2, .int p2), (3, .int i7), (5, .int i22)]) C (1 : Int32) dX0_fillAnswers_104 4 rfl (by decide) rfl rfl ?_
        refine j_goto C 40 dX0_fillAnswers_107 (by decide) ?_
        refine J.sub (lv' := [(0, .ref a0), (1, .ref p1), (2, .int p2), (3, .int i7), (4, .int (i16 + (1 : Int32)))]) [1, 2, 3, 4, 0] rfl ?_
        exact hr18 (i16 + (1 : Int32)) h23
      · refine j_iload_n C dX0_fillAnswers_63 3 rfl rfl ?_
        refine j_bipush C (36 : Int32) dX0_fillAnswers_64 (by decide) ?_
        refine j_imul C dX0_fillAnswers_66 ?_
        refine j_iload C dX0_fillAnswers_67 4 rfl ?_
        refine j_iload C dX0_fillAnswers_69 5 rfl ?_
        refine j_cIp (st := [.int (i7 * (36 : Int32))]) (fun x e => ⟨runsS C wml_X0_77 wce_X6_memoryOf rfl rfl rfl rfl rfl dX0_fillAnswers_71, c_X6_memoryOf (bL B) (bD B) _ _ _ x e⟩) (fun x26 => ?_)
        refine j_iadd C dX0_fillAnswers_74 ?_
        refine j_nmI (fun v27 => ?_)
        refine j_istore (lv' := [(6, .int v27), (0, .ref a0), (1, .ref p1), (2, .int p2), (3, .int i7), (4, .int i16), (5, .int i22)]) C dX0_fillAnswers_75 rfl rfl ?_
        refine j_aload_n C dX0_fillAnswers_77 1 rfl rfl ?_
        refine j_getR C wfl_X0_21 dX0_fillAnswers_78 (fun a28 => ?_)
        refine j_iload C dX0_fillAnswers_81 0 rfl ?_
        refine j_aload_n C dX0_fillAnswers_83 1 rfl rfl ?_
        refine j_iload_n C dX0_fillAnswers_84 4 rfl rfl ?_
        refine j_aload_n C dX0_fillAnswers_85 2 rfl rfl ?_
        refine j_getI C wfl_X0_71 dX0_fillAnswers_86 (fun x29 => ?_)
        refine j_iload C dX0_fillAnswers_89 5 rfl ?_
        refine j_iload C dX0_fillAnswers_91 6 rfl ?_
        refine j_iload_n C dX0_fillAnswers_93 3 rfl rfl ?_
        refine j_cIp (st := [.int v27, .ref a28]) (fun x e => ⟨runsV C wml_X0_81 wce_X0_answer (c_X0_answer (bL B) (bD B) _ _ _ _ _ _ _ x e).1 rfl rfl rfl rfl rfl dX0_fillAnswers_94, (c_X0_answer (bL B) (bD B) _ _ _ _ _ _ _ x e).2⟩) (fun x30 => ?_)
        refine j_iastore C dX0_fillAnswers_97 (fun h31 => ?_)
        refine j_iinc (lv' := [(5, .int (i22 + (1 : Int32))), (6, .int v27), (0, .ref a0), (1, .ref p1), (2, .int p2), (3, .int i7), (4, .int i16)]) C (1 : Int32) dX0_fillAnswers_98 6 rfl (by decide) rfl rfl ?_
        refine j_goto C 56 dX0_fillAnswers_101 (by decide) ?_
        refine J.sub (lv' := [(0, .ref a0), (1, .ref p1), (2, .int p2), (3, .int i7), (4, .int i16), (5, .int (i22 + (1 : Int32)))]) [2, 3, 4, 5, 6, 0] rfl ?_
        exact hr24 (i22 + (1 : Int32)) h31
def f_X0_longest (a0 : Nat) (p1 : Nat) (h : Hp) : Option (Int32 × Hp) :=
  bnd (gO h a0 0) fun _ => bnd2 (f_X0_fillAnswers a0 p1 (0 : Int32) h) fun x1 h2 => some (x1, h2)
set_option maxHeartbeats 4000000 in
set_option maxRecDepth 100000 in
theorem c_X0_longest (l : Launch) (D : hD) (a0 : Nat) (p1 : Nat) (h : Hp) (x : (Int32 × Hp)) (e : f_X0_longest a0 p1 h = some x) : (∃ fs, gO h a0 0 = some fs) ∧ Ct l D yX0_longest cX0_longest 2 (some .int) 3 78 [.ref a0, .ref p1] h (some (.int x.1)) x.2 := by
  obtain ⟨fs, g1, g2⟩ := bnd_some e
  refine ⟨⟨fs, g1⟩, ?_⟩
  refine ct_of (out := oI) g2 (by decide +kernel) rfl (fun B C hin hl hd => ?_)
  subst hl; subst hd
  show J B _ _ h 0 [(0, .ref a0), (1, .ref p1)] []
  refine j_aload_n C dX0_longest_0 0 rfl rfl ?_
  refine j_aload_n C dX0_longest_1 1 rfl rfl ?_
  refine j_iconst C (0 : Int32) dX0_longest_2 (by decide) ?_
  refine j_cI (st := []) (fun x e => ⟨runsV C wml_X0_57 wce_X0_fillAnswers (c_X0_fillAnswers (bL B) (bD B) _ _ _ _ x e).1 rfl rfl rfl rfl rfl dX0_longest_3, (c_X0_fillAnswers (bL B) (bD B) _ _ _ _ x e).2⟩) (fun x1 h2 => ?_)
  exact j_iret C dX0_longest_6
def f_X0_addOne (a0 : Nat) (p1 : Int32) (h : Hp) : Option Hp :=
  bnd (gO h a0 0) fun _ => bnd (f_X6_isKind p1) fun x1 => jn1 (fun (h2 : Hp) => some h2) fun k3 => if x1 = 0 then (k3 h) else (bnd (gR h a0 0 0) fun a5 => bnd (ldI 0 h a5 p1) fun x6 => bnd (stI 0 h a5 p1 (x6 + (1 : Int32))) fun h7 => k3 h7)
set_option maxHeartbeats 4000000 in
set_option maxRecDepth 100000 in
theorem c_X0_addOne (l : Launch) (D : hD) (a0 : Nat) (p1 : Int32) (h : Hp) (x : Hp) (e : f_X0_addOne a0 p1 h = some x) : (∃ fs, gO h a0 0 = some fs) ∧ Ct l D yX0_addOne cX0_addOne 2 none 1 20 [.ref a0, .int p1] h none x := by
  obtain ⟨fs, g1, g2⟩ := bnd_some e
  refine ⟨⟨fs, g1⟩, ?_⟩
  refine ct_of (out := oV) g2 (by decide +kernel) rfl (fun B C hin hl hd => ?_)
  subst hl; subst hd
  show J B _ _ h 0 [(0, .ref a0), (1, .int p1)] []
  refine j_iload_n C dX0_addOne_0 1 rfl rfl ?_
  refine j_cIp (st := []) (fun x e => ⟨runsS C wml_X0_30 wce_X6_isKind rfl rfl rfl rfl rfl dX0_addOne_1, c_X6_isKind (bL B) (bD B) _ _ x e⟩) (fun x1 => ?_)
  refine J.jn1 17 (fun (h2 : Hp) => h2) (fun (h2 : Hp) => []) (fun (h2 : Hp) => []) (fun h2 => ?_) (fun k3 hk3 => ?_)
  · exact j_vret C dX0_addOne_17
  refine j_if_eq C 17 dX0_addOne_4 (by decide) (fun c4 => ?_) (fun c4 => ?_)
  · refine J.sub (lv' := []) [] rfl ?_
    exact hk3 h
  · refine j_aload_n C dX0_addOne_7 0 rfl rfl ?_
    refine j_getR C wfl_X0_9 dX0_addOne_8 (fun a5 => ?_)
    refine j_iload_n C dX0_addOne_11 1 rfl rfl ?_
    refine j_dup2 C dX0_addOne_12 rfl rfl ?_
    refine j_iaload C dX0_addOne_13 (fun x6 => ?_)
    refine j_iconst C (1 : Int32) dX0_addOne_14 (by decide) ?_
    refine j_iadd C dX0_addOne_15 ?_
    refine j_iastore C dX0_addOne_16 (fun h7 => ?_)
    refine J.sub (lv' := []) [] rfl ?_
    exact hk3 h7
def f_X0_takeNone (a0 : Nat) (h : Hp) : Option Hp :=
  bnd (gO h a0 0) fun _ => bnd (gR h a0 0 0) fun a1 => bnd (f_J7_fill_53178 a1 (0 : Int32) h) fun h2 => some h2
set_option maxHeartbeats 4000000 in
set_option maxRecDepth 100000 in
theorem c_X0_takeNone (l : Launch) (D : hD) (a0 : Nat) (h : Hp) (x : Hp) (e : f_X0_takeNone a0 h = some x) : (∃ fs, gO h a0 0 = some fs) ∧ Ct l D yX0_takeNone cX0_takeNone 1 none 1 23 [.ref a0] h none x := by
  obtain ⟨fs, g1, g2⟩ := bnd_some e
  refine ⟨⟨fs, g1⟩, ?_⟩
  refine ct_of (out := oV) g2 (by decide +kernel) rfl (fun B C hin hl hd => ?_)
  subst hl; subst hd
  show J B _ _ h 0 [(0, .ref a0)] []
  refine j_aload_n C dX0_takeNone_0 0 rfl rfl ?_
  refine j_getR C wfl_X0_9 dX0_takeNone_1 (fun a1 => ?_)
  refine j_iconst C (0 : Int32) dX0_takeNone_4 (by decide) ?_
  refine j_cV (st := []) (fun x e => ⟨runsS C wml_X0_24 wce_J7_fill_53178 rfl rfl rfl rfl rfl dX0_takeNone_5, c_J7_fill_53178 (bL B) (bD B) _ _ _ x e⟩) (fun h2 => ?_)
  exact j_vret C dX0_takeNone_8
def f_X2_kindOf (a0 : Nat) (p1 : Int32) (h : Hp) : Option Int32 :=
  bnd (gO h a0 2) fun _ => bnd (f_X2_has a0 p1 h) fun x1 => jn1 (fun (w2 : Int32) => some w2) fun k3 => if x1 = 0 then (k3 (5 : Int32)) else (bnd (gR h a0 2 3) fun a5 => bnd (ldI 0 h a5 p1) fun x6 => k3 x6)
set_option maxHeartbeats 4000000 in
set_option maxRecDepth 100000 in
theorem c_X2_kindOf (l : Launch) (D : hD) (a0 : Nat) (p1 : Int32) (h : Hp) (x : Int32) (e : f_X2_kindOf a0 p1 h = some x) : (∃ fs, gO h a0 2 = some fs) ∧ Ct l D yX2_kindOf cX2_kindOf 2 (some .int) 1 21 [.ref a0, .int p1] h (some (.int x)) h := by
  obtain ⟨fs, g1, g2⟩ := bnd_some e
  refine ⟨⟨fs, g1⟩, ?_⟩
  refine ct_of (out := (oIp h)) g2 (by decide +kernel) rfl (fun B C hin hl hd => ?_)
  subst hl; subst hd
  show J B _ _ h 0 [(0, .ref a0), (1, .int p1)] []
  refine j_aload_n C dX2_kindOf_0 0 rfl rfl ?_
  refine j_iload_n C dX2_kindOf_1 1 rfl rfl ?_
  refine j_cIp (st := []) (fun x e => ⟨runsV C wml_X2_58 wce_X2_has (c_X2_has (bL B) (bD B) _ _ _ x e).1 rfl rfl rfl rfl rfl dX2_kindOf_2, (c_X2_has (bL B) (bD B) _ _ _ x e).2⟩) (fun x1 => ?_)
  refine J.jn1 18 (fun (w2 : Int32) => h) (fun (w2 : Int32) => []) (fun (w2 : Int32) => [.int w2]) (fun w2 => ?_) (fun k3 hk3 => ?_)
  · exact j_iretp C dX2_kindOf_18
  refine j_if_eq C 17 dX2_kindOf_5 (by decide) (fun c4 => ?_) (fun c4 => ?_)
  · refine j_iconst C (5 : Int32) dX2_kindOf_17 (by decide) ?_
    refine J.sub (lv' := []) [] rfl ?_
    exact hk3 (5 : Int32)
  · refine j_aload_n C dX2_kindOf_8 0 rfl rfl ?_
    refine j_getR C wfl_X2_9 dX2_kindOf_9 (fun a5 => ?_)
    refine j_iload_n C dX2_kindOf_12 1 rfl rfl ?_
    refine j_iaload C dX2_kindOf_13 (fun x6 => ?_)
    refine j_goto C 18 dX2_kindOf_14 (by decide) ?_
    refine J.sub (lv' := []) [] rfl ?_
    exact hk3 x6
def f_X2_waits (a0 : Nat) (p1 : Int32) (h : Hp) : Option Int32 :=
  bnd (gO h a0 2) fun _ => bnd (f_X2_has a0 p1 h) fun x1 => jn1 (fun (w2 : Int32) => rZp w2) fun k3 => jn0 (k3 (0 : Int32)) fun k4 => if x1 = 0 then k4 else (bnd (gR h a0 2 7) fun a6 => bnd (ldI 0 h a6 p1) fun x7 => if x7 = 0 then (k3 (1 : Int32)) else k4)
set_option maxHeartbeats 4000000 in
set_option maxRecDepth 100000 in
theorem c_X2_waits (l : Launch) (D : hD) (a0 : Nat) (p1 : Int32) (h : Hp) (x : Int32) (e : f_X2_waits a0 p1 h = some x) : (∃ fs, gO h a0 2 = some fs) ∧ Ct l D yX2_waits cX2_waits 2 (some .boolean) 1 21 [.ref a0, .int p1] h (some (.int x)) h := by
  obtain ⟨fs, g1, g2⟩ := bnd_some e
  refine ⟨⟨fs, g1⟩, ?_⟩
  refine ct_of (out := (oIp h)) g2 (by decide +kernel) rfl (fun B C hin hl hd => ?_)
  subst hl; subst hd
  show J B _ _ h 0 [(0, .ref a0), (1, .int p1)] []
  refine j_aload_n C dX2_waits_0 0 rfl rfl ?_
  refine j_iload_n C dX2_waits_1 1 rfl rfl ?_
  refine j_cIp (st := []) (fun x e => ⟨runsV C wml_X2_58 wce_X2_has (c_X2_has (bL B) (bD B) _ _ _ x e).1 rfl rfl rfl rfl rfl dX2_waits_2, (c_X2_has (bL B) (bD B) _ _ _ x e).2⟩) (fun x1 => ?_)
  refine J.jn1 22 (fun (w2 : Int32) => h) (fun (w2 : Int32) => []) (fun (w2 : Int32) => [.int w2]) (fun w2 => ?_) (fun k3 hk3 => ?_)
  · exact j_zretp C dX2_waits_22
  refine J.jn0 (h0 := h) (lv0 := []) (st0 := []) 21 ?_ (fun k4 hk4 => ?_)
  · refine j_iconst C (0 : Int32) dX2_waits_21 (by decide) ?_
    exact hk3 (0 : Int32)
  refine j_if_eq C 21 dX2_waits_5 (by decide) (fun c5 => ?_) (fun c5 => ?_)
  · refine J.sub (lv' := []) [] rfl ?_
    exact hk4
  · refine j_aload_n C dX2_waits_8 0 rfl rfl ?_
    refine j_getR C wfl_X2_24 dX2_waits_9 (fun a6 => ?_)
    refine j_iload_n C dX2_waits_12 1 rfl rfl ?_
    refine j_iaload C dX2_waits_13 (fun x7 => ?_)
    refine j_if_ne C 21 dX2_waits_14 (by decide) (fun c8 => ?_) (fun c8 => ?_)
    · refine J.sub (lv' := []) [] rfl ?_
      exact hk4
    · refine j_iconst C (1 : Int32) dX2_waits_17 (by decide) ?_
      refine j_goto C 22 dX2_waits_18 (by decide) ?_
      refine J.sub (lv' := []) [] rfl ?_
      exact hk3 (1 : Int32)
def f_X0_takeGrown (a0 : Nat) (p1 : Nat) (p2 : Int32) (p3 : Int32) (h : Hp) : Option Hp :=
  bnd (gO h a0 0) fun _ => bnd (f_X0_takeNone a0 h) fun h1 => wl2 (fun r4 (i2 : Int32) (h3 : Hp) => if (10 : Int32) ≤ i2 then (some h3) else (bnd (f_X2_waits p1 i2 h3) fun x6 => jn1 (fun (h7 : Hp) => r4 (i2 + (1 : Int32)) h7) fun k8 => if x6 = 0 then (k8 h3) else (bnd (gR h3 p1 2 5) fun a10 => bnd (ldI 0 h3 a10 i2) fun x11 => jn1 (fun (w12 : Int32) => bnd (f_X0_addOne a0 w12 h3) fun h14 => k8 h14) fun k13 => if x11 = p2 then (k13 p3) else (bnd (f_X2_kindOf p1 i2 h3) fun x16 => k13 x16)))) fuel (0 : Int32) h1
set_option maxHeartbeats 4000000 in
set_option maxRecDepth 100000 in
theorem c_X0_takeGrown (l : Launch) (D : hD) (a0 : Nat) (p1 : Nat) (p2 : Int32) (p3 : Int32) (h : Hp) (x : Hp) (e : f_X0_takeGrown a0 p1 p2 p3 h = some x) : (∃ fs, gO h a0 0 = some fs) ∧ Ct l D yX0_takeGrown cX0_takeGrown 5 none 2 43 [.ref a0, .ref p1, .int p2, .int p3] h none x := by
  obtain ⟨fs, g1, g2⟩ := bnd_some e
  refine ⟨⟨fs, g1⟩, ?_⟩
  refine ct_of (out := oV) g2 (by decide +kernel) rfl (fun B C hin hl hd => ?_)
  subst hl; subst hd
  show J B _ _ h 0 [(0, .ref a0), (1, .ref p1), (2, .int p2), (3, .int p3)] []
  refine j_aload_n C dX0_takeGrown_0 0 rfl rfl ?_
  refine j_cV (st := []) (fun x e => ⟨runsV C wml_X0_34 wce_X0_takeNone (c_X0_takeNone (bL B) (bD B) _ _ x e).1 rfl rfl rfl rfl rfl dX0_takeGrown_1, (c_X0_takeNone (bL B) (bD B) _ _ x e).2⟩) (fun h1 => ?_)
  refine j_iconst C (0 : Int32) dX0_takeGrown_4 (by decide) ?_
  refine j_istore (lv' := [(4, .int (0 : Int32)), (0, .ref a0), (1, .ref p1), (2, .int p2), (3, .int p3)]) C dX0_takeGrown_5 rfl rfl ?_
  refine J.sub (lv' := [(0, .ref a0), (1, .ref p1), (2, .int p2), (3, .int p3), (4, .int (0 : Int32))]) [1, 2, 3, 4, 0] rfl ?_
  refine J.wl2 7 (fun (i2 : Int32) (h3 : Hp) => h3) (fun (i2 : Int32) (h3 : Hp) => [(0, .ref a0), (1, .ref p1), (2, .int p2), (3, .int p3), (4, .int i2)]) (fun (i2 : Int32) (h3 : Hp) => []) (fun r4 hr4 i2 h3 => ?_) fuel (0 : Int32) h1
  refine j_iload C dX0_takeGrown_7 4 rfl ?_
  refine j_bipush C (10 : Int32) dX0_takeGrown_9 (by decide) ?_
  refine j_icmp_ge C 54 dX0_takeGrown_11 (by decide) (fun c5 => ?_) (fun c5 => ?_)
  · exact j_vret C dX0_takeGrown_54
  · refine j_aload_n C dX0_takeGrown_14 1 rfl rfl ?_
    refine j_iload C dX0_takeGrown_15 4 rfl ?_
    refine j_cIp (st := []) (fun x e => ⟨runsV C wml_X0_37 wce_X2_waits (c_X2_waits (bL B) (bD B) _ _ _ x e).1 rfl rfl rfl rfl rfl dX0_takeGrown_17, (c_X2_waits (bL B) (bD B) _ _ _ x e).2⟩) (fun x6 => ?_)
    refine J.jn1 48 (fun (h7 : Hp) => h7) (fun (h7 : Hp) => [(0, .ref a0), (1, .ref p1), (2, .int p2), (3, .int p3), (4, .int i2)]) (fun (h7 : Hp) => []) (fun h7 => ?_) (fun k8 hk8 => ?_)
    · refine j_iinc (lv' := [(4, .int (i2 + (1 : Int32))), (0, .ref a0), (1, .ref p1), (2, .int p2), (3, .int p3)]) C (1 : Int32) dX0_takeGrown_48 4 rfl (by decide) rfl rfl ?_
      refine j_goto C 7 dX0_takeGrown_51 (by decide) ?_
      refine J.sub (lv' := [(0, .ref a0), (1, .ref p1), (2, .int p2), (3, .int p3), (4, .int (i2 + (1 : Int32)))]) [1, 2, 3, 4, 0] rfl ?_
      exact hr4 (i2 + (1 : Int32)) h7
    refine j_if_eq C 48 dX0_takeGrown_20 (by decide) (fun c9 => ?_) (fun c9 => ?_)
    · exact hk8 h3
    · refine j_aload_n C dX0_takeGrown_23 0 rfl rfl ?_
      refine j_aload_n C dX0_takeGrown_24 1 rfl rfl ?_
      refine j_getR C wfl_X0_50 dX0_takeGrown_25 (fun a10 => ?_)
      refine j_iload C dX0_takeGrown_28 4 rfl ?_
      refine j_iaload C dX0_takeGrown_30 (fun x11 => ?_)
      refine j_iload_n C dX0_takeGrown_31 2 rfl rfl ?_
      refine J.jn1 45 (fun (w12 : Int32) => h3) (fun (w12 : Int32) => [(0, .ref a0), (1, .ref p1), (2, .int p2), (3, .int p3), (4, .int i2)]) (fun (w12 : Int32) => [.int w12, .ref a0]) (fun w12 => ?_) (fun k13 hk13 => ?_)
      · refine j_cV (st := []) (fun x e => ⟨runsV C wml_X0_46 wce_X0_addOne (c_X0_addOne (bL B) (bD B) _ _ _ x e).1 rfl rfl rfl rfl rfl dX0_takeGrown_45, (c_X0_addOne (bL B) (bD B) _ _ _ x e).2⟩) (fun h14 => ?_)
        exact hk8 h14
      refine j_icmp_ne C 39 dX0_takeGrown_32 (by decide) (fun c15 => ?_) (fun c15 => ?_)
      · refine j_aload_n C dX0_takeGrown_39 1 rfl rfl ?_
        refine j_iload C dX0_takeGrown_40 4 rfl ?_
        refine j_cIp (st := [.ref a0]) (fun x e => ⟨runsV C wml_X0_42 wce_X2_kindOf (c_X2_kindOf (bL B) (bD B) _ _ _ x e).1 rfl rfl rfl rfl rfl dX0_takeGrown_42, (c_X2_kindOf (bL B) (bD B) _ _ _ x e).2⟩) (fun x16 => ?_)
        exact hk13 x16
      · refine j_iload_n C dX0_takeGrown_35 3 rfl rfl ?_
        refine j_goto C 45 dX0_takeGrown_36 (by decide) ?_
        exact hk13 p3
def f_X2_isWaitedFor (a0 : Nat) (p1 : Int32) (h : Hp) : Option Int32 :=
  bnd (gO h a0 2) fun _ => wl1 (fun r2 (i1 : Int32) => if (10 : Int32) ≤ i1 then (rZp (0 : Int32)) else (bnd (f_X2_waits a0 i1 h) fun x4 => jn0 (r2 (i1 + (1 : Int32))) fun k5 => if x4 = 0 then k5 else (bnd (gR h a0 2 5) fun a7 => bnd (ldI 0 h a7 i1) fun x8 => if x8 = p1 then (rZp (1 : Int32)) else k5))) fuel (0 : Int32)
set_option maxHeartbeats 4000000 in
set_option maxRecDepth 100000 in
theorem c_X2_isWaitedFor (l : Launch) (D : hD) (a0 : Nat) (p1 : Int32) (h : Hp) (x : Int32) (e : f_X2_isWaitedFor a0 p1 h = some x) : (∃ fs, gO h a0 2 = some fs) ∧ Ct l D yX2_isWaitedFor cX2_isWaitedFor 3 (some .boolean) 2 42 [.ref a0, .int p1] h (some (.int x)) h := by
  obtain ⟨fs, g1, g2⟩ := bnd_some e
  refine ⟨⟨fs, g1⟩, ?_⟩
  refine ct_of (out := (oIp h)) g2 (by decide +kernel) rfl (fun B C hin hl hd => ?_)
  subst hl; subst hd
  show J B _ _ h 0 [(0, .ref a0), (1, .int p1)] []
  refine j_iconst C (0 : Int32) dX2_isWaitedFor_0 (by decide) ?_
  refine j_istore_n (lv' := [(2, .int (0 : Int32)), (0, .ref a0), (1, .int p1)]) C dX2_isWaitedFor_1 rfl rfl rfl ?_
  refine J.sub (lv' := [(0, .ref a0), (1, .int p1), (2, .int (0 : Int32))]) [1, 2, 0] rfl ?_
  refine J.wl1 2 (fun (i1 : Int32) => h) (fun (i1 : Int32) => [(0, .ref a0), (1, .int p1), (2, .int i1)]) (fun (i1 : Int32) => []) (fun r2 hr2 i1 => ?_) fuel (0 : Int32)
  refine j_iload_n C dX2_isWaitedFor_2 2 rfl rfl ?_
  refine j_bipush C (10 : Int32) dX2_isWaitedFor_3 (by decide) ?_
  refine j_icmp_ge C 34 dX2_isWaitedFor_5 (by decide) (fun c3 => ?_) (fun c3 => ?_)
  · refine j_iconst C (0 : Int32) dX2_isWaitedFor_34 (by decide) ?_
    exact j_zretp C dX2_isWaitedFor_35
  · refine j_aload_n C dX2_isWaitedFor_8 0 rfl rfl ?_
    refine j_iload_n C dX2_isWaitedFor_9 2 rfl rfl ?_
    refine j_cIp (st := []) (fun x e => ⟨runsV C wml_X2_89 wce_X2_waits (c_X2_waits (bL B) (bD B) _ _ _ x e).1 rfl rfl rfl rfl rfl dX2_isWaitedFor_10, (c_X2_waits (bL B) (bD B) _ _ _ x e).2⟩) (fun x4 => ?_)
    refine J.jn0 (h0 := h) (lv0 := [(0, .ref a0), (1, .int p1), (2, .int i1)]) (st0 := []) 28 ?_ (fun k5 hk5 => ?_)
    · refine j_iinc (lv' := [(2, .int (i1 + (1 : Int32))), (0, .ref a0), (1, .int p1)]) C (1 : Int32) dX2_isWaitedFor_28 2 rfl (by decide) rfl rfl ?_
      refine j_goto C 2 dX2_isWaitedFor_31 (by decide) ?_
      refine J.sub (lv' := [(0, .ref a0), (1, .int p1), (2, .int (i1 + (1 : Int32)))]) [1, 2, 0] rfl ?_
      exact hr2 (i1 + (1 : Int32))
    refine j_if_eq C 28 dX2_isWaitedFor_13 (by decide) (fun c6 => ?_) (fun c6 => ?_)
    · exact hk5
    · refine j_aload_n C dX2_isWaitedFor_16 0 rfl rfl ?_
      refine j_getR C wfl_X2_18 dX2_isWaitedFor_17 (fun a7 => ?_)
      refine j_iload_n C dX2_isWaitedFor_20 2 rfl rfl ?_
      refine j_iaload C dX2_isWaitedFor_21 (fun x8 => ?_)
      refine j_iload_n C dX2_isWaitedFor_22 1 rfl rfl ?_
      refine j_icmp_ne C 28 dX2_isWaitedFor_23 (by decide) (fun c9 => ?_) (fun c9 => ?_)
      · exact hk5
      · refine j_iconst C (1 : Int32) dX2_isWaitedFor_26 (by decide) ?_
        exact j_zretp C dX2_isWaitedFor_27
def f_X6_grows (a0 : Nat) (p1 : Int32) (h : Hp) : Option (Int32 × Hp) :=
  bnd (gO h a0 6) fun _ => bnd (f_X6_isOwner p1) fun x1 => if x1 = 0 then (some ((-1 : Int32), h)) else (bnd (gR h a0 6 4) fun a3 => bnd (f_X2_isWaitedFor a3 p1 h) fun x4 => if x4 = 0 then (some ((-4 : Int32), h)) else (wl4 (fun r10 (i6 : Int32) (i7 : Int32) (i8 : Int32) (h9 : Hp) => if (5 : Int32) ≤ i8 then (some (i6, h9)) else (bnd (gR h9 a0 6 11) fun a12 => bnd (gR h9 a0 6 4) fun a13 => bnd (f_X0_takeGrown a12 a13 p1 i8 h9) fun h14 => bnd (gR h14 a0 6 11) fun a15 => bnd (gR h14 a0 6 4) fun a16 => bnd2 (f_X0_longest a15 a16 h14) fun x17 h18 => jn2 (fun (z19 : Int32) (z20 : Int32) => r10 z19 z20 (i8 + (1 : Int32)) h18) fun k21 => if x17 ≤ i7 then (k21 i6 i7) else (k21 i8 x17))) fuel (-4 : Int32) (-1 : Int32) (0 : Int32) h))
set_option maxHeartbeats 4000000 in
set_option maxRecDepth 100000 in
theorem c_X6_grows (l : Launch) (D : hD) (a0 : Nat) (p1 : Int32) (h : Hp) (x : (Int32 × Hp)) (e : f_X6_grows a0 p1 h = some x) : (∃ fs, gO h a0 6 = some fs) ∧ Ct l D yX6_grows cX6_grows 6 (some .int) 4 99 [.ref a0, .int p1] h (some (.int x.1)) x.2 := by
  obtain ⟨fs, g1, g2⟩ := bnd_some e
  refine ⟨⟨fs, g1⟩, ?_⟩
  refine ct_of (out := oI) g2 (by decide +kernel) rfl (fun B C hin hl hd => ?_)
  subst hl; subst hd
  show J B _ _ h 0 [(0, .ref a0), (1, .int p1)] []
  refine j_iload_n C dX6_grows_0 1 rfl rfl ?_
  refine j_cIp (st := []) (fun x e => ⟨runsS C wml_X6_209 wce_X6_isOwner rfl rfl rfl rfl rfl dX6_grows_1, c_X6_isOwner (bL B) (bD B) _ _ x e⟩) (fun x1 => ?_)
  refine j_if_ne C 9 dX6_grows_4 (by decide) (fun c2 => ?_) (fun c2 => ?_)
  · refine j_aload_n C dX6_grows_9 0 rfl rfl ?_
    refine j_getR C wfl_X6_27 dX6_grows_10 (fun a3 => ?_)
    refine j_iload_n C dX6_grows_13 1 rfl rfl ?_
    refine j_cIp (st := []) (fun x e => ⟨runsV C wml_X6_222 wce_X2_isWaitedFor (c_X2_isWaitedFor (bL B) (bD B) _ _ _ x e).1 rfl rfl rfl rfl rfl dX6_grows_14, (c_X2_isWaitedFor (bL B) (bD B) _ _ _ x e).2⟩) (fun x4 => ?_)
    refine j_if_ne C 23 dX6_grows_17 (by decide) (fun c5 => ?_) (fun c5 => ?_)
    · refine j_bipush C (-4 : Int32) dX6_grows_23 (by decide) ?_
      refine j_istore_n (lv' := [(2, .int (-4 : Int32)), (0, .ref a0), (1, .int p1)]) C dX6_grows_25 rfl rfl rfl ?_
      refine j_iconst C (-1 : Int32) dX6_grows_26 (by decide) ?_
      refine j_istore_n (lv' := [(3, .int (-1 : Int32)), (2, .int (-4 : Int32)), (0, .ref a0), (1, .int p1)]) C dX6_grows_27 rfl rfl rfl ?_
      refine j_iconst C (0 : Int32) dX6_grows_28 (by decide) ?_
      refine j_istore (lv' := [(4, .int (0 : Int32)), (3, .int (-1 : Int32)), (2, .int (-4 : Int32)), (0, .ref a0), (1, .int p1)]) C dX6_grows_29 rfl rfl ?_
      refine J.sub (lv' := [(0, .ref a0), (1, .int p1), (2, .int (-4 : Int32)), (3, .int (-1 : Int32)), (4, .int (0 : Int32))]) [3, 4, 2, 1, 0] rfl ?_
      refine J.wl4 31 (fun (i6 : Int32) (i7 : Int32) (i8 : Int32) (h9 : Hp) => h9) (fun (i6 : Int32) (i7 : Int32) (i8 : Int32) (h9 : Hp) => [(0, .ref a0), (1, .int p1), (2, .int i6), (3, .int i7), (4, .int i8)]) (fun (i6 : Int32) (i7 : Int32) (i8 : Int32) (h9 : Hp) => []) (fun r10 hr10 i6 i7 i8 h9 => ?_) fuel (-4 : Int32) (-1 : Int32) (0 : Int32) h
      refine j_iload C dX6_grows_31 4 rfl ?_
      refine j_iconst C (5 : Int32) dX6_grows_33 (by decide) ?_
      refine j_icmp_ge C 82 dX6_grows_34 (by decide) (fun c11 => ?_) (fun c11 => ?_)
      · refine j_iload_n C dX6_grows_82 2 rfl rfl ?_
        exact j_iret C dX6_grows_83
      · refine j_aload_n C dX6_grows_37 0 rfl rfl ?_
        refine j_getR C wfl_X6_44 dX6_grows_38 (fun a12 => ?_)
        refine j_aload_n C dX6_grows_41 0 rfl rfl ?_
        refine j_getR C wfl_X6_27 dX6_grows_42 (fun a13 => ?_)
        refine j_iload_n C dX6_grows_45 1 rfl rfl ?_
        refine j_iload C dX6_grows_46 4 rfl ?_
        refine j_cV (st := []) (fun x e => ⟨runsV C wml_X6_225 wce_X0_takeGrown (c_X0_takeGrown (bL B) (bD B) _ _ _ _ _ x e).1 rfl rfl rfl rfl rfl dX6_grows_48, (c_X0_takeGrown (bL B) (bD B) _ _ _ _ _ x e).2⟩) (fun h14 => ?_)
        refine j_aload_n C dX6_grows_51 0 rfl rfl ?_
        refine j_getR C wfl_X6_44 dX6_grows_52 (fun a15 => ?_)
        refine j_aload_n C dX6_grows_55 0 rfl rfl ?_
        refine j_getR C wfl_X6_27 dX6_grows_56 (fun a16 => ?_)
        refine j_cI (st := []) (fun x e => ⟨runsV C wml_X6_187 wce_X0_longest (c_X0_longest (bL B) (bD B) _ _ _ x e).1 rfl rfl rfl rfl rfl dX6_grows_59, (c_X0_longest (bL B) (bD B) _ _ _ x e).2⟩) (fun x17 h18 => ?_)
        refine j_istore (lv' := [(5, .int x17), (0, .ref a0), (1, .int p1), (2, .int i6), (3, .int i7), (4, .int i8)]) C dX6_grows_62 rfl rfl ?_
        refine j_iload C dX6_grows_64 0 rfl ?_
        refine j_iload_n C dX6_grows_66 4 rfl rfl ?_
        refine J.jn2 76 (fun (z19 : Int32) (z20 : Int32) => h18) (fun (z19 : Int32) (z20 : Int32) => [(0, .ref a0), (1, .int p1), (2, .int z19), (3, .int z20), (4, .int i8)]) (fun (z19 : Int32) (z20 : Int32) => []) (fun z19 z20 => ?_) (fun k21 hk21 => ?_)
        · refine j_iinc (lv' := [(4, .int (i8 + (1 : Int32))), (0, .ref a0), (1, .int p1), (2, .int z19), (3, .int z20)]) C (1 : Int32) dX6_grows_76 4 rfl (by decide) rfl rfl ?_
          refine j_goto C 31 dX6_grows_79 (by decide) ?_
          refine J.sub (lv' := [(0, .ref a0), (1, .int p1), (2, .int z19), (3, .int z20), (4, .int (i8 + (1 : Int32)))]) [1, 2, 3, 4, 0] rfl ?_
          exact hr10 z19 z20 (i8 + (1 : Int32)) h18
        refine j_icmp_le C 76 dX6_grows_67 (by decide) (fun c22 => ?_) (fun c22 => ?_)
        · refine J.sub (lv' := [(0, .ref a0), (1, .int p1), (2, .int i6), (3, .int i7), (4, .int i8)]) [1, 2, 3, 4, 5] rfl ?_
          exact hk21 i6 i7
        · refine j_iload C dX6_grows_70 0 rfl ?_
          refine j_istore_n (lv' := [(3, .int x17), (5, .int x17), (0, .ref a0), (1, .int p1), (2, .int i6), (4, .int i8)]) C dX6_grows_72 rfl rfl rfl ?_
          refine j_iload C dX6_grows_73 5 rfl ?_
          refine j_istore_n (lv' := [(2, .int i8), (3, .int x17), (5, .int x17), (0, .ref a0), (1, .int p1), (4, .int i8)]) C dX6_grows_75 rfl rfl rfl ?_
          refine J.sub (lv' := [(0, .ref a0), (1, .int p1), (2, .int i8), (3, .int x17), (4, .int i8)]) [3, 4, 0, 1, 5] rfl ?_
          exact hk21 i8 x17
    · refine j_bipush C (-4 : Int32) dX6_grows_20 (by decide) ?_
      exact j_iret C dX6_grows_22
  · refine j_iconst C (-1 : Int32) dX6_grows_7 (by decide) ?_
    exact j_iret C dX6_grows_8
def f_X2_part (a0 : Nat) (p1 : Int32) (p2 : Int32) (h : Hp) : Option Hp :=
  bnd (gO h a0 2) fun _ => bnd (f_X2_has a0 p1 h) fun x1 => if x1 = 0 then (some h) else (bnd (gR h a0 2 3) fun a3 => bnd (ldI 0 h a3 p1) fun x4 => bnd (gR h a0 2 5) fun a5 => bnd (ldI 0 h a5 p1) fun x6 => bnd (gR h a0 2 6) fun a7 => bnd (ldI 0 h a7 p1) fun x8 => bnd (f_X2_add a0 x4 p2 x6 x8 h) fun h9 => bnd (gR h9 a0 2 4) fun a10 => bnd (ldI 0 h9 a10 p1) fun x11 => bnd (stI 0 h9 a10 p1 (x11 - p2)) fun h12 => bnd (gI h12 a0 2 11) fun x13 => bnd (gI h12 a0 2 1) fun x14 => bnd (pF h12 a0 2 11 (.int (x13 + x14))) fun h15 => some h15)
set_option maxHeartbeats 4000000 in
set_option maxRecDepth 100000 in
theorem c_X2_part (l : Launch) (D : hD) (a0 : Nat) (p1 : Int32) (p2 : Int32) (h : Hp) (x : Hp) (e : f_X2_part a0 p1 p2 h = some x) : (∃ fs, gO h a0 2 = some fs) ∧ Ct l D yX2_part cX2_part 3 none 1 24 [.ref a0, .int p1, .int p2] h none x := by
  obtain ⟨fs, g1, g2⟩ := bnd_some e
  refine ⟨⟨fs, g1⟩, ?_⟩
  refine ct_of (out := oV) g2 (by decide +kernel) rfl (fun B C hin hl hd => ?_)
  subst hl; subst hd
  show J B _ _ h 0 [(0, .ref a0), (1, .int p1), (2, .int p2)] []
  refine j_aload_n C dX2_part_0 0 rfl rfl ?_
  refine j_iload_n C dX2_part_1 1 rfl rfl ?_
  refine j_cIp (st := []) (fun x e => ⟨runsV C wml_X2_58 wce_X2_has (c_X2_has (bL B) (bD B) _ _ _ x e).1 rfl rfl rfl rfl rfl dX2_part_2, (c_X2_has (bL B) (bD B) _ _ _ x e).2⟩) (fun x1 => ?_)
  refine j_if_ne C 9 dX2_part_5 (by decide) (fun c2 => ?_) (fun c2 => ?_)
  · refine j_aload_n C dX2_part_9 0 rfl rfl ?_
    refine j_aload_n C dX2_part_10 0 rfl rfl ?_
    refine j_getR C wfl_X2_9 dX2_part_11 (fun a3 => ?_)
    refine j_iload_n C dX2_part_14 1 rfl rfl ?_
    refine j_iaload C dX2_part_15 (fun x4 => ?_)
    refine j_iload_n C dX2_part_16 2 rfl rfl ?_
    refine j_aload_n C dX2_part_17 0 rfl rfl ?_
    refine j_getR C wfl_X2_18 dX2_part_18 (fun a5 => ?_)
    refine j_iload_n C dX2_part_21 1 rfl rfl ?_
    refine j_iaload C dX2_part_22 (fun x6 => ?_)
    refine j_aload_n C dX2_part_23 0 rfl rfl ?_
    refine j_getR C wfl_X2_21 dX2_part_24 (fun a7 => ?_)
    refine j_iload_n C dX2_part_27 1 rfl rfl ?_
    refine j_iaload C dX2_part_28 (fun x8 => ?_)
    refine j_cV (st := []) (fun x e => ⟨runsV C wml_X2_85 wce_X2_add (c_X2_add (bL B) (bD B) _ _ _ _ _ _ x e).1 rfl rfl rfl rfl rfl dX2_part_29, (c_X2_add (bL B) (bD B) _ _ _ _ _ _ x e).2⟩) (fun h9 => ?_)
    refine j_aload_n C dX2_part_32 0 rfl rfl ?_
    refine j_getR C wfl_X2_15 dX2_part_33 (fun a10 => ?_)
    refine j_iload_n C dX2_part_36 1 rfl rfl ?_
    refine j_dup2 C dX2_part_37 rfl rfl ?_
    refine j_iaload C dX2_part_38 (fun x11 => ?_)
    refine j_iload_n C dX2_part_39 2 rfl rfl ?_
    refine j_isub C dX2_part_40 ?_
    refine j_iastore C dX2_part_41 (fun h12 => ?_)
    refine j_aload_n C dX2_part_42 0 rfl rfl ?_
    refine j_dup C dX2_part_43 (fun _ => rfl) ?_
    refine j_getI C wfl_X2_49 dX2_part_44 (fun x13 => ?_)
    refine j_aload_n C dX2_part_47 0 rfl rfl ?_
    refine j_getI C wfl_X2_34 dX2_part_48 (fun x14 => ?_)
    refine j_iadd C dX2_part_51 ?_
    refine j_put C wfp_X2_49 dX2_part_52 ⟨_, rfl⟩ (fun h15 => ?_)
    exact j_vret C dX2_part_55
  · exact j_vret C dX2_part_8
def f_X6_remember (a0 : Nat) (h : Hp) : Option Hp :=
  bnd (gO h a0 6) fun _ => bnd (gI h a0 6 6) fun x1 => jn1 (fun (h2 : Hp) => bnd (gR h2 a0 6 5) fun a4 => bnd (gI h2 a0 6 6) fun x5 => bnd (ldR h2 a4 x5) fun a6 => bnd (gR h2 a0 6 4) fun a7 => bnd (f_X2_copyFrom a6 a7 h2) fun h8 => bnd (gI h8 a0 6 6) fun x9 => bnd (pF h8 a0 6 6 (.int (x9 + (1 : Int32)))) fun h10 => some h10) fun k3 => if x1 < (8 : Int32) then (k3 h) else (bnd (gR h a0 6 5) fun a12 => bnd (ldR h a12 (0 : Int32)) fun a13 => wl2 (fun r16 (i14 : Int32) (h15 : Hp) => if (8 : Int32) ≤ i14 then (bnd (gR h15 a0 6 5) fun a18 => bnd (stR h15 a18 (7 : Int32) a13) fun h19 => bnd (pF h19 a0 6 6 (.int (7 : Int32))) fun h20 => k3 h20) else (bnd (gR h15 a0 6 5) fun a21 => bnd (gR h15 a0 6 5) fun a22 => bnd (ldR h15 a22 i14) fun a23 => bnd (stR h15 a21 (i14 - (1 : Int32)) a23) fun h24 => r16 (i14 + (1 : Int32)) h24)) fuel (1 : Int32) h)
set_option maxHeartbeats 4000000 in
set_option maxRecDepth 100000 in
theorem c_X6_remember (l : Launch) (D : hD) (a0 : Nat) (h : Hp) (x : Hp) (e : f_X6_remember a0 h = some x) : (∃ fs, gO h a0 6 = some fs) ∧ Ct l D yX6_remember cX6_remember 3 none 2 47 [.ref a0] h none x := by
  obtain ⟨fs, g1, g2⟩ := bnd_some e
  refine ⟨⟨fs, g1⟩, ?_⟩
  refine ct_of (out := oV) g2 (by decide +kernel) rfl (fun B C hin hl hd => ?_)
  subst hl; subst hd
  show J B _ _ h 0 [(0, .ref a0)] []
  refine j_aload_n C dX6_remember_0 0 rfl rfl ?_
  refine j_getI C wfl_X6_91 dX6_remember_1 (fun x1 => ?_)
  refine j_bipush C (8 : Int32) dX6_remember_4 (by decide) ?_
  refine J.jn1 58 (fun (h2 : Hp) => h2) (fun (h2 : Hp) => [(0, .ref a0)]) (fun (h2 : Hp) => []) (fun h2 => ?_) (fun k3 hk3 => ?_)
  · refine j_aload_n C dX6_remember_58 0 rfl rfl ?_
    refine j_getR C wfl_X6_30 dX6_remember_59 (fun a4 => ?_)
    refine j_aload_n C dX6_remember_62 0 rfl rfl ?_
    refine j_getI C wfl_X6_91 dX6_remember_63 (fun x5 => ?_)
    refine j_aaload C dX6_remember_66 (fun a6 => ?_)
    refine j_aload_n C dX6_remember_67 0 rfl rfl ?_
    refine j_getR C wfl_X6_27 dX6_remember_68 (fun a7 => ?_)
    refine j_cV (st := []) (fun x e => ⟨runsV C wml_X6_84 wce_X2_copyFrom (c_X2_copyFrom (bL B) (bD B) _ _ _ x e).1 rfl rfl rfl rfl rfl dX6_remember_71, (c_X2_copyFrom (bL B) (bD B) _ _ _ x e).2⟩) (fun h8 => ?_)
    refine j_aload_n C dX6_remember_74 0 rfl rfl ?_
    refine j_dup C dX6_remember_75 (fun _ => rfl) ?_
    refine j_getI C wfl_X6_91 dX6_remember_76 (fun x9 => ?_)
    refine j_iconst C (1 : Int32) dX6_remember_79 (by decide) ?_
    refine j_iadd C dX6_remember_80 ?_
    refine j_put C wfp_X6_91 dX6_remember_81 ⟨_, rfl⟩ (fun h10 => ?_)
    exact j_vret C dX6_remember_84
  refine j_icmp_lt C 58 dX6_remember_6 (by decide) (fun c11 => ?_) (fun c11 => ?_)
  · exact hk3 h
  · refine j_aload_n C dX6_remember_9 0 rfl rfl ?_
    refine j_getR C wfl_X6_30 dX6_remember_10 (fun a12 => ?_)
    refine j_iconst C (0 : Int32) dX6_remember_13 (by decide) ?_
    refine j_aaload C dX6_remember_14 (fun a13 => ?_)
    refine j_astore_n (lv' := [(1, .ref a13), (0, .ref a0)]) C dX6_remember_15 rfl rfl rfl ?_
    refine j_iconst C (1 : Int32) dX6_remember_16 (by decide) ?_
    refine j_istore_n (lv' := [(2, .int (1 : Int32)), (1, .ref a13), (0, .ref a0)]) C dX6_remember_17 rfl rfl rfl ?_
    refine J.sub (lv' := [(0, .ref a0), (1, .ref a13), (2, .int (1 : Int32))]) [2, 1, 0] rfl ?_
    refine J.wl2 18 (fun (i14 : Int32) (h15 : Hp) => h15) (fun (i14 : Int32) (h15 : Hp) => [(0, .ref a0), (1, .ref a13), (2, .int i14)]) (fun (i14 : Int32) (h15 : Hp) => []) (fun r16 hr16 i14 h15 => ?_) fuel (1 : Int32) h
    refine j_iload_n C dX6_remember_18 2 rfl rfl ?_
    refine j_bipush C (8 : Int32) dX6_remember_19 (by decide) ?_
    refine j_icmp_ge C 44 dX6_remember_21 (by decide) (fun c17 => ?_) (fun c17 => ?_)
    · refine j_aload_n C dX6_remember_44 0 rfl rfl ?_
      refine j_getR C wfl_X6_30 dX6_remember_45 (fun a18 => ?_)
      refine j_bipush C (7 : Int32) dX6_remember_48 (by decide) ?_
      refine j_aload_n C dX6_remember_50 1 rfl rfl ?_
      refine j_aastore C dX6_remember_51 (fun h19 => ?_)
      refine j_aload_n C dX6_remember_52 0 rfl rfl ?_
      refine j_bipush C (7 : Int32) dX6_remember_53 (by decide) ?_
      refine j_put C wfp_X6_91 dX6_remember_55 ⟨_, rfl⟩ (fun h20 => ?_)
      refine J.sub (lv' := [(0, .ref a0)]) [0] rfl ?_
      exact hk3 h20
    · refine j_aload_n C dX6_remember_24 0 rfl rfl ?_
      refine j_getR C wfl_X6_30 dX6_remember_25 (fun a21 => ?_)
      refine j_iload_n C dX6_remember_28 2 rfl rfl ?_
      refine j_iconst C (1 : Int32) dX6_remember_29 (by decide) ?_
      refine j_isub C dX6_remember_30 ?_
      refine j_aload_n C dX6_remember_31 0 rfl rfl ?_
      refine j_getR C wfl_X6_30 dX6_remember_32 (fun a22 => ?_)
      refine j_iload_n C dX6_remember_35 2 rfl rfl ?_
      refine j_aaload C dX6_remember_36 (fun a23 => ?_)
      refine j_aastore C dX6_remember_37 (fun h24 => ?_)
      refine j_iinc (lv' := [(2, .int (i14 + (1 : Int32))), (0, .ref a0), (1, .ref a13)]) C (1 : Int32) dX6_remember_38 2 rfl (by decide) rfl rfl ?_
      refine j_goto C 18 dX6_remember_41 (by decide) ?_
      refine J.sub (lv' := [(0, .ref a0), (1, .ref a13), (2, .int (i14 + (1 : Int32)))]) [1, 2, 0] rfl ?_
      exact hr16 (i14 + (1 : Int32)) h24
