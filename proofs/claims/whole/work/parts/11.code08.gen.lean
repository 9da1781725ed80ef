def f_X5_bring (a0 : Nat) (p1 : Int32) (h : Hp) : Option Hp :=
  bnd (gO h a0 5) fun _ => bnd (f_X6_isKind p1) fun x1 => if x1 = 0 then (some h) else (bnd (gI h a0 5 2) fun x3 => bnd (gI h a0 5 3) fun x4 => bnd (f_X6_fits p1 x3 x4) fun x5 => if x5 = 0 then (bnd (gR h a0 5 1) fun a22 => bnd (ldI 0 h a22 p1) fun x23 => bnd (stI 0 h a22 p1 (x23 + (1 : Int32))) fun h24 => some h24) else (bnd (f_X5_take a0 p1 h) fun h7 => bnd (f_X5_lowestPutBy a0 h7) fun x8 => wl3 (fun r12 (i9 : Int32) (i10 : Int32) (h11 : Hp) => jn0 (some h11) fun k13 => if (100 : Int32) ≤ i10 then k13 else (bnd (f_X6_isKind i9) fun x15 => if x15 = 0 then k13 else (bnd (gR h11 a0 5 1) fun a17 => bnd (ldI 0 h11 a17 i9) fun x18 => bnd (stI 0 h11 a17 i9 (x18 - (1 : Int32))) fun h19 => bnd (f_X5_take a0 i9 h19) fun h20 => bnd (f_X5_lowestPutBy a0 h20) fun x21 => r12 x21 (i10 + (1 : Int32)) h20))) fuel x8 (0 : Int32) h7))
set_option maxHeartbeats 4000000 in
set_option maxRecDepth 100000 in
theorem c_X5_bring (l : Launch) (D : hD) (a0 : Nat) (p1 : Int32) (h : Hp) (x : Hp) (e : f_X5_bring a0 p1 h = some x) : (∃ fs, gO h a0 5 = some fs) ∧ Ct l D yX5_bring cX5_bring 4 none 2 43 [.ref a0, .int p1] h none x := by
  obtain ⟨fs, g1, g2⟩ := bnd_some e
  refine ⟨⟨fs, g1⟩, ?_⟩
  refine ct_of (out := oV) g2 (by decide +kernel) rfl (fun B C hin hl hd => ?_)
  subst hl; subst hd
  show J B _ _ h 0 [(0, .ref a0), (1, .int p1)] []
  refine j_iload_n C dX5_bring_0 1 rfl rfl ?_
  refine j_cIp (st := []) (fun x e => ⟨runsS C wml_X5_34 wce_X6_isKind rfl rfl rfl rfl rfl dX5_bring_1, c_X6_isKind (bL B) (bD B) _ _ x e⟩) (fun x1 => ?_)
  refine j_if_ne C 8 dX5_bring_4 (by decide) (fun c2 => ?_) (fun c2 => ?_)
  · refine j_iload_n C dX5_bring_8 1 rfl rfl ?_
    refine j_aload_n C dX5_bring_9 0 rfl rfl ?_
    refine j_getI C wfl_X5_25 dX5_bring_10 (fun x3 => ?_)
    refine j_aload_n C dX5_bring_13 0 rfl rfl ?_
    refine j_getI C wfl_X5_28 dX5_bring_14 (fun x4 => ?_)
    refine j_cIp (st := []) (fun x e => ⟨runsS C wml_X5_38 wce_X6_fits rfl rfl rfl rfl rfl dX5_bring_17, c_X6_fits (bL B) (bD B) _ _ _ _ x e⟩) (fun x5 => ?_)
    refine j_if_ne C 34 dX5_bring_20 (by decide) (fun c6 => ?_) (fun c6 => ?_)
    · refine j_aload_n C dX5_bring_34 0 rfl rfl ?_
      refine j_iload_n C dX5_bring_35 1 rfl rfl ?_
      refine j_cV (st := []) (fun x e => ⟨runsV C wml_X5_42 wce_X5_take (c_X5_take (bL B) (bD B) _ _ _ x e).1 rfl rfl rfl rfl rfl dX5_bring_36, (c_X5_take (bL B) (bD B) _ _ _ x e).2⟩) (fun h7 => ?_)
      refine j_aload_n C dX5_bring_39 0 rfl rfl ?_
      refine j_cIp (st := []) (fun x e => ⟨runsV C wml_X5_46 wce_X5_lowestPutBy (c_X5_lowestPutBy (bL B) (bD B) _ _ x e).1 rfl rfl rfl rfl rfl dX5_bring_40, (c_X5_lowestPutBy (bL B) (bD B) _ _ x e).2⟩) (fun x8 => ?_)
      refine j_istore_n (lv' := [(2, .int x8), (0, .ref a0), (1, .int p1)]) C dX5_bring_43 rfl rfl rfl ?_
      refine j_iconst C (0 : Int32) dX5_bring_44 (by decide) ?_
      refine j_istore_n (lv' := [(3, .int (0 : Int32)), (2, .int x8), (0, .ref a0), (1, .int p1)]) C dX5_bring_45 rfl rfl rfl ?_
      refine J.sub (lv' := [(0, .ref a0), (2, .int x8), (3, .int (0 : Int32))]) [2, 1, 0] rfl ?_
      refine J.wl3 46 (fun (i9 : Int32) (i10 : Int32) (h11 : Hp) => h11) (fun (i9 : Int32) (i10 : Int32) (h11 : Hp) => [(0, .ref a0), (2, .int i9), (3, .int i10)]) (fun (i9 : Int32) (i10 : Int32) (h11 : Hp) => []) (fun r12 hr12 i9 i10 h11 => ?_) fuel x8 (0 : Int32) h7
      refine j_iload_n C dX5_bring_46 2 rfl rfl ?_
      refine j_bipush C (100 : Int32) dX5_bring_47 (by decide) ?_
      refine J.jn0 (h0 := h11) (lv0 := []) (st0 := []) 85 ?_ (fun k13 hk13 => ?_)
      · exact j_vret C dX5_bring_85
      refine j_icmp_ge C 85 dX5_bring_49 (by decide) (fun c14 => ?_) (fun c14 => ?_)
      · refine J.sub (lv' := []) [] rfl ?_
        exact hk13
      · refine j_iload_n C dX5_bring_52 1 rfl rfl ?_
        refine j_cIp (st := []) (fun x e => ⟨runsS C wml_X5_34 wce_X6_isKind rfl rfl rfl rfl rfl dX5_bring_53, c_X6_isKind (bL B) (bD B) _ _ x e⟩) (fun x15 => ?_)
        refine j_if_eq C 85 dX5_bring_56 (by decide) (fun c16 => ?_) (fun c16 => ?_)
        · refine J.sub (lv' := []) [] rfl ?_
          exact hk13
        · refine j_aload_n C dX5_bring_59 0 rfl rfl ?_
          refine j_getR C wfl_X5_9 dX5_bring_60 (fun a17 => ?_)
          refine j_iload_n C dX5_bring_63 1 rfl rfl ?_
          refine j_dup2 C dX5_bring_64 rfl rfl ?_
          refine j_iaload C dX5_bring_65 (fun x18 => ?_)
          refine j_iconst C (1 : Int32) dX5_bring_66 (by decide) ?_
          refine j_isub C dX5_bring_67 ?_
          refine j_iastore C dX5_bring_68 (fun h19 => ?_)
          refine j_aload_n C dX5_bring_69 0 rfl rfl ?_
          refine j_iload_n C dX5_bring_70 1 rfl rfl ?_
          refine j_cV (st := []) (fun x e => ⟨runsV C wml_X5_42 wce_X5_take (c_X5_take (bL B) (bD B) _ _ _ x e).1 rfl rfl rfl rfl rfl dX5_bring_71, (c_X5_take (bL B) (bD B) _ _ _ x e).2⟩) (fun h20 => ?_)
          refine j_aload_n C dX5_bring_74 0 rfl rfl ?_
          refine j_cIp (st := []) (fun x e => ⟨runsV C wml_X5_46 wce_X5_lowestPutBy (c_X5_lowestPutBy (bL B) (bD B) _ _ x e).1 rfl rfl rfl rfl rfl dX5_bring_75, (c_X5_lowestPutBy (bL B) (bD B) _ _ x e).2⟩) (fun x21 => ?_)
          refine j_istore_n (lv' := [(2, .int x21), (0, .ref a0), (3, .int i10)]) C dX5_bring_78 rfl rfl rfl ?_
          refine j_iinc (lv' := [(3, .int (i10 + (1 : Int32))), (2, .int x21), (0, .ref a0)]) C (1 : Int32) dX5_bring_79 2 rfl (by decide) rfl rfl ?_
          refine j_goto C 46 dX5_bring_82 (by decide) ?_
          refine J.sub (lv' := [(0, .ref a0), (2, .int x21), (3, .int (i10 + (1 : Int32)))]) [2, 1, 0] rfl ?_
          exact hr12 x21 (i10 + (1 : Int32)) h20
    · refine j_aload_n C dX5_bring_23 0 rfl rfl ?_
      refine j_getR C wfl_X5_9 dX5_bring_24 (fun a22 => ?_)
      refine j_iload_n C dX5_bring_27 1 rfl rfl ?_
      refine j_dup2 C dX5_bring_28 rfl rfl ?_
      refine j_iaload C dX5_bring_29 (fun x23 => ?_)
      refine j_iconst C (1 : Int32) dX5_bring_30 (by decide) ?_
      refine j_iadd C dX5_bring_31 ?_
      refine j_iastore C dX5_bring_32 (fun h24 => ?_)
      exact j_vret C dX5_bring_33
  · exact j_vret C dX5_bring_7
def f_X5_start (a0 : Nat) (p1 : Int32) (h : Hp) : Option Hp :=
  bnd (gO h a0 5) fun _ => bnd (pF h a0 5 0 (.int p1)) fun h1 => bnd (gR h1 a0 5 1) fun a2 => bnd (f_J7_fill_53178 a2 (0 : Int32) h1) fun h3 => bnd (pF h3 a0 5 2 (.int (5 : Int32))) fun h4 => bnd (pF h4 a0 5 3 (.int (5 : Int32))) fun h5 => bnd (pF h5 a0 5 4 (.int (0 : Int32))) fun h6 => some h6
set_option maxHeartbeats 4000000 in
set_option maxRecDepth 100000 in
theorem c_X5_start (l : Launch) (D : hD) (a0 : Nat) (p1 : Int32) (h : Hp) (x : Hp) (e : f_X5_start a0 p1 h = some x) : (∃ fs, gO h a0 5 = some fs) ∧ Ct l D yX5_start cX5_start 2 none 1 23 [.ref a0, .int p1] h none x := by
  obtain ⟨fs, g1, g2⟩ := bnd_some e
  refine ⟨⟨fs, g1⟩, ?_⟩
  refine ct_of (out := oV) g2 (by decide +kernel) rfl (fun B C hin hl hd => ?_)
  subst hl; subst hd
  show J B _ _ h 0 [(0, .ref a0), (1, .int p1)] []
  refine j_aload_n C dX5_start_0 0 rfl rfl ?_
  refine j_iload_n C dX5_start_1 1 rfl rfl ?_
  refine j_put C wfp_X5_15 dX5_start_2 ⟨_, rfl⟩ (fun h1 => ?_)
  refine j_aload_n C dX5_start_5 0 rfl rfl ?_
  refine j_getR C wfl_X5_9 dX5_start_6 (fun a2 => ?_)
  refine j_iconst C (0 : Int32) dX5_start_9 (by decide) ?_
  refine j_cV (st := []) (fun x e => ⟨runsS C wml_X5_19 wce_J7_fill_53178 rfl rfl rfl rfl rfl dX5_start_10, c_J7_fill_53178 (bL B) (bD B) _ _ _ x e⟩) (fun h3 => ?_)
  refine j_aload_n C dX5_start_13 0 rfl rfl ?_
  refine j_iconst C (5 : Int32) dX5_start_14 (by decide) ?_
  refine j_put C wfp_X5_25 dX5_start_15 ⟨_, rfl⟩ (fun h4 => ?_)
  refine j_aload_n C dX5_start_18 0 rfl rfl ?_
  refine j_iconst C (5 : Int32) dX5_start_19 (by decide) ?_
  refine j_put C wfp_X5_28 dX5_start_20 ⟨_, rfl⟩ (fun h5 => ?_)
  refine j_aload_n C dX5_start_23 0 rfl rfl ?_
  refine j_iconst C (0 : Int32) dX5_start_24 (by decide) ?_
  refine j_put C wfp_X5_31 dX5_start_25 ⟨_, rfl⟩ (fun h6 => ?_)
  exact j_vret C dX5_start_28
def f_X6_drawnKind (p1 : Int32) (p2 : Int32) : Option Int32 :=
  nm ((((7919 : Int64) * p1.toInt64) + ((6151 : Int64) * p2.toInt64)) + (1 : Int64)) fun y1 => if (65521 : Int64) = 0 then none else if (5 : Int64) = 0 then none else some ((((y1 * y1) - (y1 * y1) / (65521 : Int64) * (65521 : Int64)) - ((y1 * y1) - (y1 * y1) / (65521 : Int64) * (65521 : Int64)) / (5 : Int64) * (5 : Int64)).toInt32)
set_option maxHeartbeats 4000000 in
set_option maxRecDepth 100000 in
theorem c_X6_drawnKind (l : Launch) (D : hD) (p1 : Int32) (p2 : Int32) (h : Hp) (x : Int32) (e : f_X6_drawnKind p1 p2 = some x) : Ct l D yX6_drawnKind cX6_drawnKind 4 (some .int) 0 0 [.int p1, .int p2] h (some (.int x)) h := by
  unfold f_X6_drawnKind at e
  refine ct_of (out := (oIp h)) e (by decide +kernel) rfl (fun B C hin hl hd => ?_)
  subst hl; subst hd
  show J B _ _ h 0 [(0, .int p1), (1, .int p2)] []
  refine j_ldc2_w C dX6_drawnKind_0 wcl_X6_254 ?_
  refine j_iload_n C dX6_drawnKind_3 0 rfl rfl ?_
  refine j_i2l C dX6_drawnKind_4 ?_
  refine j_lmul C dX6_drawnKind_5 ?_
  refine j_ldc2_w C dX6_drawnKind_6 wcl_X6_256 ?_
  refine j_iload_n C dX6_drawnKind_9 1 rfl rfl ?_
  refine j_i2l C dX6_drawnKind_10 ?_
  refine j_lmul C dX6_drawnKind_11 ?_
  refine j_ladd C dX6_drawnKind_12 ?_
  refine j_lconst C (1 : Int64) dX6_drawnKind_13 (by decide) ?_
  refine j_ladd C dX6_drawnKind_14 ?_
  refine j_nmL (fun y1 => ?_)
  refine j_lstore_n (lv' := [(2, .long y1), (0, .int p1), (1, .int p2)]) C dX6_drawnKind_15 rfl rfl rfl ?_
  refine j_lload_n C dX6_drawnKind_16 0 rfl rfl ?_
  refine j_lload_n C dX6_drawnKind_17 0 rfl rfl ?_
  refine j_lmul C dX6_drawnKind_18 ?_
  refine j_ldc2_w C dX6_drawnKind_19 wcl_X6_258 ?_
  refine j_lrem C dX6_drawnKind_22 ?_
  refine j_ldc2_w C dX6_drawnKind_23 wcl_X6_260 ?_
  refine j_lrem C dX6_drawnKind_26 ?_
  refine j_l2i C dX6_drawnKind_27 ?_
  exact j_iretp C dX6_drawnKind_28
def f_X6_year (a0 : Nat) (p1 : Int32) (p2 : Int32) (p3 : Int32) (h : Hp) : Option (Int32 × Hp) :=
  bnd (gO h a0 6) fun _ => jn0 (some ((-1 : Int32), h)) fun k1 => if p1 < 0 then k1 else (if (9999 : Int32) < p1 then k1 else (if p2 < (1 : Int32) then k1 else (if (100 : Int32) < p2 then k1 else (if p3 < 0 then k1 else (if p3 ≤ (1 : Int32) then (bnd (gR h a0 6 14) fun a8 => bnd (gR h a0 6 4) fun a9 => bnd (gI h a9 2 0) fun x10 => bnd (f_X5_start a8 x10 h) fun h11 => wl2 (fun r14 (i12 : Int32) (h13 : Hp) => if p2 ≤ i12 then (jn1 (fun (w16 : Int32) => some (w16, h13)) fun k17 => if p3 = 0 then (bnd (gR h13 a0 6 14) fun a21 => bnd (gI h13 a21 5 4) fun x22 => k17 x22) else (bnd (gR h13 a0 6 14) fun a19 => bnd (gI h13 a19 5 4) fun x20 => k17 (p2 - x20))) else (bnd (gR h13 a0 6 14) fun a23 => bnd (f_X6_drawnKind p1 i12) fun x24 => bnd (f_X5_bring a23 x24 h13) fun h25 => r14 (i12 + (1 : Int32)) h25)) fuel (0 : Int32) h11) else k1)))))
set_option maxHeartbeats 4000000 in
set_option maxRecDepth 100000 in
theorem c_X6_year (l : Launch) (D : hD) (a0 : Nat) (p1 : Int32) (p2 : Int32) (p3 : Int32) (h : Hp) (x : (Int32 × Hp)) (e : f_X6_year a0 p1 p2 p3 h = some x) : (∃ fs, gO h a0 6 = some fs) ∧ Ct l D yX6_year cX6_year 5 (some .int) 3 66 [.ref a0, .int p1, .int p2, .int p3] h (some (.int x.1)) x.2 := by
  obtain ⟨fs, g1, g2⟩ := bnd_some e
  refine ⟨⟨fs, g1⟩, ?_⟩
  refine ct_of (out := oI) g2 (by decide +kernel) rfl (fun B C hin hl hd => ?_)
  subst hl; subst hd
  show J B _ _ h 0 [(0, .ref a0), (1, .int p1), (2, .int p2), (3, .int p3)] []
  refine j_iload_n C dX6_year_0 1 rfl rfl ?_
  refine J.jn0 (h0 := h) (lv0 := []) (st0 := []) 31 ?_ (fun k1 hk1 => ?_)
  · refine j_iconst C (-1 : Int32) dX6_year_31 (by decide) ?_
    exact j_iret C dX6_year_32
  refine j_if_lt C 31 dX6_year_1 (by decide) (fun c2 => ?_) (fun c2 => ?_)
  · refine J.sub (lv' := []) [] rfl ?_
    exact hk1
  · refine j_iload_n C dX6_year_4 1 rfl rfl ?_
    refine j_sipush C (9999 : Int32) dX6_year_5 (by decide) ?_
    refine j_icmp_gt C 31 dX6_year_8 (by decide) (fun c3 => ?_) (fun c3 => ?_)
    · refine J.sub (lv' := []) [] rfl ?_
      exact hk1
    · refine j_iload_n C dX6_year_11 2 rfl rfl ?_
      refine j_iconst C (1 : Int32) dX6_year_12 (by decide) ?_
      refine j_icmp_lt C 31 dX6_year_13 (by decide) (fun c4 => ?_) (fun c4 => ?_)
      · refine J.sub (lv' := []) [] rfl ?_
        exact hk1
      · refine j_iload_n C dX6_year_16 2 rfl rfl ?_
        refine j_bipush C (100 : Int32) dX6_year_17 (by decide) ?_
        refine j_icmp_gt C 31 dX6_year_19 (by decide) (fun c5 => ?_) (fun c5 => ?_)
        · refine J.sub (lv' := []) [] rfl ?_
          exact hk1
        · refine j_iload_n C dX6_year_22 3 rfl rfl ?_
          refine j_if_lt C 31 dX6_year_23 (by decide) (fun c6 => ?_) (fun c6 => ?_)
          · refine J.sub (lv' := []) [] rfl ?_
            exact hk1
          · refine j_iload_n C dX6_year_26 3 rfl rfl ?_
            refine j_iconst C (1 : Int32) dX6_year_27 (by decide) ?_
            refine j_icmp_le C 33 dX6_year_28 (by decide) (fun c7 => ?_) (fun c7 => ?_)
            · refine j_aload_n C dX6_year_33 0 rfl rfl ?_
              refine j_getR C wfl_X6_65 dX6_year_34 (fun a8 => ?_)
              refine j_aload_n C dX6_year_37 0 rfl rfl ?_
              refine j_getR C wfl_X6_27 dX6_year_38 (fun a9 => ?_)
              refine j_getI C wfl_X6_170 dX6_year_41 (fun x10 => ?_)
              refine j_cV (st := []) (fun x e => ⟨runsV C wml_X6_239 wce_X5_start (c_X5_start (bL B) (bD B) _ _ _ x e).1 rfl rfl rfl rfl rfl dX6_year_44, (c_X5_start (bL B) (bD B) _ _ _ x e).2⟩) (fun h11 => ?_)
              refine j_iconst C (0 : Int32) dX6_year_47 (by decide) ?_
              refine j_istore (lv' := [(4, .int (0 : Int32)), (0, .ref a0), (1, .int p1), (2, .int p2), (3, .int p3)]) C dX6_year_48 rfl rfl ?_
              refine J.sub (lv' := [(0, .ref a0), (1, .int p1), (2, .int p2), (3, .int p3), (4, .int (0 : Int32))]) [1, 2, 3, 4, 0] rfl ?_
              refine J.wl2 50 (fun (i12 : Int32) (h13 : Hp) => h13) (fun (i12 : Int32) (h13 : Hp) => [(0, .ref a0), (1, .int p1), (2, .int p2), (3, .int p3), (4, .int i12)]) (fun (i12 : Int32) (h13 : Hp) => []) (fun r14 hr14 i12 h13 => ?_) fuel (0 : Int32) h11
              refine j_iload C dX6_year_50 4 rfl ?_
              refine j_iload_n C dX6_year_52 2 rfl rfl ?_
              refine j_icmp_ge C 75 dX6_year_53 (by decide) (fun c15 => ?_) (fun c15 => ?_)
              · refine j_iload_n C dX6_year_75 3 rfl rfl ?_
                refine J.jn1 98 (fun (w16 : Int32) => h13) (fun (w16 : Int32) => []) (fun (w16 : Int32) => [.int w16]) (fun w16 => ?_) (fun k17 hk17 => ?_)
                · exact j_iret C dX6_year_98
                refine j_if_ne C 89 dX6_year_76 (by decide) (fun c18 => ?_) (fun c18 => ?_)
                · refine j_iload_n C dX6_year_89 2 rfl rfl ?_
                  refine j_aload_n C dX6_year_90 0 rfl rfl ?_
                  refine j_getR C wfl_X6_65 dX6_year_91 (fun a19 => ?_)
                  refine j_getI C wfl_X6_248 dX6_year_94 (fun x20 => ?_)
                  refine j_isub C dX6_year_97 ?_
                  refine J.sub (lv' := []) [] rfl ?_
                  exact hk17 (p2 - x20)
                · refine j_aload_n C dX6_year_79 0 rfl rfl ?_
                  refine j_getR C wfl_X6_65 dX6_year_80 (fun a21 => ?_)
                  refine j_getI C wfl_X6_248 dX6_year_83 (fun x22 => ?_)
                  refine j_goto C 98 dX6_year_86 (by decide) ?_
                  refine J.sub (lv' := []) [] rfl ?_
                  exact hk17 x22
              · refine j_aload_n C dX6_year_56 0 rfl rfl ?_
                refine j_getR C wfl_X6_65 dX6_year_57 (fun a23 => ?_)
                refine j_iload_n C dX6_year_60 1 rfl rfl ?_
                refine j_iload C dX6_year_61 4 rfl ?_
                refine j_cIp (st := [.ref a23]) (fun x e => ⟨runsS C wml_X6_242 wce_X6_drawnKind rfl rfl rfl rfl rfl dX6_year_63, c_X6_drawnKind (bL B) (bD B) _ _ _ x e⟩) (fun x24 => ?_)
                refine j_cV (st := []) (fun x e => ⟨runsV C wml_X6_245 wce_X5_bring (c_X5_bring (bL B) (bD B) _ _ _ x e).1 rfl rfl rfl rfl rfl dX6_year_66, (c_X5_bring (bL B) (bD B) _ _ _ x e).2⟩) (fun h25 => ?_)
                refine j_iinc (lv' := [(4, .int (i12 + (1 : Int32))), (0, .ref a0), (1, .int p1), (2, .int p2), (3, .int p3)]) C (1 : Int32) dX6_year_69 4 rfl (by decide) rfl rfl ?_
                refine j_goto C 50 dX6_year_72 (by decide) ?_
                refine J.sub (lv' := [(0, .ref a0), (1, .int p1), (2, .int p2), (3, .int p3), (4, .int (i12 + (1 : Int32)))]) [1, 2, 3, 4, 0] rfl ?_
                exact hr14 (i12 + (1 : Int32)) h25
            · refine J.sub (lv' := []) [] rfl ?_
              exact hk1
def f_X7_copies (a0 : Nat) (p1 : Int32) (p2 : Int32) (h : Hp) : Option Hp :=
  bnd (gO h a0 7) fun _ => wl2 (fun r3 (i1 : Int32) (h2 : Hp) => if (55 : Int32) ≤ i1 then (some h2) else (bnd (gR h2 a0 7 6) fun a5 => bnd (gR h2 a0 7 6) fun a6 => bnd (ldI 0 h2 a6 (((55 : Int32) * p1) + i1)) fun x7 => bnd (stI 0 h2 a5 (((55 : Int32) * p2) + i1) x7) fun h8 => r3 (i1 + (1 : Int32)) h8)) fuel (0 : Int32) h
set_option maxHeartbeats 4000000 in
set_option maxRecDepth 100000 in
theorem c_X7_copies (l : Launch) (D : hD) (a0 : Nat) (p1 : Int32) (p2 : Int32) (h : Hp) (x : Hp) (e : f_X7_copies a0 p1 p2 h = some x) : (∃ fs, gO h a0 7 = some fs) ∧ Ct l D yX7_copies cX7_copies 4 none 0 0 [.ref a0, .int p1, .int p2] h none x := by
  obtain ⟨fs, g1, g2⟩ := bnd_some e
  refine ⟨⟨fs, g1⟩, ?_⟩
  refine ct_of (out := oV) g2 (by decide +kernel) rfl (fun B C hin hl hd => ?_)
  subst hl; subst hd
  show J B _ _ h 0 [(0, .ref a0), (1, .int p1), (2, .int p2)] []
  refine j_iconst C (0 : Int32) dX7_copies_0 (by decide) ?_
  refine j_istore_n (lv' := [(3, .int (0 : Int32)), (0, .ref a0), (1, .int p1), (2, .int p2)]) C dX7_copies_1 rfl rfl rfl ?_
  refine J.sub (lv' := [(0, .ref a0), (1, .int p1), (2, .int p2), (3, .int (0 : Int32))]) [1, 2, 3, 0] rfl ?_
  refine J.wl2 2 (fun (i1 : Int32) (h2 : Hp) => h2) (fun (i1 : Int32) (h2 : Hp) => [(0, .ref a0), (1, .int p1), (2, .int p2), (3, .int i1)]) (fun (i1 : Int32) (h2 : Hp) => []) (fun r3 hr3 i1 h2 => ?_) fuel (0 : Int32) h
  refine j_iload_n C dX7_copies_2 3 rfl rfl ?_
  refine j_bipush C (55 : Int32) dX7_copies_3 (by decide) ?_
  refine j_icmp_ge C 36 dX7_copies_5 (by decide) (fun c4 => ?_) (fun c4 => ?_)
  · exact j_vret C dX7_copies_36
  · refine j_aload_n C dX7_copies_8 0 rfl rfl ?_
    refine j_getR C wfl_X7_23 dX7_copies_9 (fun a5 => ?_)
    refine j_bipush C (55 : Int32) dX7_copies_12 (by decide) ?_
    refine j_iload_n C dX7_copies_14 2 rfl rfl ?_
    refine j_imul C dX7_copies_15 ?_
    refine j_iload_n C dX7_copies_16 3 rfl rfl ?_
    refine j_iadd C dX7_copies_17 ?_
    refine j_aload_n C dX7_copies_18 0 rfl rfl ?_
    refine j_getR C wfl_X7_23 dX7_copies_19 (fun a6 => ?_)
    refine j_bipush C (55 : Int32) dX7_copies_22 (by decide) ?_
    refine j_iload_n C dX7_copies_24 1 rfl rfl ?_
    refine j_imul C dX7_copies_25 ?_
    refine j_iload_n C dX7_copies_26 3 rfl rfl ?_
    refine j_iadd C dX7_copies_27 ?_
    refine j_iaload C dX7_copies_28 (fun x7 => ?_)
    refine j_iastore C dX7_copies_29 (fun h8 => ?_)
    refine j_iinc (lv' := [(3, .int (i1 + (1 : Int32))), (0, .ref a0), (1, .int p1), (2, .int p2)]) C (1 : Int32) dX7_copies_30 3 rfl (by decide) rfl rfl ?_
    refine j_goto C 2 dX7_copies_33 (by decide) ?_
    refine J.sub (lv' := [(0, .ref a0), (1, .int p1), (2, .int p2), (3, .int (i1 + (1 : Int32)))]) [1, 2, 3, 0] rfl ?_
    exact hr3 (i1 + (1 : Int32)) h8
def f_X7_back (a0 : Nat) (h : Hp) : Option (Int32 × Hp) :=
  bnd (gO h a0 7) fun _ => bnd (gI h a0 7 7) fun x1 => if x1 = 0 then (some ((-2 : Int32), h)) else (bnd (gI h a0 7 7) fun x3 => bnd (f_X7_copies a0 x3 (0 : Int32) h) fun h4 => bnd (gI h4 a0 7 7) fun x5 => bnd (pF h4 a0 7 7 (.int (x5 - (1 : Int32)))) fun h6 => bnd (pF h6 a0 7 9 (.int (0 : Int32))) fun h7 => bnd (pF h7 a0 7 8 (.int (0 : Int32))) fun h8 => bnd (gI h8 a0 7 7) fun x9 => some (x9, h8))
set_option maxHeartbeats 4000000 in
set_option maxRecDepth 100000 in
theorem c_X7_back (l : Launch) (D : hD) (a0 : Nat) (h : Hp) (x : (Int32 × Hp)) (e : f_X7_back a0 h = some x) : (∃ fs, gO h a0 7 = some fs) ∧ Ct l D yX7_back cX7_back 1 (some .int) 1 23 [.ref a0] h (some (.int x.1)) x.2 := by
  obtain ⟨fs, g1, g2⟩ := bnd_some e
  refine ⟨⟨fs, g1⟩, ?_⟩
  refine ct_of (out := oI) g2 (by decide +kernel) rfl (fun B C hin hl hd => ?_)
  subst hl; subst hd
  show J B _ _ h 0 [(0, .ref a0)] []
  refine j_aload_n C dX7_back_0 0 rfl rfl ?_
  refine j_getI C wfl_X7_104 dX7_back_1 (fun x1 => ?_)
  refine j_if_ne C 10 dX7_back_4 (by decide) (fun c2 => ?_) (fun c2 => ?_)
  · refine j_aload_n C dX7_back_10 0 rfl rfl ?_
    refine j_aload_n C dX7_back_11 0 rfl rfl ?_
    refine j_getI C wfl_X7_104 dX7_back_12 (fun x3 => ?_)
    refine j_iconst C (0 : Int32) dX7_back_15 (by decide) ?_
    refine j_cV (st := []) (fun x e => ⟨runsV C wml_X7_131 wce_X7_copies (c_X7_copies (bL B) (bD B) _ _ _ _ x e).1 rfl rfl rfl rfl rfl dX7_back_16, (c_X7_copies (bL B) (bD B) _ _ _ _ x e).2⟩) (fun h4 => ?_)
    refine j_aload_n C dX7_back_19 0 rfl rfl ?_
    refine j_dup C dX7_back_20 (fun _ => rfl) ?_
    refine j_getI C wfl_X7_104 dX7_back_21 (fun x5 => ?_)
    refine j_iconst C (1 : Int32) dX7_back_24 (by decide) ?_
    refine j_isub C dX7_back_25 ?_
    refine j_put C wfp_X7_104 dX7_back_26 ⟨_, rfl⟩ (fun h6 => ?_)
    refine j_aload_n C dX7_back_29 0 rfl rfl ?_
    refine j_iconst C (0 : Int32) dX7_back_30 (by decide) ?_
    refine j_put C wfp_X7_98 dX7_back_31 ⟨_, rfl⟩ (fun h7 => ?_)
    refine j_aload_n C dX7_back_34 0 rfl rfl ?_
    refine j_iconst C (0 : Int32) dX7_back_35 (by decide) ?_
    refine j_put C wfp_X7_101 dX7_back_36 ⟨_, rfl⟩ (fun h8 => ?_)
    refine j_aload_n C dX7_back_39 0 rfl rfl ?_
    refine j_getI C wfl_X7_104 dX7_back_40 (fun x9 => ?_)
    exact j_iret C dX7_back_43
  · refine j_bipush C (-2 : Int32) dX7_back_7 (by decide) ?_
    exact j_iret C dX7_back_9
def f_X7_cost (a0 : Nat) (h : Hp) : Option Int32 :=
  bnd (gO h a0 7) fun _ => bnd (gR h a0 7 6) fun a1 => bnd (ldI 0 h a1 (54 : Int32)) fun x2 => some x2
set_option maxHeartbeats 4000000 in
set_option maxRecDepth 100000 in
theorem c_X7_cost (l : Launch) (D : hD) (a0 : Nat) (h : Hp) (x : Int32) (e : f_X7_cost a0 h = some x) : (∃ fs, gO h a0 7 = some fs) ∧ Ct l D yX7_cost cX7_cost 1 (some .int) 0 0 [.ref a0] h (some (.int x)) h := by
  obtain ⟨fs, g1, g2⟩ := bnd_some e
  refine ⟨⟨fs, g1⟩, ?_⟩
  refine ct_of (out := (oIp h)) g2 (by decide +kernel) rfl (fun B C hin hl hd => ?_)
  subst hl; subst hd
  show J B _ _ h 0 [(0, .ref a0)] []
  refine j_aload_n C dX7_cost_0 0 rfl rfl ?_
  refine j_getR C wfl_X7_23 dX7_cost_1 (fun a1 => ?_)
  refine j_bipush C (54 : Int32) dX7_cost_4 (by decide) ?_
  refine j_iaload C dX7_cost_6 (fun x2 => ?_)
  exact j_iretp C dX7_cost_7
def f_X7_of (a0 : Nat) (p1 : Int32) (p2 : Int32) (h : Hp) : Option Int32 :=
  bnd (gO h a0 7) fun _ => bnd (gR h a0 7 6) fun a1 => bnd (ldI 0 h a1 (((5 : Int32) * p1) + p2)) fun x2 => some x2
set_option maxHeartbeats 4000000 in
set_option maxRecDepth 100000 in
theorem c_X7_of (l : Launch) (D : hD) (a0 : Nat) (p1 : Int32) (p2 : Int32) (h : Hp) (x : Int32) (e : f_X7_of a0 p1 p2 h = some x) : (∃ fs, gO h a0 7 = some fs) ∧ Ct l D yX7_of cX7_of 3 (some .int) 0 0 [.ref a0, .int p1, .int p2] h (some (.int x)) h := by
  obtain ⟨fs, g1, g2⟩ := bnd_some e
  refine ⟨⟨fs, g1⟩, ?_⟩
  refine ct_of (out := (oIp h)) g2 (by decide +kernel) rfl (fun B C hin hl hd => ?_)
  subst hl; subst hd
  show J B _ _ h 0 [(0, .ref a0), (1, .int p1), (2, .int p2)] []
  refine j_aload_n C dX7_of_0 0 rfl rfl ?_
  refine j_getR C wfl_X7_23 dX7_of_1 (fun a1 => ?_)
  refine j_iconst C (5 : Int32) dX7_of_4 (by decide) ?_
  refine j_iload_n C dX7_of_5 1 rfl rfl ?_
  refine j_imul C dX7_of_6 ?_
  refine j_iload_n C dX7_of_7 2 rfl rfl ?_
  refine j_iadd C dX7_of_8 ?_
  refine j_iaload C dX7_of_9 (fun x2 => ?_)
  exact j_iretp C dX7_of_10
def f_X7_such (a0 : Nat) (p1 : Int32) (h : Hp) : Option Int32 :=
  bnd (gO h a0 7) fun _ => wl2 (fun r3 (i1 : Int32) (i2 : Int32) => bnd (gR h a0 7 6) fun a4 => bnd (ldI 0 h a4 (50 : Int32)) fun x5 => if x5 ≤ i2 then (some i1) else (bnd (f_X7_of a0 i2 (4 : Int32) h) fun x7 => jn1 (fun (w8 : Int32) => nm (i1 + w8) fun v10 => r3 v10 (i2 + (1 : Int32))) fun k9 => if x7 = p1 then (k9 (1 : Int32)) else (k9 (0 : Int32)))) fuel (0 : Int32) (0 : Int32)
set_option maxHeartbeats 4000000 in
set_option maxRecDepth 100000 in
theorem c_X7_such (l : Launch) (D : hD) (a0 : Nat) (p1 : Int32) (h : Hp) (x : Int32) (e : f_X7_such a0 p1 h = some x) : (∃ fs, gO h a0 7 = some fs) ∧ Ct l D yX7_such cX7_such 4 (some .int) 1 22 [.ref a0, .int p1] h (some (.int x)) h := by
  obtain ⟨fs, g1, g2⟩ := bnd_some e
  refine ⟨⟨fs, g1⟩, ?_⟩
  refine ct_of (out := (oIp h)) g2 (by decide +kernel) rfl (fun B C hin hl hd => ?_)
  subst hl; subst hd
  show J B _ _ h 0 [(0, .ref a0), (1, .int p1)] []
  refine j_iconst C (0 : Int32) dX7_such_0 (by decide) ?_
  refine j_istore_n (lv' := [(2, .int (0 : Int32)), (0, .ref a0), (1, .int p1)]) C dX7_such_1 rfl rfl rfl ?_
  refine j_iconst C (0 : Int32) dX7_such_2 (by decide) ?_
  refine j_istore_n (lv' := [(3, .int (0 : Int32)), (2, .int (0 : Int32)), (0, .ref a0), (1, .int p1)]) C dX7_such_3 rfl rfl rfl ?_
  refine J.sub (lv' := [(0, .ref a0), (1, .int p1), (2, .int (0 : Int32)), (3, .int (0 : Int32))]) [2, 3, 1, 0] rfl ?_
  refine J.wl2 4 (fun (i1 : Int32) (i2 : Int32) => h) (fun (i1 : Int32) (i2 : Int32) => [(0, .ref a0), (1, .int p1), (2, .int i1), (3, .int i2)]) (fun (i1 : Int32) (i2 : Int32) => []) (fun r3 hr3 i1 i2 => ?_) fuel (0 : Int32) (0 : Int32)
  refine j_iload_n C dX7_such_4 3 rfl rfl ?_
  refine j_aload_n C dX7_such_5 0 rfl rfl ?_
  refine j_getR C wfl_X7_23 dX7_such_6 (fun a4 => ?_)
  refine j_bipush C (50 : Int32) dX7_such_9 (by decide) ?_
  refine j_iaload C dX7_such_11 (fun x5 => ?_)
  refine j_icmp_ge C 39 dX7_such_12 (by decide) (fun c6 => ?_) (fun c6 => ?_)
  · refine j_iload_n C dX7_such_39 2 rfl rfl ?_
    exact j_iretp C dX7_such_40
  · refine j_iload_n C dX7_such_15 2 rfl rfl ?_
    refine j_aload_n C dX7_such_16 0 rfl rfl ?_
    refine j_iload_n C dX7_such_17 3 rfl rfl ?_
    refine j_iconst C (4 : Int32) dX7_such_18 (by decide) ?_
    refine j_cIp (st := [.int i1]) (fun x e => ⟨runsV C wml_X7_114 wce_X7_of (c_X7_of (bL B) (bD B) _ _ _ _ x e).1 rfl rfl rfl rfl rfl dX7_such_19, (c_X7_of (bL B) (bD B) _ _ _ _ x e).2⟩) (fun x7 => ?_)
    refine j_iload_n C dX7_such_22 1 rfl rfl ?_
    refine J.jn1 31 (fun (w8 : Int32) => h) (fun (w8 : Int32) => [(0, .ref a0), (1, .int p1), (3, .int i2)]) (fun (w8 : Int32) => [.int w8, .int i1]) (fun w8 => ?_) (fun k9 hk9 => ?_)
    · refine j_iadd C dX7_such_31 ?_
      refine j_nmI (fun v10 => ?_)
      refine j_istore_n (lv' := [(2, .int v10), (0, .ref a0), (1, .int p1), (3, .int i2)]) C dX7_such_32 rfl rfl rfl ?_
      refine j_iinc (lv' := [(3, .int (i2 + (1 : Int32))), (2, .int v10), (0, .ref a0), (1, .int p1)]) C (1 : Int32) dX7_such_33 3 rfl (by decide) rfl rfl ?_
      refine j_goto C 4 dX7_such_36 (by decide) ?_
      refine J.sub (lv' := [(0, .ref a0), (1, .int p1), (2, .int v10), (3, .int (i2 + (1 : Int32)))]) [2, 3, 1, 0] rfl ?_
      exact hr3 v10 (i2 + (1 : Int32))
    refine j_icmp_ne C 30 dX7_such_23 (by decide) (fun c11 => ?_) (fun c11 => ?_)
    · refine j_iconst C (0 : Int32) dX7_such_30 (by decide) ?_
      refine J.sub (lv' := [(0, .ref a0), (1, .int p1), (3, .int i2)]) [0, 1, 3] rfl ?_
      exact hk9 (0 : Int32)
    · refine j_iconst C (1 : Int32) dX7_such_26 (by decide) ?_
      refine j_goto C 31 dX7_such_27 (by decide) ?_
      refine J.sub (lv' := [(0, .ref a0), (1, .int p1), (3, .int i2)]) [0, 1, 3] rfl ?_
      exact hk9 (1 : Int32)
def f_X7_count (a0 : Nat) (p1 : Int32) (h : Hp) : Option Int32 :=
  bnd (gO h a0 7) fun _ => sw p1 [(0, 48, bnd (gR h a0 7 6) fun a2 => bnd (ldI 0 h a2 (50 : Int32)) fun x3 => some x3), (1, 56, bnd (f_X7_such a0 (0 : Int32) h) fun x4 => some x4), (2, 62, bnd (f_X7_such a0 (1 : Int32) h) fun x5 => some x5), (3, 68, bnd (gR h a0 7 6) fun a6 => bnd (ldI 0 h a6 (51 : Int32)) fun x7 => some x7), (4, 76, bnd (gI h a0 7 9) fun x8 => some x8), (5, 81, bnd (gI h a0 7 8) fun x9 => some x9), (6, 86, bnd (gI h a0 7 7) fun x10 => some x10), (7, 91, bnd (gI h a0 7 0) fun x11 => some x11)] (some (-1 : Int32))
set_option maxHeartbeats 4000000 in
set_option maxRecDepth 100000 in
theorem c_X7_count (l : Launch) (D : hD) (a0 : Nat) (p1 : Int32) (h : Hp) (x : Int32) (e : f_X7_count a0 p1 h = some x) : (∃ fs, gO h a0 7 = some fs) ∧ Ct l D yX7_count cX7_count 2 (some .int) 2 45 [.ref a0, .int p1] h (some (.int x)) h := by
  obtain ⟨fs, g1, g2⟩ := bnd_some e
  refine ⟨⟨fs, g1⟩, ?_⟩
  refine ct_of (out := (oIp h)) g2 (by decide +kernel) rfl (fun B C hin hl hd => ?_)
  subst hl; subst hd
  show J B _ _ h 0 [(0, .ref a0), (1, .int p1)] []
  refine j_iload_n C dX7_count_0 1 rfl rfl ?_
  refine j_table C 96 [(0, 48), (1, 56), (2, 62), (3, 68), (4, 76), (5, 81), (6, 86), (7, 91)] dX7_count_1 rfl (by decide) (by decide) (by decide) ?_ ?_
  · refine ⟨fun c1 => ?_, fun c1 => ?_, fun c1 => ?_, fun c1 => ?_, fun c1 => ?_, fun c1 => ?_, fun c1 => ?_, fun c1 => ?_, trivial⟩
    · dsimp only
      refine j_aload_n C dX7_count_48 0 rfl rfl ?_
      refine j_getR C wfl_X7_23 dX7_count_49 (fun a2 => ?_)
      refine j_bipush C (50 : Int32) dX7_count_52 (by decide) ?_
      refine j_iaload C dX7_count_54 (fun x3 => ?_)
      exact j_iretp C dX7_count_55
    · dsimp only
      refine j_aload_n C dX7_count_56 0 rfl rfl ?_
      refine j_iconst C (0 : Int32) dX7_count_57 (by decide) ?_
      refine j_cIp (st := []) (fun x e => ⟨runsV C wml_X7_220 wce_X7_such (c_X7_such (bL B) (bD B) _ _ _ x e).1 rfl rfl rfl rfl rfl dX7_count_58, (c_X7_such (bL B) (bD B) _ _ _ x e).2⟩) (fun x4 => ?_)
      exact j_iretp C dX7_count_61
    · dsimp only
      refine j_aload_n C dX7_count_62 0 rfl rfl ?_
      refine j_iconst C (1 : Int32) dX7_count_63 (by decide) ?_
      refine j_cIp (st := []) (fun x e => ⟨runsV C wml_X7_220 wce_X7_such (c_X7_such (bL B) (bD B) _ _ _ x e).1 rfl rfl rfl rfl rfl dX7_count_64, (c_X7_such (bL B) (bD B) _ _ _ x e).2⟩) (fun x5 => ?_)
      exact j_iretp C dX7_count_67
    · dsimp only
      refine j_aload_n C dX7_count_68 0 rfl rfl ?_
      refine j_getR C wfl_X7_23 dX7_count_69 (fun a6 => ?_)
      refine j_bipush C (51 : Int32) dX7_count_72 (by decide) ?_
      refine j_iaload C dX7_count_74 (fun x7 => ?_)
      exact j_iretp C dX7_count_75
    · dsimp only
      refine j_aload_n C dX7_count_76 0 rfl rfl ?_
      refine j_getI C wfl_X7_98 dX7_count_77 (fun x8 => ?_)
      exact j_iretp C dX7_count_80
    · dsimp only
      refine j_aload_n C dX7_count_81 0 rfl rfl ?_
      refine j_getI C wfl_X7_101 dX7_count_82 (fun x9 => ?_)
      exact j_iretp C dX7_count_85
    · dsimp only
      refine j_aload_n C dX7_count_86 0 rfl rfl ?_
      refine j_getI C wfl_X7_104 dX7_count_87 (fun x10 => ?_)
      exact j_iretp C dX7_count_90
    · dsimp only
      refine j_aload_n C dX7_count_91 0 rfl rfl ?_
      refine j_getI C wfl_X7_73 dX7_count_92 (fun x11 => ?_)
      exact j_iretp C dX7_count_95
  · refine j_iconst C (-1 : Int32) dX7_count_96 (by decide) ?_
    exact j_iretp C dX7_count_97
def f_X7_begins (a0 : Nat) (h : Hp) : Option Hp :=
  bnd (gO h a0 7) fun _ => bnd (gR h a0 7 4) fun a1 => bnd (stI 0 h a1 (1 : Int32) (0 : Int32)) fun h2 => bnd (gR h2 a0 7 3) fun a3 => bnd (stI 0 h2 a3 (2 : Int32) (0 : Int32)) fun h4 => bnd (gR h4 a0 7 3) fun a5 => bnd (stI 0 h4 a5 (3 : Int32) (5 : Int32)) fun h6 => wl2 (fun r9 (i7 : Int32) (h8 : Hp) => if (32 : Int32) ≤ i7 then (some h8) else (bnd (gR h8 a0 7 5) fun a11 => bnd (stI 0 h8 a11 i7 (0 : Int32)) fun h12 => r9 (i7 + (1 : Int32)) h12)) fuel (0 : Int32) h6
set_option maxHeartbeats 4000000 in
set_option maxRecDepth 100000 in
theorem c_X7_begins (l : Launch) (D : hD) (a0 : Nat) (h : Hp) (x : Hp) (e : f_X7_begins a0 h = some x) : (∃ fs, gO h a0 7 = some fs) ∧ Ct l D yX7_begins cX7_begins 2 none 0 0 [.ref a0] h none x := by
  obtain ⟨fs, g1, g2⟩ := bnd_some e
  refine ⟨⟨fs, g1⟩, ?_⟩
  refine ct_of (out := oV) g2 (by decide +kernel) rfl (fun B C hin hl hd => ?_)
  subst hl; subst hd
  show J B _ _ h 0 [(0, .ref a0)] []
  refine j_aload_n C dX7_begins_0 0 rfl rfl ?_
  refine j_getR C wfl_X7_17 dX7_begins_1 (fun a1 => ?_)
  refine j_iconst C (1 : Int32) dX7_begins_4 (by decide) ?_
  refine j_iconst C (0 : Int32) dX7_begins_5 (by decide) ?_
  refine j_iastore C dX7_begins_6 (fun h2 => ?_)
  refine j_aload_n C dX7_begins_7 0 rfl rfl ?_
  refine j_getR C wfl_X7_13 dX7_begins_8 (fun a3 => ?_)
  refine j_iconst C (2 : Int32) dX7_begins_11 (by decide) ?_
  refine j_iconst C (0 : Int32) dX7_begins_12 (by decide) ?_
  refine j_iastore C dX7_begins_13 (fun h4 => ?_)
  refine j_aload_n C dX7_begins_14 0 rfl rfl ?_
  refine j_getR C wfl_X7_13 dX7_begins_15 (fun a5 => ?_)
  refine j_iconst C (3 : Int32) dX7_begins_18 (by decide) ?_
  refine j_iconst C (5 : Int32) dX7_begins_19 (by decide) ?_
  refine j_iastore C dX7_begins_20 (fun h6 => ?_)
  refine j_iconst C (0 : Int32) dX7_begins_21 (by decide) ?_
  refine j_istore_n (lv' := [(1, .int (0 : Int32)), (0, .ref a0)]) C dX7_begins_22 rfl rfl rfl ?_
  refine J.sub (lv' := [(0, .ref a0), (1, .int (0 : Int32))]) [1, 0] rfl ?_
  refine J.wl2 23 (fun (i7 : Int32) (h8 : Hp) => h8) (fun (i7 : Int32) (h8 : Hp) => [(0, .ref a0), (1, .int i7)]) (fun (i7 : Int32) (h8 : Hp) => []) (fun r9 hr9 i7 h8 => ?_) fuel (0 : Int32) h6
  refine j_iload_n C dX7_begins_23 1 rfl rfl ?_
  refine j_bipush C (32 : Int32) dX7_begins_24 (by decide) ?_
  refine j_icmp_ge C 42 dX7_begins_26 (by decide) (fun c10 => ?_) (fun c10 => ?_)
  · exact j_vret C dX7_begins_42
  · refine j_aload_n C dX7_begins_29 0 rfl rfl ?_
    refine j_getR C wfl_X7_20 dX7_begins_30 (fun a11 => ?_)
    refine j_iload_n C dX7_begins_33 1 rfl rfl ?_
    refine j_iconst C (0 : Int32) dX7_begins_34 (by decide) ?_
    refine j_iastore C dX7_begins_35 (fun h12 => ?_)
    refine j_iinc (lv' := [(1, .int (i7 + (1 : Int32))), (0, .ref a0)]) C (1 : Int32) dX7_begins_36 1 rfl (by decide) rfl rfl ?_
    refine j_goto C 23 dX7_begins_39 (by decide) ?_
    refine J.sub (lv' := [(0, .ref a0), (1, .int (i7 + (1 : Int32)))]) [1, 0] rfl ?_
    exact hr9 (i7 + (1 : Int32)) h12
def f_X7_in (p1 : Int64) (p2 : Int64) (p3 : Int64) : Option Int32 :=
  jn1 (fun (w1 : Int32) => rZp w1) fun k2 => jn0 (k2 (0 : Int32)) fun k3 => if (lg_cmp p1 p2) < 0 then k3 else (if 0 < (lg_cmp p1 p3) then k3 else (k2 (1 : Int32)))
set_option maxHeartbeats 4000000 in
set_option maxRecDepth 100000 in
theorem c_X7_in (l : Launch) (D : hD) (p1 : Int64) (p2 : Int64) (p3 : Int64) (h : Hp) (x : Int32) (e : f_X7_in p1 p2 p3 = some x) : Ct l D yX7_in cX7_in 6 (some .boolean) 0 0 [.long p1, .long p2, .long p3] h (some (.int x)) h := by
  unfold f_X7_in at e
  refine ct_of (out := (oIp h)) e (by decide +kernel) rfl (fun B C hin hl hd => ?_)
  subst hl; subst hd
  show J B _ _ h 0 [(0, .long p1), (2, .long p2), (4, .long p3)] []
  refine j_lload_n C dX7_in_0 0 rfl rfl ?_
  refine j_lload_n C dX7_in_1 1 rfl rfl ?_
  refine j_lcmp C dX7_in_2 ?_
  refine J.jn1 18 (fun (w1 : Int32) => h) (fun (w1 : Int32) => []) (fun (w1 : Int32) => [.int w1]) (fun w1 => ?_) (fun k2 hk2 => ?_)
  · exact j_zretp C dX7_in_18
  refine J.jn0 (h0 := h) (lv0 := []) (st0 := []) 17 ?_ (fun k3 hk3 => ?_)
  · refine j_iconst C (0 : Int32) dX7_in_17 (by decide) ?_
    exact hk2 (0 : Int32)
  refine j_if_lt C 17 dX7_in_3 (by decide) (fun c4 => ?_) (fun c4 => ?_)
  · refine J.sub (lv' := []) [] rfl ?_
    exact hk3
  · refine j_lload_n C dX7_in_6 0 rfl rfl ?_
    refine j_lload C dX7_in_7 2 rfl ?_
    refine j_lcmp C dX7_in_9 ?_
    refine j_if_gt C 17 dX7_in_10 (by decide) (fun c5 => ?_) (fun c5 => ?_)
    · refine J.sub (lv' := []) [] rfl ?_
      exact hk3
    · refine j_iconst C (1 : Int32) dX7_in_13 (by decide) ?_
      refine j_goto C 18 dX7_in_14 (by decide) ?_
      refine J.sub (lv' := []) [] rfl ?_
      exact hk2 (1 : Int32)
def f_X7_isGood (a0 : Nat) (p1 : Int32) (h : Hp) : Option (Int32 × Hp) :=
  bnd (gO h a0 7) fun _ => if p1 = (115 : Int32) then (bnd (gR h a0 7 20) fun a17 => bnd (ldI 0 h a17 (0 : Int32)) fun x18 => bnd (f_X7_in x18.toInt64 (0 : Int64) (4 : Int64)) fun x19 => jn1 (fun (w20 : Int32) => wl2 (fun r24 (i22 : Int32) (h23 : Hp) => jn0 (bnd (gR h23 a0 7 4) fun a26 => bnd (ldI 0 h23 a26 (1 : Int32)) fun x27 => jn1 (fun (w28 : Int32) => bnd (stI 0 h23 a26 (1 : Int32) (x27 + w28)) fun h30 => rZ w20 h30) fun k29 => if w20 = 0 then (k29 (0 : Int32)) else (k29 (1 : Int32))) fun k25 => if (4 : Int32) ≤ i22 then k25 else (if w20 = 0 then k25 else (bnd (gR h23 a0 7 5) fun a34 => bnd (gR h23 a0 7 4) fun a35 => bnd (ldI 0 h23 a35 (1 : Int32)) fun x36 => bnd (gR h23 a0 7 20) fun a37 => bnd (ldI 0 h23 a37 i22) fun x38 => bnd (stI 0 h23 a34 (((4 : Int32) * x36) + i22) x38) fun h39 => r24 (i22 + (1 : Int32)) h39))) fuel (0 : Int32) h) fun k21 => jn0 (k21 (0 : Int32)) fun k40 => if x19 = 0 then k40 else (bnd (gR h a0 7 20) fun a42 => bnd (ldI 0 h a42 (1 : Int32)) fun x43 => bnd (f_X7_in x43.toInt64 (1 : Int64) (9 : Int64)) fun x44 => if x44 = 0 then k40 else (bnd (gR h a0 7 20) fun a46 => bnd (ldI 0 h a46 (2 : Int32)) fun x47 => bnd (f_X7_in x47.toInt64 (0 : Int64) (4 : Int64)) fun x48 => if x48 = 0 then k40 else (bnd (gR h a0 7 4) fun a50 => bnd (ldI 0 h a50 (1 : Int32)) fun x51 => if (8 : Int32) ≤ x51 then k40 else (k21 (1 : Int32)))))) else (bnd (gR h a0 7 3) fun a2 => jn1 (fun (w3 : Int32) => bnd (gR h a0 7 20) fun a5 => bnd (ldI 0 h a5 (0 : Int32)) fun x6 => bnd (stI 0 h a2 w3 x6) fun h7 => jn1 (fun (w8 : Int32) => rZ w8 h7) fun k9 => jn0 (k9 (1 : Int32)) fun k10 => if p1 = (99 : Int32) then k10 else (bnd (gR h7 a0 7 20) fun a12 => bnd (ldI 0 h7 a12 (0 : Int32)) fun x13 => bnd (f_X7_in x13.toInt64 (0 : Int64) (1 : Int64)) fun x14 => if x14 = 0 then (k9 (0 : Int32)) else k10)) fun k4 => if p1 = (108 : Int32) then (k4 (2 : Int32)) else (k4 (3 : Int32)))
set_option maxHeartbeats 4000000 in
set_option maxRecDepth 100000 in
theorem c_X7_isGood (l : Launch) (D : hD) (a0 : Nat) (p1 : Int32) (h : Hp) (x : (Int32 × Hp)) (e : f_X7_isGood a0 p1 h = some x) : (∃ fs, gO h a0 7 = some fs) ∧ Ct l D yX7_isGood cX7_isGood 4 (some .boolean) 1 25 [.ref a0, .int p1] h (some (.int x.1)) x.2 := by
  obtain ⟨fs, g1, g2⟩ := bnd_some e
  refine ⟨⟨fs, g1⟩, ?_⟩
  refine ct_of (out := oI) g2 (by decide +kernel) rfl (fun B C hin hl hd => ?_)
  subst hl; subst hd
  show J B _ _ h 0 [(0, .ref a0), (1, .int p1)] []
  refine j_iload_n C dX7_isGood_0 1 rfl rfl ?_
  refine j_bipush C (115 : Int32) dX7_isGood_1 (by decide) ?_
  refine j_icmp_ne C 132 dX7_isGood_3 (by decide) (fun c1 => ?_) (fun c1 => ?_)
  · refine j_aload_n C dX7_isGood_132 0 rfl rfl ?_
    refine j_getR C wfl_X7_13 dX7_isGood_133 (fun a2 => ?_)
    refine j_iload_n C dX7_isGood_136 1 rfl rfl ?_
    refine j_bipush C (108 : Int32) dX7_isGood_137 (by decide) ?_
    refine J.jn1 147 (fun (w3 : Int32) => h) (fun (w3 : Int32) => [(0, .ref a0), (1, .int p1)]) (fun (w3 : Int32) => [.int w3, .ref a2]) (fun w3 => ?_) (fun k4 hk4 => ?_)
    · refine j_aload_n C dX7_isGood_147 0 rfl rfl ?_
      refine j_getR C wfl_X7_54 dX7_isGood_148 (fun a5 => ?_)
      refine j_iconst C (0 : Int32) dX7_isGood_151 (by decide) ?_
      refine j_iaload C dX7_isGood_152 (fun x6 => ?_)
      refine j_iastore C dX7_isGood_153 (fun h7 => ?_)
      refine j_iload_n C dX7_isGood_154 1 rfl rfl ?_
      refine j_bipush C (99 : Int32) dX7_isGood_155 (by decide) ?_
      refine J.jn1 180 (fun (w8 : Int32) => h7) (fun (w8 : Int32) => []) (fun (w8 : Int32) => [.int w8]) (fun w8 => ?_) (fun k9 hk9 => ?_)
      · exact j_zret C dX7_isGood_180
      refine J.jn0 (h0 := h7) (lv0 := []) (st0 := []) 175 ?_ (fun k10 hk10 => ?_)
      · refine j_iconst C (1 : Int32) dX7_isGood_175 (by decide) ?_
        refine j_goto C 180 dX7_isGood_176 (by decide) ?_
        exact hk9 (1 : Int32)
      refine j_icmp_eq C 175 dX7_isGood_157 (by decide) (fun c11 => ?_) (fun c11 => ?_)
      · refine J.sub (lv' := []) [] rfl ?_
        exact hk10
      · refine j_aload_n C dX7_isGood_160 0 rfl rfl ?_
        refine j_getR C wfl_X7_54 dX7_isGood_161 (fun a12 => ?_)
        refine j_iconst C (0 : Int32) dX7_isGood_164 (by decide) ?_
        refine j_iaload C dX7_isGood_165 (fun x13 => ?_)
        refine j_i2l C dX7_isGood_166 ?_
        refine j_lconst C (0 : Int64) dX7_isGood_167 (by decide) ?_
        refine j_lconst C (1 : Int64) dX7_isGood_168 (by decide) ?_
        refine j_cIp (st := []) (fun x e => ⟨runsS C wml_X7_69 wce_X7_in rfl rfl rfl rfl rfl dX7_isGood_169, c_X7_in (bL B) (bD B) _ _ _ _ x e⟩) (fun x14 => ?_)
        refine j_if_eq C 179 dX7_isGood_172 (by decide) (fun c15 => ?_) (fun c15 => ?_)
        · refine j_iconst C (0 : Int32) dX7_isGood_179 (by decide) ?_
          refine J.sub (lv' := []) [] rfl ?_
          exact hk9 (0 : Int32)
        · refine J.sub (lv' := []) [] rfl ?_
          exact hk10
    refine j_icmp_ne C 146 dX7_isGood_139 (by decide) (fun c16 => ?_) (fun c16 => ?_)
    · refine j_iconst C (3 : Int32) dX7_isGood_146 (by decide) ?_
      exact hk4 (3 : Int32)
    · refine j_iconst C (2 : Int32) dX7_isGood_142 (by decide) ?_
      refine j_goto C 147 dX7_isGood_143 (by decide) ?_
      exact hk4 (2 : Int32)
  · refine j_aload_n C dX7_isGood_6 0 rfl rfl ?_
    refine j_getR C wfl_X7_54 dX7_isGood_7 (fun a17 => ?_)
    refine j_iconst C (0 : Int32) dX7_isGood_10 (by decide) ?_
    refine j_iaload C dX7_isGood_11 (fun x18 => ?_)
    refine j_i2l C dX7_isGood_12 ?_
    refine j_lconst C (0 : Int64) dX7_isGood_13 (by decide) ?_
    refine j_ldc2_w C dX7_isGood_14 wcl_X7_94 ?_
    refine j_cIp (st := []) (fun x e => ⟨runsS C wml_X7_69 wce_X7_in rfl rfl rfl rfl rfl dX7_isGood_17, c_X7_in (bL B) (bD B) _ _ _ _ x e⟩) (fun x19 => ?_)
    refine J.jn1 73 (fun (w20 : Int32) => h) (fun (w20 : Int32) => [(0, .ref a0)]) (fun (w20 : Int32) => [.int w20]) (fun w20 => ?_) (fun k21 hk21 => ?_)
    · refine j_istore_n (lv' := [(2, .int w20), (0, .ref a0)]) C dX7_isGood_73 rfl rfl rfl ?_
      refine j_iconst C (0 : Int32) dX7_isGood_74 (by decide) ?_
      refine j_istore_n (lv' := [(3, .int (0 : Int32)), (2, .int w20), (0, .ref a0)]) C dX7_isGood_75 rfl rfl rfl ?_
      refine J.sub (lv' := [(0, .ref a0), (2, .int w20), (3, .int (0 : Int32))]) [2, 1, 0] rfl ?_
      refine J.wl2 76 (fun (i22 : Int32) (h23 : Hp) => h23) (fun (i22 : Int32) (h23 : Hp) => [(0, .ref a0), (2, .int w20), (3, .int i22)]) (fun (i22 : Int32) (h23 : Hp) => []) (fun r24 hr24 i22 h23 => ?_) fuel (0 : Int32) h
      refine j_iload_n C dX7_isGood_76 2 rfl rfl ?_
      refine j_iconst C (4 : Int32) dX7_isGood_77 (by decide) ?_
      refine J.jn0 (h0 := h23) (lv0 := [(0, .ref a0), (2, .int w20)]) (st0 := []) 112 ?_ (fun k25 hk25 => ?_)
      · refine j_aload_n C dX7_isGood_112 0 rfl rfl ?_
        refine j_getR C wfl_X7_17 dX7_isGood_113 (fun a26 => ?_)
        refine j_iconst C (1 : Int32) dX7_isGood_116 (by decide) ?_
        refine j_dup2 C dX7_isGood_117 rfl rfl ?_
        refine j_iaload C dX7_isGood_118 (fun x27 => ?_)
        refine j_iload_n C dX7_isGood_119 1 rfl rfl ?_
        refine J.jn1 128 (fun (w28 : Int32) => h23) (fun (w28 : Int32) => [(2, .int w20)]) (fun (w28 : Int32) => [.int w28, .int x27, .int (1 : Int32), .ref a26]) (fun w28 => ?_) (fun k29 hk29 => ?_)
        · refine j_iadd C dX7_isGood_128 ?_
          refine j_iastore C dX7_isGood_129 (fun h30 => ?_)
          refine j_iload_n C dX7_isGood_130 0 rfl rfl ?_
          exact j_zret C dX7_isGood_131
        refine j_if_eq C 127 dX7_isGood_120 (by decide) (fun c31 => ?_) (fun c31 => ?_)
        · refine j_iconst C (0 : Int32) dX7_isGood_127 (by decide) ?_
          refine J.sub (lv' := [(2, .int w20)]) [1] rfl ?_
          exact hk29 (0 : Int32)
        · refine j_iconst C (1 : Int32) dX7_isGood_123 (by decide) ?_
          refine j_goto C 128 dX7_isGood_124 (by decide) ?_
          refine J.sub (lv' := [(2, .int w20)]) [1] rfl ?_
          exact hk29 (1 : Int32)
      refine j_icmp_ge C 112 dX7_isGood_78 (by decide) (fun c32 => ?_) (fun c32 => ?_)
      · refine J.sub (lv' := [(0, .ref a0), (2, .int w20)]) [0, 1] rfl ?_
        exact hk25
      · refine j_iload_n C dX7_isGood_81 1 rfl rfl ?_
        refine j_if_eq C 112 dX7_isGood_82 (by decide) (fun c33 => ?_) (fun c33 => ?_)
        · refine J.sub (lv' := [(0, .ref a0), (2, .int w20)]) [0, 1] rfl ?_
          exact hk25
        · refine j_aload_n C dX7_isGood_85 0 rfl rfl ?_
          refine j_getR C wfl_X7_20 dX7_isGood_86 (fun a34 => ?_)
          refine j_iconst C (4 : Int32) dX7_isGood_89 (by decide) ?_
          refine j_aload_n C dX7_isGood_90 0 rfl rfl ?_
          refine j_getR C wfl_X7_17 dX7_isGood_91 (fun a35 => ?_)
          refine j_iconst C (1 : Int32) dX7_isGood_94 (by decide) ?_
          refine j_iaload C dX7_isGood_95 (fun x36 => ?_)
          refine j_imul C dX7_isGood_96 ?_
          refine j_iload_n C dX7_isGood_97 2 rfl rfl ?_
          refine j_iadd C dX7_isGood_98 ?_
          refine j_aload_n C dX7_isGood_99 0 rfl rfl ?_
          refine j_getR C wfl_X7_54 dX7_isGood_100 (fun a37 => ?_)
          refine j_iload_n C dX7_isGood_103 2 rfl rfl ?_
          refine j_iaload C dX7_isGood_104 (fun x38 => ?_)
          refine j_iastore C dX7_isGood_105 (fun h39 => ?_)
          refine j_iinc (lv' := [(3, .int (i22 + (1 : Int32))), (0, .ref a0), (2, .int w20)]) C (1 : Int32) dX7_isGood_106 2 rfl (by decide) rfl rfl ?_
          refine j_goto C 76 dX7_isGood_109 (by decide) ?_
          refine J.sub (lv' := [(0, .ref a0), (2, .int w20), (3, .int (i22 + (1 : Int32)))]) [1, 2, 0] rfl ?_
          exact hr24 (i22 + (1 : Int32)) h39
    refine J.jn0 (h0 := h) (lv0 := [(0, .ref a0)]) (st0 := []) 72 ?_ (fun k40 hk40 => ?_)
    · refine j_iconst C (0 : Int32) dX7_isGood_72 (by decide) ?_
      exact hk21 (0 : Int32)
    refine j_if_eq C 72 dX7_isGood_20 (by decide) (fun c41 => ?_) (fun c41 => ?_)
    · refine J.sub (lv' := [(0, .ref a0)]) [0] rfl ?_
      exact hk40
    · refine j_aload_n C dX7_isGood_23 0 rfl rfl ?_
      refine j_getR C wfl_X7_54 dX7_isGood_24 (fun a42 => ?_)
      refine j_iconst C (1 : Int32) dX7_isGood_27 (by decide) ?_
      refine j_iaload C dX7_isGood_28 (fun x43 => ?_)
      refine j_i2l C dX7_isGood_29 ?_
      refine j_lconst C (1 : Int64) dX7_isGood_30 (by decide) ?_
      refine j_ldc2_w C dX7_isGood_31 wcl_X7_96 ?_
      refine j_cIp (st := []) (fun x e => ⟨runsS C wml_X7_69 wce_X7_in rfl rfl rfl rfl rfl dX7_isGood_34, c_X7_in (bL B) (bD B) _ _ _ _ x e⟩) (fun x44 => ?_)
      refine j_if_eq C 72 dX7_isGood_37 (by decide) (fun c45 => ?_) (fun c45 => ?_)
      · refine J.sub (lv' := [(0, .ref a0)]) [0] rfl ?_
        exact hk40
      · refine j_aload_n C dX7_isGood_40 0 rfl rfl ?_
        refine j_getR C wfl_X7_54 dX7_isGood_41 (fun a46 => ?_)
        refine j_iconst C (2 : Int32) dX7_isGood_44 (by decide) ?_
        refine j_iaload C dX7_isGood_45 (fun x47 => ?_)
        refine j_i2l C dX7_isGood_46 ?_
        refine j_lconst C (0 : Int64) dX7_isGood_47 (by decide) ?_
        refine j_ldc2_w C dX7_isGood_48 wcl_X7_94 ?_
        refine j_cIp (st := []) (fun x e => ⟨runsS C wml_X7_69 wce_X7_in rfl rfl rfl rfl rfl dX7_isGood_51, c_X7_in (bL B) (bD B) _ _ _ _ x e⟩) (fun x48 => ?_)
        refine j_if_eq C 72 dX7_isGood_54 (by decide) (fun c49 => ?_) (fun c49 => ?_)
        · refine J.sub (lv' := [(0, .ref a0)]) [0] rfl ?_
          exact hk40
        · refine j_aload_n C dX7_isGood_57 0 rfl rfl ?_
          refine j_getR C wfl_X7_17 dX7_isGood_58 (fun a50 => ?_)
          refine j_iconst C (1 : Int32) dX7_isGood_61 (by decide) ?_
          refine j_iaload C dX7_isGood_62 (fun x51 => ?_)
          refine j_bipush C (8 : Int32) dX7_isGood_63 (by decide) ?_
          refine j_icmp_ge C 72 dX7_isGood_65 (by decide) (fun c52 => ?_) (fun c52 => ?_)
          · refine J.sub (lv' := [(0, .ref a0)]) [0] rfl ?_
            exact hk40
          · refine j_iconst C (1 : Int32) dX7_isGood_68 (by decide) ?_
            refine j_goto C 73 dX7_isGood_69 (by decide) ?_
            refine J.sub (lv' := [(0, .ref a0)]) [0] rfl ?_
            exact hk21 (1 : Int32)
