/-! THE CLAIM OUT OF ONE WALK OF THE LAW'S BODY. Your part is whole_start (and what it stands on); all else here is the same for every law, but numbers. -/
def R_law : String := "MixedMillLaw"
def lw_P (b : Addr) (xs : List Int32) (args : Array Value) (s : State) : Prop := args = #[.ref b] ∧ s.IntsAt b xs ∧ xs.length ≤ 2048 ∧ (Jvm.Cond.and given_1 narrow_1).before args s = true
def lw_Q (_ : Array Value) (s : State) (o : Outcome) (t : State) : Prop := o = .returned (some (.int 1)) ∧ Framed s o t [] 600000 rmS
def lw_Z (below : List Frame) (a : Array Value) (s : State) : State → Prop := fun t => ∃ o, t.status = .running ∧ Ended t below o ∧ lw_Q a s o t
/-- the law's own end, with 1 on the stack, nothing written that was there before, its room as the claim has it -/
theorem lw_ret {p : Program} {l : Launch} {e : Env} {s : State} {m : MethodId} {below : List Frame} {meth : Method} {c : Code} {b : Nat} (hx : p.tables.exec = Jvm.exec) (hb : c.code = code) (hr : meth.sig.returnType = ret) (hlocks : meth.locks = false) {pc : Nat} {H : Heap} {ls : Array Slot} (hdg : decode code pc = .ok (.ireturn, 1)) : W p l e room_1 s m #[Value.ref b] below meth c H [] 600000 rmS (lw_Z below #[Value.ref b] s) (F0 m pc ls [.int 1]) := by
  intro T hT X
  obtain ⟨fs, hret, hrun, hended, hW, hframe⟩ := X.leave (v := some (.int 1)) (hlocks := hlocks) (fun h => by rw [hr] at h; cases h)
  have hmeth' : T.vm.method? m = some meth := X.method'
  refine ⟨T.setFrames fs, ?_, .returned (some (.int 1)), hrun, hended, rfl, ⟨_, rfl⟩, hW, hframe⟩
  jvm_step X.here [X.here.top, hx, hb, hdg, hmeth', hr, ret, narrow_b1]
  (try refine ⟨rfl, ?_⟩); (try refine ⟨rfl, ?_⟩)
  first | (intro acts; rw [hret _ acts rfl rfl rfl]) | rw [hret _ _ rfl rfl rfl]
  exact Steps.refl _
/-- what holds at the law's entry: the machine, the code, the tables' words (any of lw_tbl by 'hts w (by decide +kernel)'), the script of L ints xs at the cell b, what the Statement gives of the start (any of its parts by flat_of_before) -/
def lw_At (p : Program) (s : State) (m : MethodId) (meth : Method) (c : Code) (b L : Nat) (xs : Nat → Int32) : Prop :=
  p.tables.exec = Jvm.exec ∧ c.code = code ∧ meth.sig.returnType = ret ∧ c.maxLocals = 4 ∧ s.vm.findClass R_law = some m.cls ∧ (∀ w ∈ lw_tbl, w.before #[Value.ref b] s = true) ∧ va_X b L xs s s.heap ∧ b < s.heap.size ∧ meth.locks = false ∧ (Jvm.Cond.and given_1 narrow_1).before #[Value.ref b] s = true
-- ===== YOUR PART BEGINS =====
/-! ===== rows for the law's own script ===== -/
def rdS (L : Nat) (xs : Nat → Int32) (i : Int32) : Option Int32 := if i < 0 ∨ L ≤ i.toNatClampNeg then none else some (xs i.toNatClampNeg)
/-- the script lies below the start -/
def L_X (B : Bx) (b L : Nat) (xs : Nat → Int32) : Prop := va_X b L xs (bS B) (bD B).2.2.2 ∧ b < hz (bD B)
/-- it is the law's own walk -/
def L_S (B : Bx) (b : Nat) : Prop := (bS B).heap = (bD B).2.2.2 ∧ bA B = #[Value.ref b] ∧ bR B = room_1
def L_Q (B : Bx) (b : Nat) (r : Int32 × Hp) : State → Prop := fun t => r.1 = 1 → lw_Z (bBel B) #[Value.ref b] (bS B) t
section LW
variable {ρ : Type} {B : Bx} {Qf : ρ → State → Prop} {t : Option ρ} {h : Hp} {pc pc' : Nat} {lv lv' : List (Nat × Value)} {st st' : List Value} {cc : ByteArray} {own : String} {rt : Option FieldType} {nL n0 s0 kF kL : Nat} {b L : Nat} {xs : Nat → Int32}
theorem L_aload_n (C : Cx B cc own rt nL n0 s0 kF kL) {k : Fin 4} {i a : Nat} (d : decode cc pc = .ok (.aload_n k, 1)) (q : Nat) (hi : (k : Nat) = i) (hk : lv[q]? = some (i, .retAddr a)) (kk : J B Qf t h (pc + 1) lv (.retAddr a :: st)) : J B Qf t h pc lv st :=
  J.pure (fun H locs cells slots Q ls hls k => lv_aload_n C.1 C.2.1 d hi (lv_at hls q (shl_at hk)) k) kk
theorem L_alen (C : Cx B cc own rt nL n0 s0 kF kL) (hX : L_X B b L xs) (d : decode cc pc = .ok (.arraylength, 1)) (kk : J B Qf t h (pc + 1) lv (.int (Int32.ofNat L) :: st)) : J B Qf t h pc lv (.retAddr b :: st) := by
  intro r hr H locs ls hR hlo hls
  obtain ⟨⟨scr, h1, h2, h3, h4, h5⟩, hb⟩ := hX
  exact W.alen C.1 C.2.1 (by rw [hR.2.2.2.2.1 b hb]; exact h1) h2 (by rw [h4]) rfl rfl d (kk r hr H locs ls hR hlo hls)
theorem L_iaload (C : Cx B cc own rt nL n0 s0 kF kL) (hX : L_X B b L xs) {i : Int32} {u : Int32 → Option ρ} (d : decode cc pc = .ok (.iaload, 1)) (kk : ∀ x : Int32, J B Qf (u x) h (pc + 1) lv (.int x :: st)) : J B Qf (bnd (rdS L xs i) u) h pc lv (.int i :: .retAddr b :: st) := by
  intro r hr H locs ls hR hlo hls
  obtain ⟨⟨scr, h1, h2, h3, h4, h5⟩, hb⟩ := hX
  obtain ⟨x, e1, e2⟩ := bnd_some hr
  obtain ⟨e3, e4⟩ := if_none e1
  cases e4
  have hlt : i.toNatClampNeg < L := Nat.not_le.mp fun q => e3 (Or.inr q)
  exact W.iald C.1 C.2.1 (by rw [hR.2.2.2.2.1 b hb]; exact h1) h2 h3 (by rw [h4]; exact e3) (h5 _ hlt) rfl rfl d (kk _ r e2 H locs ls hR hlo hls)
theorem L_ret (C : Cx B cc own (some .boolean) nL n0 s0 kF kL) (hs0 : L_S B b) (hcc : cc = code) (hret : (some FieldType.boolean) = ret) {x : Int32} (d : decode cc pc = .ok (.ireturn, 1)) : J B (L_Q B b) (some (x, h)) h pc lv [.int x] := by
  intro r hr H locs ls hR hlo hls
  cases hr
  by_cases hx : x = 1
  · obtain ⟨h1, h2, h3⟩ := hs0
    obtain ⟨p, l, e, R, s, m, args, below, meth, c, D⟩ := B
    dsimp only [bS, bA, bR, bD, bP, bL, bE, bM, bBel, bMe, bC] at *
    subst h2; subst h3; subst hcc; subst hx
    have hsz : s.heap.size = hz D := by rw [h1]; rfl
    refine va_forget (fun q hq => by rw [hsz]; exact hlo q hq) ?_
    have hr1 := hR.1
    have hr2 := hR.2.1
    refine W.widen (k := 600000) (n := rmS) ?_ ?_ ?_
    · have := hR.2.2.1; omega
    · have := hR.2.2.2.1
      rw [h1]; omega
    · have hw := lw_ret (p := p) (l := l) (e := e) (s := s) (m := m) (below := below) (meth := meth) (c := c) (b := b) (H := H) (ls := ls) C.1 C.2.1 (C.2.2.1.trans hret) C.2.2.2.2.2.2.1 d
      intro T hT X
      obtain ⟨t, a1, b1⟩ := hw T hT X
      exact ⟨t, a1, fun _ => b1⟩
  · intro T hT X
    exact ⟨_, Steps.refl _, fun h => absurd h hx⟩
end LW

def f_L_law (L : Nat) (xs : Nat → Int32) (h : Hp) : Option (Int32 × Hp) :=
  bnd2 (nwO h 6 [.null, .int 0, .null, .null, .null, .null, .int 0, .null, .int 0, .null, .int 0, .null, .null, .null, .null]) fun a1 h2 => bnd (f_X6_init a1 h2) fun h3 => bnd2 (nwO h3 7 [.int 0, .null, .int 0, .null, .null, .null, .null, .int 0, .int 0, .int 0, .null, .null, .null, .null, .null, .int 0, .null, .null, .null, .null, .null, .null, .int 0, .int 0]) fun a4 h5 => bnd (f_X7_init a4 h5) fun h6 => wl2 (fun r9 (i7 : Int32) (h8 : Hp) => if ((Int32.ofNat L) - (4 : Int32)) < i7 then (some ((1 : Int32), h8)) else (bnd (rdS L xs i7) fun x11 => jn1 (fun (h12 : Hp) => r9 (i7 + (4 : Int32)) h12) fun k13 => sw (x11 &&& (31 : Int32)) [(0, 152, bnd (rdS L xs (i7 + (1 : Int32))) fun x15 => bnd (rdS L xs (i7 + (2 : Int32))) fun x16 => bnd (rdS L xs (i7 + (3 : Int32))) fun x17 => bnd2 (f_X6_write a1 x15 ((x16.toInt64 <<< ((32 : Int32).toInt64 &&& 63)) ||| (x17.toInt64 &&& (4294967295 : Int64))) h8) fun x18 h19 => bnd (rdS L xs (i7 + (1 : Int32))) fun x20 => bnd (rdS L xs (i7 + (2 : Int32))) fun x21 => bnd (rdS L xs (i7 + (3 : Int32))) fun x22 => bnd2 (f_X7_write a4 x20 ((x21.toInt64 <<< ((32 : Int32).toInt64 &&& 63)) ||| (x22.toInt64 &&& (4294967295 : Int64))) h19) fun x23 h24 => if x18 = x23 then (k13 h24) else (some ((0 : Int32), h24))), (1, 215, bnd2 (f_X6_wipe a1 h8) fun x26 h27 => bnd2 (f_X7_wipe a4 h27) fun x28 h29 => if x26 = x28 then (k13 h29) else (some ((0 : Int32), h29))), (2, 228, bnd2 (f_X6_fault a1 h8) fun x31 h32 => bnd2 (f_X7_fault a4 h32) fun x33 h34 => if x31 = x33 then (k13 h34) else (some ((0 : Int32), h34))), (3, 241, bnd2 (f_X6_lay a1 h8) fun x36 h37 => bnd2 (f_X7_lay a4 h37) fun x38 h39 => if x36 = x38 then (k13 h39) else (some ((0 : Int32), h39))), (4, 254, bnd (rdS L xs (i7 + (1 : Int32))) fun x41 => bnd (rdS L xs (i7 + (2 : Int32))) fun x42 => bnd (f_X6_sack a1 x41 x42 h8) fun x43 => bnd (rdS L xs (i7 + (1 : Int32))) fun x44 => bnd (rdS L xs (i7 + (2 : Int32))) fun x45 => bnd (f_X7_sack a4 x44 x45 h8) fun x46 => if x43 = x46 then (k13 h8) else (some ((0 : Int32), h8))), (5, 287, bnd (rdS L xs (i7 + (1 : Int32))) fun x48 => bnd (f_X6_may a1 x48 h8) fun x49 => bnd (rdS L xs (i7 + (1 : Int32))) fun x50 => bnd (f_X7_may a4 x50 h8) fun x51 => if x49 = x51 then (k13 h8) else (some ((0 : Int32), h8))), (6, 310, bnd (rdS L xs (i7 + (1 : Int32))) fun x53 => bnd2 (f_X6_pour a1 x53 h8) fun x54 h55 => bnd (rdS L xs (i7 + (1 : Int32))) fun x56 => bnd2 (f_X7_pour a4 x56 h55) fun x57 h58 => if x54 = x57 then (k13 h58) else (some ((0 : Int32), h58))), (7, 333, bnd (rdS L xs (i7 + (1 : Int32))) fun x60 => bnd (rdS L xs (i7 + (2 : Int32))) fun x61 => bnd2 (f_X6_halve a1 x60 x61 h8) fun x62 h63 => bnd (rdS L xs (i7 + (1 : Int32))) fun x64 => bnd (rdS L xs (i7 + (2 : Int32))) fun x65 => bnd2 (f_X7_halve a4 x64 x65 h63) fun x66 h67 => if x62 = x66 then (k13 h67) else (some ((0 : Int32), h67))), (8, 366, bnd (rdS L xs (i7 + (1 : Int32))) fun x69 => bnd2 (f_X6_sell a1 x69 h8) fun x70 h71 => bnd (rdS L xs (i7 + (1 : Int32))) fun x72 => bnd2 (f_X7_sell a4 x72 h71) fun x73 h74 => if x70 = x73 then (k13 h74) else (some ((0 : Int32), h74))), (9, 389, bnd2 (f_X6_undo a1 h8) fun x76 h77 => bnd2 (f_X7_undo a4 h77) fun x78 h79 => if x76 = x78 then (k13 h79) else (some ((0 : Int32), h79))), (10, 402, bnd (f_X6_cost a1 h8) fun x81 => bnd (f_X7_cost a4 h8) fun x82 => if x81 = x82 then (k13 h8) else (some ((0 : Int32), h8))), (11, 415, bnd (rdS L xs (i7 + (1 : Int32))) fun x84 => bnd2 (f_X6_queue a1 x84 h8) fun x85 h86 => bnd (rdS L xs (i7 + (1 : Int32))) fun x87 => bnd2 (f_X7_queue a4 x87 h86) fun x88 h89 => if x85 = x88 then (k13 h89) else (some ((0 : Int32), h89))), (12, 438, bnd2 (f_X6_noQueue a1 h8) fun x91 h92 => bnd2 (f_X7_noQueue a4 h92) fun x93 h94 => if x91 = x93 then (k13 h94) else (some ((0 : Int32), h94))), (13, 451, bnd (rdS L xs (i7 + (1 : Int32))) fun x96 => bnd (f_X6_stops a1 x96 h8) fun x97 => bnd (rdS L xs (i7 + (1 : Int32))) fun x98 => bnd (f_X7_stops a4 x98 h8) fun x99 => if x97 = x99 then (k13 h8) else (some ((0 : Int32), h8))), (14, 474, bnd2 (f_X6_orders a1 h8) fun y101 h102 => bnd2 (f_X7_orders a4 h102) fun y103 h104 => if (lg_cmp y101 y103) = 0 then (k13 h104) else (some ((0 : Int32), h104))), (15, 488, bnd (rdS L xs (i7 + (1 : Int32))) fun x106 => bnd2 (f_X6_most a1 x106 h8) fun x107 h108 => bnd (rdS L xs (i7 + (1 : Int32))) fun x109 => bnd2 (f_X7_most a4 x109 h108) fun x110 h111 => if x107 = x110 then (k13 h111) else (some ((0 : Int32), h111))), (16, 511, bnd2 (f_X6_halvings a1 h8) fun x113 h114 => bnd2 (f_X7_halvings a4 h114) fun x115 h116 => if x113 = x115 then (k13 h116) else (some ((0 : Int32), h116))), (17, 524, bnd (rdS L xs (i7 + (1 : Int32))) fun x118 => bnd2 (f_X6_more a1 x118 h8) fun x119 h120 => bnd (rdS L xs (i7 + (1 : Int32))) fun x121 => bnd2 (f_X7_more a4 x121 h120) fun x122 h123 => if x119 = x122 then (k13 h123) else (some ((0 : Int32), h123))), (18, 547, bnd (rdS L xs (i7 + (1 : Int32))) fun x125 => bnd2 (f_X6_lacks a1 x125 h8) fun x126 h127 => bnd (rdS L xs (i7 + (1 : Int32))) fun x128 => bnd2 (f_X7_lacks a4 x128 h127) fun x129 h130 => if x126 = x129 then (k13 h130) else (some ((0 : Int32), h130))), (19, 570, bnd (rdS L xs (i7 + (1 : Int32))) fun x132 => bnd2 (f_X6_together a1 x132 h8) fun x133 h134 => bnd (rdS L xs (i7 + (1 : Int32))) fun x135 => bnd2 (f_X7_together a4 x135 h134) fun x136 h137 => if x133 = x136 then (k13 h137) else (some ((0 : Int32), h137))), (20, 593, bnd (rdS L xs (i7 + (1 : Int32))) fun x139 => bnd2 (f_X6_grows a1 x139 h8) fun x140 h141 => bnd (rdS L xs (i7 + (1 : Int32))) fun x142 => bnd2 (f_X7_grows a4 x142 h141) fun x143 h144 => if x140 = x143 then (k13 h144) else (some ((0 : Int32), h144))), (21, 616, bnd (rdS L xs (i7 + (1 : Int32))) fun x146 => bnd2 (f_X6_twoMills a1 x146 h8) fun x147 h148 => bnd (rdS L xs (i7 + (1 : Int32))) fun x149 => bnd2 (f_X7_twoMills a4 x149 h148) fun x150 h151 => if x147 = x150 then (k13 h151) else (some ((0 : Int32), h151))), (22, 639, bnd (rdS L xs (i7 + (1 : Int32))) fun x153 => bnd (rdS L xs (i7 + (2 : Int32))) fun x154 => bnd (rdS L xs (i7 + (3 : Int32))) fun x155 => bnd2 (f_X6_year a1 x153 x154 x155 h8) fun x156 h157 => bnd (rdS L xs (i7 + (1 : Int32))) fun x158 => bnd (rdS L xs (i7 + (2 : Int32))) fun x159 => bnd (rdS L xs (i7 + (3 : Int32))) fun x160 => bnd2 (f_X7_year a4 x158 x159 x160 h157) fun x161 h162 => if x156 = x161 then (k13 h162) else (some ((0 : Int32), h162))), (23, 682, bnd2 (f_X6_keep a1 h8) fun x164 h165 => bnd2 (f_X7_keep a4 h165) fun x166 h167 => if x164 = x166 then (k13 h167) else (some ((0 : Int32), h167))), (24, 695, bnd2 (f_X6_back a1 h8) fun x169 h170 => bnd2 (f_X7_back a4 h170) fun x171 h172 => if x169 = x171 then (k13 h172) else (some ((0 : Int32), h172))), (25, 708, bnd (rdS L xs (i7 + (1 : Int32))) fun x174 => bnd (f_X6_count a1 x174 h8) fun x175 => bnd (rdS L xs (i7 + (1 : Int32))) fun x176 => bnd (f_X7_count a4 x176 h8) fun x177 => if x175 = x177 then (k13 h8) else (some ((0 : Int32), h8)))] (k13 h8))) fuel (0 : Int32) h6
set_option maxHeartbeats 8000000 in
set_option maxRecDepth 100000 in
theorem law_walk {B : Bx} {b L : Nat} {xs : Nat → Int32} {h : Hp} {kF kL : Nat} (C : Cx B cL_law RL (some .boolean) 4 0 0 2048 84000) (hX : L_X B b L xs) (hs0 : L_S B b) : J B (L_Q B b) (f_L_law L xs h) h 0 [(0, .retAddr b)] [] := by
  unfold f_L_law
  refine j_new (ci := 6) C (by decide) wcll_L_7 wins_X6 wini_X6 rfl wdef_X6 dL_law_0 (fun a1 h2 => ?_)
  refine j_dup C dL_law_3 (fun _ => rfl) ?_
  refine j_cV (st := [.ref a1]) (fun x e => ⟨runsI C wml_L_9 wce_X6_init rfl rfl rfl rfl rfl dL_law_4, (c_X6_init (bL B) (bD B) _ _ x e).2⟩) (fun h3 => ?_)
  refine j_astore_n (lv' := [(1, .ref a1), (0, .retAddr b)]) C dL_law_7 rfl rfl rfl ?_
  refine j_new (ci := 7) C (by decide) wcll_L_10 wins_X7 wini_X7 rfl wdef_X7 dL_law_8 (fun a4 h5 => ?_)
  refine j_dup C dL_law_11 (fun _ => rfl) ?_
  refine j_cV (st := [.ref a4]) (fun x e => ⟨runsI C wml_L_12 wce_X7_init rfl rfl rfl rfl rfl dL_law_12, (c_X7_init (bL B) (bD B) _ _ x e).2⟩) (fun h6 => ?_)
  refine j_astore_n (lv' := [(2, .ref a4), (1, .ref a1), (0, .retAddr b)]) C dL_law_15 rfl rfl rfl ?_
  refine j_iconst C (0 : Int32) dL_law_16 (by decide) ?_
  refine j_istore_n (lv' := [(3, .int (0 : Int32)), (2, .ref a4), (1, .ref a1), (0, .retAddr b)]) C dL_law_17 rfl rfl rfl ?_
  refine J.sub (lv' := [(0, .retAddr b), (1, .ref a1), (2, .ref a4), (3, .int (0 : Int32))]) [3, 2, 1, 0] rfl ?_
  refine J.wl2 18 (fun (i7 : Int32) (h8 : Hp) => h8) (fun (i7 : Int32) (h8 : Hp) => [(0, .retAddr b), (1, .ref a1), (2, .ref a4), (3, .int i7)]) (fun (i7 : Int32) (h8 : Hp) => []) (fun r9 hr9 i7 h8 => ?_) fuel (0 : Int32) h6
  refine j_iload_n C dL_law_18 3 rfl rfl ?_
  refine L_aload_n C dL_law_19 0 rfl rfl ?_
  refine L_alen C hX dL_law_20 ?_
  refine j_iconst C (4 : Int32) dL_law_21 (by decide) ?_
  refine j_isub C dL_law_22 ?_
  refine j_icmp_gt C 737 dL_law_23 (by decide) (fun c10 => ?_) (fun c10 => ?_)
  · refine j_iconst C (1 : Int32) dL_law_737 (by decide) ?_
    exact L_ret C hs0 rfl rfl dL_law_738
  · refine L_aload_n C dL_law_26 0 rfl rfl ?_
    refine j_iload_n C dL_law_27 3 rfl rfl ?_
    refine L_iaload C hX dL_law_28 (fun x11 => ?_)
    refine j_bipush C (31 : Int32) dL_law_29 (by decide) ?_
    refine j_iand C dL_law_31 ?_
    refine J.jn1 731 (fun (h12 : Hp) => h12) (fun (h12 : Hp) => [(0, .retAddr b), (1, .ref a1), (2, .ref a4), (3, .int i7)]) (fun (h12 : Hp) => []) (fun h12 => ?_) (fun k13 hk13 => ?_)
    · refine j_iinc (lv' := [(3, .int (i7 + (4 : Int32))), (0, .retAddr b), (1, .ref a1), (2, .ref a4)]) C (4 : Int32) dL_law_731 3 rfl (by decide) rfl rfl ?_
      refine j_goto C 18 dL_law_734 (by decide) ?_
      refine J.sub (lv' := [(0, .retAddr b), (1, .ref a1), (2, .ref a4), (3, .int (i7 + (4 : Int32)))]) [1, 2, 3, 0] rfl ?_
      exact hr9 (i7 + (4 : Int32)) h12
    refine j_table C 731 [(0, 152), (1, 215), (2, 228), (3, 241), (4, 254), (5, 287), (6, 310), (7, 333), (8, 366), (9, 389), (10, 402), (11, 415), (12, 438), (13, 451), (14, 474), (15, 488), (16, 511), (17, 524), (18, 547), (19, 570), (20, 593), (21, 616), (22, 639), (23, 682), (24, 695), (25, 708)] dL_law_32 rfl (by decide) (by decide) (by decide) ?_ ?_
    · refine ⟨fun c14 => ?_, fun c14 => ?_, fun c14 => ?_, fun c14 => ?_, fun c14 => ?_, fun c14 => ?_, fun c14 => ?_, fun c14 => ?_, fun c14 => ?_, fun c14 => ?_, fun c14 => ?_, fun c14 => ?_, fun c14 => ?_, fun c14 => ?_, fun c14 => ?_, fun c14 => ?_, fun c14 => ?_, fun c14 => ?_, fun c14 => ?_, fun c14 => ?_, fun c14 => ?_, fun c14 => ?_, fun c14 => ?_, fun c14 => ?_, fun c14 => ?_, fun c14 => ?_, trivial⟩
      · dsimp only
        refine j_aload_n C dL_law_152 1 rfl rfl ?_
        refine L_aload_n C dL_law_153 0 rfl rfl ?_
        refine j_iload_n C dL_law_154 3 rfl rfl ?_
        refine j_iconst C (1 : Int32) dL_law_155 (by decide) ?_
        refine j_iadd C dL_law_156 ?_
        refine L_iaload C hX dL_law_157 (fun x15 => ?_)
        refine L_aload_n C dL_law_158 0 rfl rfl ?_
        refine j_iload_n C dL_law_159 3 rfl rfl ?_
        refine j_iconst C (2 : Int32) dL_law_160 (by decide) ?_
        refine j_iadd C dL_law_161 ?_
        refine L_iaload C hX dL_law_162 (fun x16 => ?_)
        refine j_i2l C dL_law_163 ?_
        refine j_bipush C (32 : Int32) dL_law_164 (by decide) ?_
        refine j_lshl C dL_law_166 ?_
        refine L_aload_n C dL_law_167 0 rfl rfl ?_
        refine j_iload_n C dL_law_168 3 rfl rfl ?_
        refine j_iconst C (3 : Int32) dL_law_169 (by decide) ?_
        refine j_iadd C dL_law_170 ?_
        refine L_iaload C hX dL_law_171 (fun x17 => ?_)
        refine j_i2l C dL_law_172 ?_
        refine j_ldc2_w C dL_law_173 wcl_L_13 ?_
        refine j_land C dL_law_176 ?_
        refine j_lor C dL_law_177 ?_
        refine j_cI (st := []) (fun x e => ⟨runsV C wml_L_15 wce_X6_write (c_X6_write (bL B) (bD B) _ _ _ _ x e).1 rfl rfl rfl rfl rfl dL_law_178, (c_X6_write (bL B) (bD B) _ _ _ _ x e).2⟩) (fun x18 h19 => ?_)
        refine j_aload_n C dL_law_181 2 rfl rfl ?_
        refine L_aload_n C dL_law_182 0 rfl rfl ?_
        refine j_iload_n C dL_law_183 3 rfl rfl ?_
        refine j_iconst C (1 : Int32) dL_law_184 (by decide) ?_
        refine j_iadd C dL_law_185 ?_
        refine L_iaload C hX dL_law_186 (fun x20 => ?_)
        refine L_aload_n C dL_law_187 0 rfl rfl ?_
        refine j_iload_n C dL_law_188 3 rfl rfl ?_
        refine j_iconst C (2 : Int32) dL_law_189 (by decide) ?_
        refine j_iadd C dL_law_190 ?_
        refine L_iaload C hX dL_law_191 (fun x21 => ?_)
        refine j_i2l C dL_law_192 ?_
        refine j_bipush C (32 : Int32) dL_law_193 (by decide) ?_
        refine j_lshl C dL_law_195 ?_
        refine L_aload_n C dL_law_196 0 rfl rfl ?_
        refine j_iload_n C dL_law_197 3 rfl rfl ?_
        refine j_iconst C (3 : Int32) dL_law_198 (by decide) ?_
        refine j_iadd C dL_law_199 ?_
        refine L_iaload C hX dL_law_200 (fun x22 => ?_)
        refine j_i2l C dL_law_201 ?_
        refine j_ldc2_w C dL_law_202 wcl_L_13 ?_
        refine j_land C dL_law_205 ?_
        refine j_lor C dL_law_206 ?_
        refine j_cI (st := [.int x18]) (fun x e => ⟨runsV C wml_L_19 wce_X7_write (c_X7_write (bL B) (bD B) _ _ _ _ x e).1 rfl rfl rfl rfl rfl dL_law_207, (c_X7_write (bL B) (bD B) _ _ _ _ x e).2⟩) (fun x23 h24 => ?_)
        refine j_icmp_eq C 731 dL_law_210 (by decide) (fun c25 => ?_) (fun c25 => ?_)
        · exact hk13 h24
        · refine j_iconst C (0 : Int32) dL_law_213 (by decide) ?_
          exact L_ret C hs0 rfl rfl dL_law_214
      · dsimp only
        refine j_aload_n C dL_law_215 1 rfl rfl ?_
        refine j_cI (st := []) (fun x e => ⟨runsV C wml_L_20 wce_X6_wipe (c_X6_wipe (bL B) (bD B) _ _ x e).1 rfl rfl rfl rfl rfl dL_law_216, (c_X6_wipe (bL B) (bD B) _ _ x e).2⟩) (fun x26 h27 => ?_)
        refine j_aload_n C dL_law_219 2 rfl rfl ?_
        refine j_cI (st := [.int x26]) (fun x e => ⟨runsV C wml_L_24 wce_X7_wipe (c_X7_wipe (bL B) (bD B) _ _ x e).1 rfl rfl rfl rfl rfl dL_law_220, (c_X7_wipe (bL B) (bD B) _ _ x e).2⟩) (fun x28 h29 => ?_)
        refine j_icmp_eq C 731 dL_law_223 (by decide) (fun c30 => ?_) (fun c30 => ?_)
        · exact hk13 h29
        · refine j_iconst C (0 : Int32) dL_law_226 (by decide) ?_
          exact L_ret C hs0 rfl rfl dL_law_227
      · dsimp only
        refine j_aload_n C dL_law_228 1 rfl rfl ?_
        refine j_cI (st := []) (fun x e => ⟨runsV C wml_L_25 wce_X6_fault (c_X6_fault (bL B) (bD B) _ _ x e).1 rfl rfl rfl rfl rfl dL_law_229, (c_X6_fault (bL B) (bD B) _ _ x e).2⟩) (fun x31 h32 => ?_)
        refine j_aload_n C dL_law_232 2 rfl rfl ?_
        refine j_cI (st := [.int x31]) (fun x e => ⟨runsV C wml_L_28 wce_X7_fault (c_X7_fault (bL B) (bD B) _ _ x e).1 rfl rfl rfl rfl rfl dL_law_233, (c_X7_fault (bL B) (bD B) _ _ x e).2⟩) (fun x33 h34 => ?_)
        refine j_icmp_eq C 731 dL_law_236 (by decide) (fun c35 => ?_) (fun c35 => ?_)
        · exact hk13 h34
        · refine j_iconst C (0 : Int32) dL_law_239 (by decide) ?_
          exact L_ret C hs0 rfl rfl dL_law_240
      · dsimp only
        refine j_aload_n C dL_law_241 1 rfl rfl ?_
        refine j_cI (st := []) (fun x e => ⟨runsV C wml_L_29 wce_X6_lay (c_X6_lay (bL B) (bD B) _ _ x e).1 rfl rfl rfl rfl rfl dL_law_242, (c_X6_lay (bL B) (bD B) _ _ x e).2⟩) (fun x36 h37 => ?_)
        refine j_aload_n C dL_law_245 2 rfl rfl ?_
        refine j_cI (st := [.int x36]) (fun x e => ⟨runsV C wml_L_32 wce_X7_lay (c_X7_lay (bL B) (bD B) _ _ x e).1 rfl rfl rfl rfl rfl dL_law_246, (c_X7_lay (bL B) (bD B) _ _ x e).2⟩) (fun x38 h39 => ?_)
        refine j_icmp_eq C 731 dL_law_249 (by decide) (fun c40 => ?_) (fun c40 => ?_)
        · exact hk13 h39
        · refine j_iconst C (0 : Int32) dL_law_252 (by decide) ?_
          exact L_ret C hs0 rfl rfl dL_law_253
      · dsimp only
        refine j_aload_n C dL_law_254 1 rfl rfl ?_
        refine L_aload_n C dL_law_255 0 rfl rfl ?_
        refine j_iload_n C dL_law_256 3 rfl rfl ?_
        refine j_iconst C (1 : Int32) dL_law_257 (by decide) ?_
        refine j_iadd C dL_law_258 ?_
        refine L_iaload C hX dL_law_259 (fun x41 => ?_)
        refine L_aload_n C dL_law_260 0 rfl rfl ?_
        refine j_iload_n C dL_law_261 3 rfl rfl ?_
        refine j_iconst C (2 : Int32) dL_law_262 (by decide) ?_
        refine j_iadd C dL_law_263 ?_
        refine L_iaload C hX dL_law_264 (fun x42 => ?_)
        refine j_cIp (st := []) (fun x e => ⟨runsV C wml_L_33 wce_X6_sack (c_X6_sack (bL B) (bD B) _ _ _ _ x e).1 rfl rfl rfl rfl rfl dL_law_265, (c_X6_sack (bL B) (bD B) _ _ _ _ x e).2⟩) (fun x43 => ?_)
        refine j_aload_n C dL_law_268 2 rfl rfl ?_
        refine L_aload_n C dL_law_269 0 rfl rfl ?_
        refine j_iload_n C dL_law_270 3 rfl rfl ?_
        refine j_iconst C (1 : Int32) dL_law_271 (by decide) ?_
        refine j_iadd C dL_law_272 ?_
        refine L_iaload C hX dL_law_273 (fun x44 => ?_)
        refine L_aload_n C dL_law_274 0 rfl rfl ?_
        refine j_iload_n C dL_law_275 3 rfl rfl ?_
        refine j_iconst C (2 : Int32) dL_law_276 (by decide) ?_
        refine j_iadd C dL_law_277 ?_
        refine L_iaload C hX dL_law_278 (fun x45 => ?_)
        refine j_cIp (st := [.int x43]) (fun x e => ⟨runsV C wml_L_37 wce_X7_sack (c_X7_sack (bL B) (bD B) _ _ _ _ x e).1 rfl rfl rfl rfl rfl dL_law_279, (c_X7_sack (bL B) (bD B) _ _ _ _ x e).2⟩) (fun x46 => ?_)
        refine j_icmp_eq C 731 dL_law_282 (by decide) (fun c47 => ?_) (fun c47 => ?_)
        · exact hk13 h8
        · refine j_iconst C (0 : Int32) dL_law_285 (by decide) ?_
          exact L_ret C hs0 rfl rfl dL_law_286
      · dsimp only
        refine j_aload_n C dL_law_287 1 rfl rfl ?_
        refine L_aload_n C dL_law_288 0 rfl rfl ?_
        refine j_iload_n C dL_law_289 3 rfl rfl ?_
        refine j_iconst C (1 : Int32) dL_law_290 (by decide) ?_
        refine j_iadd C dL_law_291 ?_
        refine L_iaload C hX dL_law_292 (fun x48 => ?_)
        refine j_cIp (st := []) (fun x e => ⟨runsV C wml_L_38 wce_X6_may (c_X6_may (bL B) (bD B) _ _ _ x e).1 rfl rfl rfl rfl rfl dL_law_293, (c_X6_may (bL B) (bD B) _ _ _ x e).2⟩) (fun x49 => ?_)
        refine j_aload_n C dL_law_296 2 rfl rfl ?_
        refine L_aload_n C dL_law_297 0 rfl rfl ?_
        refine j_iload_n C dL_law_298 3 rfl rfl ?_
        refine j_iconst C (1 : Int32) dL_law_299 (by decide) ?_
        refine j_iadd C dL_law_300 ?_
        refine L_iaload C hX dL_law_301 (fun x50 => ?_)
        refine j_cIp (st := [.int x49]) (fun x e => ⟨runsV C wml_L_42 wce_X7_may (c_X7_may (bL B) (bD B) _ _ _ x e).1 rfl rfl rfl rfl rfl dL_law_302, (c_X7_may (bL B) (bD B) _ _ _ x e).2⟩) (fun x51 => ?_)
        refine j_icmp_eq C 731 dL_law_305 (by decide) (fun c52 => ?_) (fun c52 => ?_)
        · exact hk13 h8
        · refine j_iconst C (0 : Int32) dL_law_308 (by decide) ?_
          exact L_ret C hs0 rfl rfl dL_law_309
      · dsimp only
        refine j_aload_n C dL_law_310 1 rfl rfl ?_
        refine L_aload_n C dL_law_311 0 rfl rfl ?_
        refine j_iload_n C dL_law_312 3 rfl rfl ?_
        refine j_iconst C (1 : Int32) dL_law_313 (by decide) ?_
        refine j_iadd C dL_law_314 ?_
        refine L_iaload C hX dL_law_315 (fun x53 => ?_)
        refine j_cI (st := []) (fun x e => ⟨runsV C wml_L_43 wce_X6_pour (c_X6_pour (bL B) (bD B) _ _ _ x e).1 rfl rfl rfl rfl rfl dL_law_316, (c_X6_pour (bL B) (bD B) _ _ _ x e).2⟩) (fun x54 h55 => ?_)
        refine j_aload_n C dL_law_319 2 rfl rfl ?_
        refine L_aload_n C dL_law_320 0 rfl rfl ?_
        refine j_iload_n C dL_law_321 3 rfl rfl ?_
        refine j_iconst C (1 : Int32) dL_law_322 (by decide) ?_
        refine j_iadd C dL_law_323 ?_
        refine L_iaload C hX dL_law_324 (fun x56 => ?_)
        refine j_cI (st := [.int x54]) (fun x e => ⟨runsV C wml_L_46 wce_X7_pour (c_X7_pour (bL B) (bD B) _ _ _ x e).1 rfl rfl rfl rfl rfl dL_law_325, (c_X7_pour (bL B) (bD B) _ _ _ x e).2⟩) (fun x57 h58 => ?_)
        refine j_icmp_eq C 731 dL_law_328 (by decide) (fun c59 => ?_) (fun c59 => ?_)
        · exact hk13 h58
        · refine j_iconst C (0 : Int32) dL_law_331 (by decide) ?_
          exact L_ret C hs0 rfl rfl dL_law_332
      · dsimp only
        refine j_aload_n C dL_law_333 1 rfl rfl ?_
        refine L_aload_n C dL_law_334 0 rfl rfl ?_
        refine j_iload_n C dL_law_335 3 rfl rfl ?_
        refine j_iconst C (1 : Int32) dL_law_336 (by decide) ?_
        refine j_iadd C dL_law_337 ?_
        refine L_iaload C hX dL_law_338 (fun x60 => ?_)
        refine L_aload_n C dL_law_339 0 rfl rfl ?_
        refine j_iload_n C dL_law_340 3 rfl rfl ?_
        refine j_iconst C (2 : Int32) dL_law_341 (by decide) ?_
        refine j_iadd C dL_law_342 ?_
        refine L_iaload C hX dL_law_343 (fun x61 => ?_)
        refine j_cI (st := []) (fun x e => ⟨runsV C wml_L_47 wce_X6_halve (c_X6_halve (bL B) (bD B) _ _ _ _ x e).1 rfl rfl rfl rfl rfl dL_law_344, (c_X6_halve (bL B) (bD B) _ _ _ _ x e).2⟩) (fun x62 h63 => ?_)
        refine j_aload_n C dL_law_347 2 rfl rfl ?_
        refine L_aload_n C dL_law_348 0 rfl rfl ?_
        refine j_iload_n C dL_law_349 3 rfl rfl ?_
        refine j_iconst C (1 : Int32) dL_law_350 (by decide) ?_
        refine j_iadd C dL_law_351 ?_
        refine L_iaload C hX dL_law_352 (fun x64 => ?_)
        refine L_aload_n C dL_law_353 0 rfl rfl ?_
        refine j_iload_n C dL_law_354 3 rfl rfl ?_
        refine j_iconst C (2 : Int32) dL_law_355 (by decide) ?_
        refine j_iadd C dL_law_356 ?_
        refine L_iaload C hX dL_law_357 (fun x65 => ?_)
        refine j_cI (st := [.int x62]) (fun x e => ⟨runsV C wml_L_50 wce_X7_halve (c_X7_halve (bL B) (bD B) _ _ _ _ x e).1 rfl rfl rfl rfl rfl dL_law_358, (c_X7_halve (bL B) (bD B) _ _ _ _ x e).2⟩) (fun x66 h67 => ?_)
        refine j_icmp_eq C 731 dL_law_361 (by decide) (fun c68 => ?_) (fun c68 => ?_)
        · exact hk13 h67
        · refine j_iconst C (0 : Int32) dL_law_364 (by decide) ?_
          exact L_ret C hs0 rfl rfl dL_law_365
      · dsimp only
        refine j_aload_n C dL_law_366 1 rfl rfl ?_
        refine L_aload_n C dL_law_367 0 rfl rfl ?_
        refine j_iload_n C dL_law_368 3 rfl rfl ?_
        refine j_iconst C (1 : Int32) dL_law_369 (by decide) ?_
        refine j_iadd C dL_law_370 ?_
        refine L_iaload C hX dL_law_371 (fun x69 => ?_)
        refine j_cI (st := []) (fun x e => ⟨runsV C wml_L_51 wce_X6_sell (c_X6_sell (bL B) (bD B) _ _ _ x e).1 rfl rfl rfl rfl rfl dL_law_372, (c_X6_sell (bL B) (bD B) _ _ _ x e).2⟩) (fun x70 h71 => ?_)
        refine j_aload_n C dL_law_375 2 rfl rfl ?_
        refine L_aload_n C dL_law_376 0 rfl rfl ?_
        refine j_iload_n C dL_law_377 3 rfl rfl ?_
        refine j_iconst C (1 : Int32) dL_law_378 (by decide) ?_
        refine j_iadd C dL_law_379 ?_
        refine L_iaload C hX dL_law_380 (fun x72 => ?_)
        refine j_cI (st := [.int x70]) (fun x e => ⟨runsV C wml_L_54 wce_X7_sell (c_X7_sell (bL B) (bD B) _ _ _ x e).1 rfl rfl rfl rfl rfl dL_law_381, (c_X7_sell (bL B) (bD B) _ _ _ x e).2⟩) (fun x73 h74 => ?_)
        refine j_icmp_eq C 731 dL_law_384 (by decide) (fun c75 => ?_) (fun c75 => ?_)
        · exact hk13 h74
        · refine j_iconst C (0 : Int32) dL_law_387 (by decide) ?_
          exact L_ret C hs0 rfl rfl dL_law_388
      · dsimp only
        refine j_aload_n C dL_law_389 1 rfl rfl ?_
        refine j_cI (st := []) (fun x e => ⟨runsV C wml_L_55 wce_X6_undo (c_X6_undo (bL B) (bD B) _ _ x e).1 rfl rfl rfl rfl rfl dL_law_390, (c_X6_undo (bL B) (bD B) _ _ x e).2⟩) (fun x76 h77 => ?_)
        refine j_aload_n C dL_law_393 2 rfl rfl ?_
        refine j_cI (st := [.int x76]) (fun x e => ⟨runsV C wml_L_58 wce_X7_undo (c_X7_undo (bL B) (bD B) _ _ x e).1 rfl rfl rfl rfl rfl dL_law_394, (c_X7_undo (bL B) (bD B) _ _ x e).2⟩) (fun x78 h79 => ?_)
        refine j_icmp_eq C 731 dL_law_397 (by decide) (fun c80 => ?_) (fun c80 => ?_)
        · exact hk13 h79
        · refine j_iconst C (0 : Int32) dL_law_400 (by decide) ?_
          exact L_ret C hs0 rfl rfl dL_law_401
      · dsimp only
        refine j_aload_n C dL_law_402 1 rfl rfl ?_
        refine j_cIp (st := []) (fun x e => ⟨runsV C wml_L_59 wce_X6_cost (c_X6_cost (bL B) (bD B) _ _ x e).1 rfl rfl rfl rfl rfl dL_law_403, (c_X6_cost (bL B) (bD B) _ _ x e).2⟩) (fun x81 => ?_)
        refine j_aload_n C dL_law_406 2 rfl rfl ?_
        refine j_cIp (st := [.int x81]) (fun x e => ⟨runsV C wml_L_62 wce_X7_cost (c_X7_cost (bL B) (bD B) _ _ x e).1 rfl rfl rfl rfl rfl dL_law_407, (c_X7_cost (bL B) (bD B) _ _ x e).2⟩) (fun x82 => ?_)
        refine j_icmp_eq C 731 dL_law_410 (by decide) (fun c83 => ?_) (fun c83 => ?_)
        · exact hk13 h8
        · refine j_iconst C (0 : Int32) dL_law_413 (by decide) ?_
          exact L_ret C hs0 rfl rfl dL_law_414
      · dsimp only
        refine j_aload_n C dL_law_415 1 rfl rfl ?_
        refine L_aload_n C dL_law_416 0 rfl rfl ?_
        refine j_iload_n C dL_law_417 3 rfl rfl ?_
        refine j_iconst C (1 : Int32) dL_law_418 (by decide) ?_
        refine j_iadd C dL_law_419 ?_
        refine L_iaload C hX dL_law_420 (fun x84 => ?_)
        refine j_cI (st := []) (fun x e => ⟨runsV C wml_L_63 wce_X6_queue (c_X6_queue (bL B) (bD B) _ _ _ x e).1 rfl rfl rfl rfl rfl dL_law_421, (c_X6_queue (bL B) (bD B) _ _ _ x e).2⟩) (fun x85 h86 => ?_)
        refine j_aload_n C dL_law_424 2 rfl rfl ?_
        refine L_aload_n C dL_law_425 0 rfl rfl ?_
        refine j_iload_n C dL_law_426 3 rfl rfl ?_
        refine j_iconst C (1 : Int32) dL_law_427 (by decide) ?_
        refine j_iadd C dL_law_428 ?_
        refine L_iaload C hX dL_law_429 (fun x87 => ?_)
        refine j_cI (st := [.int x85]) (fun x e => ⟨runsV C wml_L_66 wce_X7_queue (c_X7_queue (bL B) (bD B) _ _ _ x e).1 rfl rfl rfl rfl rfl dL_law_430, (c_X7_queue (bL B) (bD B) _ _ _ x e).2⟩) (fun x88 h89 => ?_)
        refine j_icmp_eq C 731 dL_law_433 (by decide) (fun c90 => ?_) (fun c90 => ?_)
        · exact hk13 h89
        · refine j_iconst C (0 : Int32) dL_law_436 (by decide) ?_
          exact L_ret C hs0 rfl rfl dL_law_437
      · dsimp only
        refine j_aload_n C dL_law_438 1 rfl rfl ?_
        refine j_cI (st := []) (fun x e => ⟨runsV C wml_L_67 wce_X6_noQueue (c_X6_noQueue (bL B) (bD B) _ _ x e).1 rfl rfl rfl rfl rfl dL_law_439, (c_X6_noQueue (bL B) (bD B) _ _ x e).2⟩) (fun x91 h92 => ?_)
        refine j_aload_n C dL_law_442 2 rfl rfl ?_
        refine j_cI (st := [.int x91]) (fun x e => ⟨runsV C wml_L_70 wce_X7_noQueue (c_X7_noQueue (bL B) (bD B) _ _ x e).1 rfl rfl rfl rfl rfl dL_law_443, (c_X7_noQueue (bL B) (bD B) _ _ x e).2⟩) (fun x93 h94 => ?_)
        refine j_icmp_eq C 731 dL_law_446 (by decide) (fun c95 => ?_) (fun c95 => ?_)
        · exact hk13 h94
        · refine j_iconst C (0 : Int32) dL_law_449 (by decide) ?_
          exact L_ret C hs0 rfl rfl dL_law_450
      · dsimp only
        refine j_aload_n C dL_law_451 1 rfl rfl ?_
        refine L_aload_n C dL_law_452 0 rfl rfl ?_
        refine j_iload_n C dL_law_453 3 rfl rfl ?_
        refine j_iconst C (1 : Int32) dL_law_454 (by decide) ?_
        refine j_iadd C dL_law_455 ?_
        refine L_iaload C hX dL_law_456 (fun x96 => ?_)
        refine j_cIp (st := []) (fun x e => ⟨runsV C wml_L_71 wce_X6_stops (c_X6_stops (bL B) (bD B) _ _ _ x e).1 rfl rfl rfl rfl rfl dL_law_457, (c_X6_stops (bL B) (bD B) _ _ _ x e).2⟩) (fun x97 => ?_)
        refine j_aload_n C dL_law_460 2 rfl rfl ?_
        refine L_aload_n C dL_law_461 0 rfl rfl ?_
        refine j_iload_n C dL_law_462 3 rfl rfl ?_
        refine j_iconst C (1 : Int32) dL_law_463 (by decide) ?_
        refine j_iadd C dL_law_464 ?_
        refine L_iaload C hX dL_law_465 (fun x98 => ?_)
        refine j_cIp (st := [.int x97]) (fun x e => ⟨runsV C wml_L_74 wce_X7_stops (c_X7_stops (bL B) (bD B) _ _ _ x e).1 rfl rfl rfl rfl rfl dL_law_466, (c_X7_stops (bL B) (bD B) _ _ _ x e).2⟩) (fun x99 => ?_)
        refine j_icmp_eq C 731 dL_law_469 (by decide) (fun c100 => ?_) (fun c100 => ?_)
        · exact hk13 h8
        · refine j_iconst C (0 : Int32) dL_law_472 (by decide) ?_
          exact L_ret C hs0 rfl rfl dL_law_473
      · dsimp only
        refine j_aload_n C dL_law_474 1 rfl rfl ?_
        refine j_cL (st := []) (fun x e => ⟨runsV C wml_L_75 wce_X6_orders (c_X6_orders (bL B) (bD B) _ _ x e).1 rfl rfl rfl rfl rfl dL_law_475, (c_X6_orders (bL B) (bD B) _ _ x e).2⟩) (fun y101 h102 => ?_)
        refine j_aload_n C dL_law_478 2 rfl rfl ?_
        refine j_cL (st := [.long y101]) (fun x e => ⟨runsV C wml_L_79 wce_X7_orders (c_X7_orders (bL B) (bD B) _ _ x e).1 rfl rfl rfl rfl rfl dL_law_479, (c_X7_orders (bL B) (bD B) _ _ x e).2⟩) (fun y103 h104 => ?_)
        refine j_lcmp C dL_law_482 ?_
        refine j_if_eq C 731 dL_law_483 (by decide) (fun c105 => ?_) (fun c105 => ?_)
        · exact hk13 h104
        · refine j_iconst C (0 : Int32) dL_law_486 (by decide) ?_
          exact L_ret C hs0 rfl rfl dL_law_487
      · dsimp only
        refine j_aload_n C dL_law_488 1 rfl rfl ?_
        refine L_aload_n C dL_law_489 0 rfl rfl ?_
        refine j_iload_n C dL_law_490 3 rfl rfl ?_
        refine j_iconst C (1 : Int32) dL_law_491 (by decide) ?_
        refine j_iadd C dL_law_492 ?_
        refine L_iaload C hX dL_law_493 (fun x106 => ?_)
        refine j_cI (st := []) (fun x e => ⟨runsV C wml_L_80 wce_X6_most (c_X6_most (bL B) (bD B) _ _ _ x e).1 rfl rfl rfl rfl rfl dL_law_494, (c_X6_most (bL B) (bD B) _ _ _ x e).2⟩) (fun x107 h108 => ?_)
        refine j_aload_n C dL_law_497 2 rfl rfl ?_
        refine L_aload_n C dL_law_498 0 rfl rfl ?_
        refine j_iload_n C dL_law_499 3 rfl rfl ?_
        refine j_iconst C (1 : Int32) dL_law_500 (by decide) ?_
        refine j_iadd C dL_law_501 ?_
        refine L_iaload C hX dL_law_502 (fun x109 => ?_)
        refine j_cI (st := [.int x107]) (fun x e => ⟨runsV C wml_L_83 wce_X7_most (c_X7_most (bL B) (bD B) _ _ _ x e).1 rfl rfl rfl rfl rfl dL_law_503, (c_X7_most (bL B) (bD B) _ _ _ x e).2⟩) (fun x110 h111 => ?_)
        refine j_icmp_eq C 731 dL_law_506 (by decide) (fun c112 => ?_) (fun c112 => ?_)
        · exact hk13 h111
        · refine j_iconst C (0 : Int32) dL_law_509 (by decide) ?_
          exact L_ret C hs0 rfl rfl dL_law_510
      · dsimp only
        refine j_aload_n C dL_law_511 1 rfl rfl ?_
        refine j_cI (st := []) (fun x e => ⟨runsV C wml_L_84 wce_X6_halvings (c_X6_halvings (bL B) (bD B) _ _ x e).1 rfl rfl rfl rfl rfl dL_law_512, (c_X6_halvings (bL B) (bD B) _ _ x e).2⟩) (fun x113 h114 => ?_)
        refine j_aload_n C dL_law_515 2 rfl rfl ?_
        refine j_cI (st := [.int x113]) (fun x e => ⟨runsV C wml_L_87 wce_X7_halvings (c_X7_halvings (bL B) (bD B) _ _ x e).1 rfl rfl rfl rfl rfl dL_law_516, (c_X7_halvings (bL B) (bD B) _ _ x e).2⟩) (fun x115 h116 => ?_)
        refine j_icmp_eq C 731 dL_law_519 (by decide) (fun c117 => ?_) (fun c117 => ?_)
        · exact hk13 h116
        · refine j_iconst C (0 : Int32) dL_law_522 (by decide) ?_
          exact L_ret C hs0 rfl rfl dL_law_523
      · dsimp only
        refine j_aload_n C dL_law_524 1 rfl rfl ?_
        refine L_aload_n C dL_law_525 0 rfl rfl ?_
        refine j_iload_n C dL_law_526 3 rfl rfl ?_
        refine j_iconst C (1 : Int32) dL_law_527 (by decide) ?_
        refine j_iadd C dL_law_528 ?_
        refine L_iaload C hX dL_law_529 (fun x118 => ?_)
        refine j_cI (st := []) (fun x e => ⟨runsV C wml_L_88 wce_X6_more (c_X6_more (bL B) (bD B) _ _ _ x e).1 rfl rfl rfl rfl rfl dL_law_530, (c_X6_more (bL B) (bD B) _ _ _ x e).2⟩) (fun x119 h120 => ?_)
        refine j_aload_n C dL_law_533 2 rfl rfl ?_
        refine L_aload_n C dL_law_534 0 rfl rfl ?_
        refine j_iload_n C dL_law_535 3 rfl rfl ?_
        refine j_iconst C (1 : Int32) dL_law_536 (by decide) ?_
        refine j_iadd C dL_law_537 ?_
        refine L_iaload C hX dL_law_538 (fun x121 => ?_)
        refine j_cI (st := [.int x119]) (fun x e => ⟨runsV C wml_L_91 wce_X7_more (c_X7_more (bL B) (bD B) _ _ _ x e).1 rfl rfl rfl rfl rfl dL_law_539, (c_X7_more (bL B) (bD B) _ _ _ x e).2⟩) (fun x122 h123 => ?_)
        refine j_icmp_eq C 731 dL_law_542 (by decide) (fun c124 => ?_) (fun c124 => ?_)
        · exact hk13 h123
        · refine j_iconst C (0 : Int32) dL_law_545 (by decide) ?_
          exact L_ret C hs0 rfl rfl dL_law_546
      · dsimp only
        refine j_aload_n C dL_law_547 1 rfl rfl ?_
        refine L_aload_n C dL_law_548 0 rfl rfl ?_
        refine j_iload_n C dL_law_549 3 rfl rfl ?_
        refine j_iconst C (1 : Int32) dL_law_550 (by decide) ?_
        refine j_iadd C dL_law_551 ?_
        refine L_iaload C hX dL_law_552 (fun x125 => ?_)
        refine j_cI (st := []) (fun x e => ⟨runsV C wml_L_92 wce_X6_lacks (c_X6_lacks (bL B) (bD B) _ _ _ x e).1 rfl rfl rfl rfl rfl dL_law_553, (c_X6_lacks (bL B) (bD B) _ _ _ x e).2⟩) (fun x126 h127 => ?_)
        refine j_aload_n C dL_law_556 2 rfl rfl ?_
        refine L_aload_n C dL_law_557 0 rfl rfl ?_
        refine j_iload_n C dL_law_558 3 rfl rfl ?_
        refine j_iconst C (1 : Int32) dL_law_559 (by decide) ?_
        refine j_iadd C dL_law_560 ?_
        refine L_iaload C hX dL_law_561 (fun x128 => ?_)
        refine j_cI (st := [.int x126]) (fun x e => ⟨runsV C wml_L_95 wce_X7_lacks (c_X7_lacks (bL B) (bD B) _ _ _ x e).1 rfl rfl rfl rfl rfl dL_law_562, (c_X7_lacks (bL B) (bD B) _ _ _ x e).2⟩) (fun x129 h130 => ?_)
        refine j_icmp_eq C 731 dL_law_565 (by decide) (fun c131 => ?_) (fun c131 => ?_)
        · exact hk13 h130
        · refine j_iconst C (0 : Int32) dL_law_568 (by decide) ?_
          exact L_ret C hs0 rfl rfl dL_law_569
      · dsimp only
        refine j_aload_n C dL_law_570 1 rfl rfl ?_
        refine L_aload_n C dL_law_571 0 rfl rfl ?_
        refine j_iload_n C dL_law_572 3 rfl rfl ?_
        refine j_iconst C (1 : Int32) dL_law_573 (by decide) ?_
        refine j_iadd C dL_law_574 ?_
        refine L_iaload C hX dL_law_575 (fun x132 => ?_)
        refine j_cI (st := []) (fun x e => ⟨runsV C wml_L_96 wce_X6_together (c_X6_together (bL B) (bD B) _ _ _ x e).1 rfl rfl rfl rfl rfl dL_law_576, (c_X6_together (bL B) (bD B) _ _ _ x e).2⟩) (fun x133 h134 => ?_)
        refine j_aload_n C dL_law_579 2 rfl rfl ?_
        refine L_aload_n C dL_law_580 0 rfl rfl ?_
        refine j_iload_n C dL_law_581 3 rfl rfl ?_
        refine j_iconst C (1 : Int32) dL_law_582 (by decide) ?_
        refine j_iadd C dL_law_583 ?_
        refine L_iaload C hX dL_law_584 (fun x135 => ?_)
        refine j_cI (st := [.int x133]) (fun x e => ⟨runsV C wml_L_99 wce_X7_together (c_X7_together (bL B) (bD B) _ _ _ x e).1 rfl rfl rfl rfl rfl dL_law_585, (c_X7_together (bL B) (bD B) _ _ _ x e).2⟩) (fun x136 h137 => ?_)
        refine j_icmp_eq C 731 dL_law_588 (by decide) (fun c138 => ?_) (fun c138 => ?_)
        · exact hk13 h137
        · refine j_iconst C (0 : Int32) dL_law_591 (by decide) ?_
          exact L_ret C hs0 rfl rfl dL_law_592
      · dsimp only
        refine j_aload_n C dL_law_593 1 rfl rfl ?_
        refine L_aload_n C dL_law_594 0 rfl rfl ?_
        refine j_iload_n C dL_law_595 3 rfl rfl ?_
        refine j_iconst C (1 : Int32) dL_law_596 (by decide) ?_
        refine j_iadd C dL_law_597 ?_
        refine L_iaload C hX dL_law_598 (fun x139 => ?_)
        refine j_cI (st := []) (fun x e => ⟨runsV C wml_L_100 wce_X6_grows (c_X6_grows (bL B) (bD B) _ _ _ x e).1 rfl rfl rfl rfl rfl dL_law_599, (c_X6_grows (bL B) (bD B) _ _ _ x e).2⟩) (fun x140 h141 => ?_)
        refine j_aload_n C dL_law_602 2 rfl rfl ?_
        refine L_aload_n C dL_law_603 0 rfl rfl ?_
        refine j_iload_n C dL_law_604 3 rfl rfl ?_
        refine j_iconst C (1 : Int32) dL_law_605 (by decide) ?_
        refine j_iadd C dL_law_606 ?_
        refine L_iaload C hX dL_law_607 (fun x142 => ?_)
        refine j_cI (st := [.int x140]) (fun x e => ⟨runsV C wml_L_103 wce_X7_grows (c_X7_grows (bL B) (bD B) _ _ _ x e).1 rfl rfl rfl rfl rfl dL_law_608, (c_X7_grows (bL B) (bD B) _ _ _ x e).2⟩) (fun x143 h144 => ?_)
        refine j_icmp_eq C 731 dL_law_611 (by decide) (fun c145 => ?_) (fun c145 => ?_)
        · exact hk13 h144
        · refine j_iconst C (0 : Int32) dL_law_614 (by decide) ?_
          exact L_ret C hs0 rfl rfl dL_law_615
      · dsimp only
        refine j_aload_n C dL_law_616 1 rfl rfl ?_
        refine L_aload_n C dL_law_617 0 rfl rfl ?_
        refine j_iload_n C dL_law_618 3 rfl rfl ?_
        refine j_iconst C (1 : Int32) dL_law_619 (by decide) ?_
        refine j_iadd C dL_law_620 ?_
        refine L_iaload C hX dL_law_621 (fun x146 => ?_)
        refine j_cI (st := []) (fun x e => ⟨runsV C wml_L_104 wce_X6_twoMills (c_X6_twoMills (bL B) (bD B) _ _ _ x e).1 rfl rfl rfl rfl rfl dL_law_622, (c_X6_twoMills (bL B) (bD B) _ _ _ x e).2⟩) (fun x147 h148 => ?_)
        refine j_aload_n C dL_law_625 2 rfl rfl ?_
        refine L_aload_n C dL_law_626 0 rfl rfl ?_
        refine j_iload_n C dL_law_627 3 rfl rfl ?_
        refine j_iconst C (1 : Int32) dL_law_628 (by decide) ?_
        refine j_iadd C dL_law_629 ?_
        refine L_iaload C hX dL_law_630 (fun x149 => ?_)
        refine j_cI (st := [.int x147]) (fun x e => ⟨runsV C wml_L_107 wce_X7_twoMills (c_X7_twoMills (bL B) (bD B) _ _ _ x e).1 rfl rfl rfl rfl rfl dL_law_631, (c_X7_twoMills (bL B) (bD B) _ _ _ x e).2⟩) (fun x150 h151 => ?_)
        refine j_icmp_eq C 731 dL_law_634 (by decide) (fun c152 => ?_) (fun c152 => ?_)
        · exact hk13 h151
        · refine j_iconst C (0 : Int32) dL_law_637 (by decide) ?_
          exact L_ret C hs0 rfl rfl dL_law_638
      · dsimp only
        refine j_aload_n C dL_law_639 1 rfl rfl ?_
        refine L_aload_n C dL_law_640 0 rfl rfl ?_
        refine j_iload_n C dL_law_641 3 rfl rfl ?_
        refine j_iconst C (1 : Int32) dL_law_642 (by decide) ?_
        refine j_iadd C dL_law_643 ?_
        refine L_iaload C hX dL_law_644 (fun x153 => ?_)
        refine L_aload_n C dL_law_645 0 rfl rfl ?_
        refine j_iload_n C dL_law_646 3 rfl rfl ?_
        refine j_iconst C (2 : Int32) dL_law_647 (by decide) ?_
        refine j_iadd C dL_law_648 ?_
        refine L_iaload C hX dL_law_649 (fun x154 => ?_)
        refine L_aload_n C dL_law_650 0 rfl rfl ?_
        refine j_iload_n C dL_law_651 3 rfl rfl ?_
        refine j_iconst C (3 : Int32) dL_law_652 (by decide) ?_
        refine j_iadd C dL_law_653 ?_
        refine L_iaload C hX dL_law_654 (fun x155 => ?_)
        refine j_cI (st := []) (fun x e => ⟨runsV C wml_L_108 wce_X6_year (c_X6_year (bL B) (bD B) _ _ _ _ _ x e).1 rfl rfl rfl rfl rfl dL_law_655, (c_X6_year (bL B) (bD B) _ _ _ _ _ x e).2⟩) (fun x156 h157 => ?_)
        refine j_aload_n C dL_law_658 2 rfl rfl ?_
        refine L_aload_n C dL_law_659 0 rfl rfl ?_
        refine j_iload_n C dL_law_660 3 rfl rfl ?_
        refine j_iconst C (1 : Int32) dL_law_661 (by decide) ?_
        refine j_iadd C dL_law_662 ?_
        refine L_iaload C hX dL_law_663 (fun x158 => ?_)
        refine L_aload_n C dL_law_664 0 rfl rfl ?_
        refine j_iload_n C dL_law_665 3 rfl rfl ?_
        refine j_iconst C (2 : Int32) dL_law_666 (by decide) ?_
        refine j_iadd C dL_law_667 ?_
        refine L_iaload C hX dL_law_668 (fun x159 => ?_)
        refine L_aload_n C dL_law_669 0 rfl rfl ?_
        refine j_iload_n C dL_law_670 3 rfl rfl ?_
        refine j_iconst C (3 : Int32) dL_law_671 (by decide) ?_
        refine j_iadd C dL_law_672 ?_
        refine L_iaload C hX dL_law_673 (fun x160 => ?_)
        refine j_cI (st := [.int x156]) (fun x e => ⟨runsV C wml_L_112 wce_X7_year (c_X7_year (bL B) (bD B) _ _ _ _ _ x e).1 rfl rfl rfl rfl rfl dL_law_674, (c_X7_year (bL B) (bD B) _ _ _ _ _ x e).2⟩) (fun x161 h162 => ?_)
        refine j_icmp_eq C 731 dL_law_677 (by decide) (fun c163 => ?_) (fun c163 => ?_)
        · exact hk13 h162
        · refine j_iconst C (0 : Int32) dL_law_680 (by decide) ?_
          exact L_ret C hs0 rfl rfl dL_law_681
      · dsimp only
        refine j_aload_n C dL_law_682 1 rfl rfl ?_
        refine j_cI (st := []) (fun x e => ⟨runsV C wml_L_113 wce_X6_keep (c_X6_keep (bL B) (bD B) _ _ x e).1 rfl rfl rfl rfl rfl dL_law_683, (c_X6_keep (bL B) (bD B) _ _ x e).2⟩) (fun x164 h165 => ?_)
        refine j_aload_n C dL_law_686 2 rfl rfl ?_
        refine j_cI (st := [.int x164]) (fun x e => ⟨runsV C wml_L_116 wce_X7_keep (c_X7_keep (bL B) (bD B) _ _ x e).1 rfl rfl rfl rfl rfl dL_law_687, (c_X7_keep (bL B) (bD B) _ _ x e).2⟩) (fun x166 h167 => ?_)
        refine j_icmp_eq C 731 dL_law_690 (by decide) (fun c168 => ?_) (fun c168 => ?_)
        · exact hk13 h167
        · refine j_iconst C (0 : Int32) dL_law_693 (by decide) ?_
          exact L_ret C hs0 rfl rfl dL_law_694
      · dsimp only
        refine j_aload_n C dL_law_695 1 rfl rfl ?_
        refine j_cI (st := []) (fun x e => ⟨runsV C wml_L_117 wce_X6_back (c_X6_back (bL B) (bD B) _ _ x e).1 rfl rfl rfl rfl rfl dL_law_696, (c_X6_back (bL B) (bD B) _ _ x e).2⟩) (fun x169 h170 => ?_)
        refine j_aload_n C dL_law_699 2 rfl rfl ?_
        refine j_cI (st := [.int x169]) (fun x e => ⟨runsV C wml_L_120 wce_X7_back (c_X7_back (bL B) (bD B) _ _ x e).1 rfl rfl rfl rfl rfl dL_law_700, (c_X7_back (bL B) (bD B) _ _ x e).2⟩) (fun x171 h172 => ?_)
        refine j_icmp_eq C 731 dL_law_703 (by decide) (fun c173 => ?_) (fun c173 => ?_)
        · exact hk13 h172
        · refine j_iconst C (0 : Int32) dL_law_706 (by decide) ?_
          exact L_ret C hs0 rfl rfl dL_law_707
      · dsimp only
        refine j_aload_n C dL_law_708 1 rfl rfl ?_
        refine L_aload_n C dL_law_709 0 rfl rfl ?_
        refine j_iload_n C dL_law_710 3 rfl rfl ?_
        refine j_iconst C (1 : Int32) dL_law_711 (by decide) ?_
        refine j_iadd C dL_law_712 ?_
        refine L_iaload C hX dL_law_713 (fun x174 => ?_)
        refine j_cIp (st := []) (fun x e => ⟨runsV C wml_L_121 wce_X6_count (c_X6_count (bL B) (bD B) _ _ _ x e).1 rfl rfl rfl rfl rfl dL_law_714, (c_X6_count (bL B) (bD B) _ _ _ x e).2⟩) (fun x175 => ?_)
        refine j_aload_n C dL_law_717 2 rfl rfl ?_
        refine L_aload_n C dL_law_718 0 rfl rfl ?_
        refine j_iload_n C dL_law_719 3 rfl rfl ?_
        refine j_iconst C (1 : Int32) dL_law_720 (by decide) ?_
        refine j_iadd C dL_law_721 ?_
        refine L_iaload C hX dL_law_722 (fun x176 => ?_)
        refine j_cIp (st := [.int x175]) (fun x e => ⟨runsV C wml_L_124 wce_X7_count (c_X7_count (bL B) (bD B) _ _ _ x e).1 rfl rfl rfl rfl rfl dL_law_723, (c_X7_count (bL B) (bD B) _ _ _ x e).2⟩) (fun x177 => ?_)
        refine j_icmp_eq C 731 dL_law_726 (by decide) (fun c178 => ?_) (fun c178 => ?_)
        · exact hk13 h8
        · refine j_iconst C (0 : Int32) dL_law_729 (by decide) ?_
          exact L_ret C hs0 rfl rfl dL_law_730
    · exact hk13 h8
