/-! ===== heaps in their normal form: a shape and its numbers ===== -/
abbrev Shp : Type := (Nat × Nat) ⊕ (Nat × List (Option Nat)) ⊕ Option HE
abbrev sA (t n : Nat) : Shp := .inl (t, n)
abbrev sO (ci : Nat) (fs : List (Option Nat)) : Shp := .inr (.inl (ci, fs))
abbrev sC (e : HE) : Shp := .inr (.inr (some e))
abbrev sN : Shp := .inr (.inr none)
def fvs (row : Nat → Int32) : Nat → List (Option Nat) → List Value
  | _, [] => []
  | k, some r :: fs => .ref r :: fvs row (k + 1) fs
  | k, none :: fs => .int (row k) :: fvs row (k + 1) fs
def mkc (s : Shp) (row : Nat → Int32) : HE := match s with
  | .inl (t, n) => aI t n row
  | .inr (.inl (ci, fs)) => oB ci (fvs row 0 fs)
  | .inr (.inr (some e)) => e
  | .inr (.inr none) => oB 0 []
def HH (sh : Nat → Shp) (c : Nat → Nat → Int32) (z : Nat × Nat) : Hp := (fun a => mkc (sh a) (c a), z)
def u2 (c : Nat → Nat → Int32) (a k : Nat) (x : Int32) : Nat → Nat → Int32 := fun b j => if b = a then (if j = k then x else c b j) else c b j
def uR (c : Nat → Nat → Int32) (a : Nat) (f : Nat → Int32) : Nat → Nat → Int32 := fun b => if b = a then f else c b
def uS (sh : Nat → Shp) (a : Nat) (s : Shp) : Nat → Shp := fun b => if b = a then s else sh b
def Wz (sh : Nat → Shp) (z : Nat × Nat) : Prop := ∀ a, z.1 ≤ a → sh a = sN
theorem Wz.lt {sh : Nat → Shp} {z : Nat × Nat} (W : Wz sh z) {a : Nat} (h : sh a ≠ sN) : a < z.1 := by
  rcases Nat.lt_or_ge a z.1 with q | q
  · exact q
  · exact absurd (W a q) h
theorem u2_same (c : Nat → Nat → Int32) (a k : Nat) (x : Int32) : u2 c a k x a k = x := by simp [u2]
theorem u2_ne (c : Nat → Nat → Int32) {a k b j : Nat} (x : Int32) (h : b ≠ a ∨ j ≠ k) : u2 c a k x b j = c b j := by
  unfold u2
  rcases h with h | h
  · rw [if_neg h]
  · by_cases hb : b = a
    · rw [if_pos hb, if_neg h]
    · rw [if_neg hb]
theorem u2_row (c : Nat → Nat → Int32) (a k : Nat) (x : Int32) : u2 c a k x a = upd (c a) k x := by
  funext j
  simp [u2, upd]
theorem u2_other (c : Nat → Nat → Int32) {a b : Nat} (k : Nat) (x : Int32) (h : b ≠ a) : u2 c a k x b = c b := by
  funext j
  simp [u2, h]
theorem uR_same (c : Nat → Nat → Int32) (a : Nat) (f : Nat → Int32) : uR c a f a = f := by simp [uR]
theorem uR_other (c : Nat → Nat → Int32) {a b : Nat} (f : Nat → Int32) (h : b ≠ a) : uR c a f b = c b := by simp [uR, h]
theorem fvs_get (row : Nat → Int32) : ∀ (fs : List (Option Nat)) (o k : Nat), (fvs row o fs)[k]? = (fs[k]?).map (fun q => match q with | some r => .ref r | none => .int (row (o + k))) := by
  intro fs
  induction fs with
  | nil => intro o k; rfl
  | cons q fs ih =>
    intro o k
    cases q with
    | none =>
      cases k with
      | zero => rfl
      | succ k =>
        show (fvs row (o + 1) fs)[k]? = _
        rw [ih, List.getElem?_cons_succ, show o + 1 + k = o + (k + 1) by omega]
    | some r =>
      cases k with
      | zero => rfl
      | succ k =>
        show (fvs row (o + 1) fs)[k]? = _
        rw [ih, List.getElem?_cons_succ, show o + 1 + k = o + (k + 1) by omega]
theorem fvs_len (row : Nat → Int32) : ∀ (fs : List (Option Nat)) (o : Nat), (fvs row o fs).length = fs.length := by
  intro fs
  induction fs with
  | nil => intro o; rfl
  | cons q fs ih => intro o; cases q <;> simp [fvs, ih]
theorem fvs_congr {row row' : Nat → Int32} : ∀ (fs : List (Option Nat)) (o : Nat), (∀ k, o ≤ k → row k = row' k) → fvs row o fs = fvs row' o fs := by
  intro fs
  induction fs with
  | nil => intro o h; rfl
  | cons q fs ih =>
    intro o h
    cases q with
    | none => simp only [fvs]; rw [h o (Nat.le_refl o), ih (o + 1) (fun k hk => h k (by omega))]
    | some r => simp only [fvs]; rw [ih (o + 1) (fun k hk => h k (by omega))]
theorem fvs_set (row : Nat → Int32) (x : Int32) : ∀ (fs : List (Option Nat)) (o k : Nat), fs[k]? = some none → (fvs row o fs).set k (.int x) = fvs (upd row (o + k) x) o fs := by
  intro fs
  induction fs with
  | nil => intro o k h; simp at h
  | cons q fs ih =>
    intro o k h
    cases k with
    | zero =>
      simp at h
      subst h
      simp only [fvs, List.set_cons_zero, Nat.add_zero]
      rw [fvs_congr (row := row) (row' := upd row o x) fs (o + 1) (fun k hk => by rw [upd, if_neg (by omega)])]
      simp [upd]
    | succ k =>
      rw [List.getElem?_cons_succ] at h
      have e := ih (o + 1) k h
      rw [show o + 1 + k = o + (k + 1) by omega] at e
      cases q with
      | none => simp only [fvs, List.set_cons_succ, e]; rw [upd, if_neg (by omega)]
      | some r => simp only [fvs, List.set_cons_succ, e]
theorem fvs_setR (row : Nat → Int32) (r : Nat) : ∀ (fs : List (Option Nat)) (o k : Nat), (fvs row o fs).set k (.ref r) = fvs row o (fs.set k (some r)) := by
  intro fs
  induction fs with
  | nil => intro o k; rfl
  | cons q fs ih =>
    intro o k
    cases k with
    | zero => cases q <;> rfl
    | succ k => cases q <;> simp only [fvs, List.set_cons_succ, ih]
section HHs
variable {sh : Nat → Shp} {c : Nat → Nat → Int32} {z : Nat × Nat} {a ci k t n i r : Nat} {fs : List (Option Nat)} {x : Int32}
theorem HH_at (hs : sh a = sO ci fs) : (HH sh c z).1 a = oB ci (fvs (c a) 0 fs) := by
  show mkc (sh a) (c a) = _
  rw [hs]
  rfl
theorem HG (W : Wz sh z) (hs : sh a = sO ci fs) : gO (HH sh c z) a ci = some (fvs (c a) 0 fs) := by
  have hl : a < (HH sh c z).2.1 := W.lt (a := a) (by rw [hs]; exact fun h => by cases h)
  unfold gO
  rw [if_pos hl, HH_at hs]
  simp
theorem HI (W : Wz sh z) (hs : sh a = sO ci fs) (hk : fs[k]? = some none) : gI (HH sh c z) a ci k = some (c a k) := by
  unfold gI
  rw [HG W hs, bnd_s, fvs_get, hk]
  simp [isI]
theorem HR (W : Wz sh z) (hs : sh a = sO ci fs) (hk : fs[k]? = some (some r)) : gR (HH sh c z) a ci k = some r := by
  unfold gR
  rw [HG W hs, bnd_s, fvs_get, hk]
  simp [isR]
theorem HH_set {e : HE} {c' : Nat → Nat → Int32} {sh' : Nat → Shp} (ha : mkc (sh' a) (c' a) = e) (ho : ∀ b, b ≠ a → mkc (sh' b) (c' b) = mkc (sh b) (c b)) : hset (HH sh c z) a e = HH sh' c' z := by
  unfold hset HH
  congr 1
  funext b
  by_cases hb : b = a
  · subst hb
    simp [ha]
  · simp only [if_neg hb]
    exact (ho b hb).symm
theorem HP (W : Wz sh z) (hs : sh a = sO ci fs) (hk : fs[k]? = some none) : pF (HH sh c z) a ci k (.int x) = some (HH sh (u2 c a k x) z) := by
  unfold pF
  rw [HG W hs, bnd_s, if_pos (by rw [fvs_len]; exact (List.getElem?_eq_some_iff.mp hk).1)]
  congr 1
  refine HH_set ?_ (fun b hb => by rw [u2_other _ _ _ hb])
  rw [hs, u2_row]
  show oB ci _ = oB ci _
  rw [fvs_set _ _ _ _ _ hk, Nat.zero_add]
theorem HPR (W : Wz sh z) (hs : sh a = sO ci fs) (hk : k < fs.length) : pF (HH sh c z) a ci k (.ref r) = some (HH (uS sh a (sO ci (fs.set k (some r)))) c z) := by
  unfold pF
  rw [HG W hs, bnd_s, if_pos (by rw [fvs_len]; exact hk)]
  congr 1
  refine HH_set ?_ (fun b hb => by simp [uS, hb])
  simp only [uS, if_true]
  show oB ci _ = oB ci _
  rw [fvs_setR]
theorem HA (W : Wz sh z) (hs : sh a = sA t n) : arI (HH sh c z) a t = some (n, c a) := by
  have hl : a < (HH sh c z).2.1 := W.lt (a := a) (by rw [hs]; exact fun h => by cases h)
  unfold arI
  rw [if_pos hl]
  show (match mkc (sh a) (c a) with | .inl (t', n, .inl f) => if t' = t then some (n, f) else none | _ => none) = _
  rw [hs]
  simp [mkc]
theorem in_ok {i n : Nat} (hi : i < n) (hn : n ≤ 2147483647) : ¬ (nI i < 0 ∨ n ≤ (nI i).toNatClampNeg) := nI_in hi (by omega)
theorem HL (W : Wz sh z) (hs : sh a = sA t n) (hi : i < n) (hn : n ≤ 2147483647) : ldI t (HH sh c z) a (nI i) = some (c a i) := by
  unfold ldI
  rw [HA W hs, bnd2_s, if_neg (in_ok hi hn), nI_clamp (by omega)]
theorem HS (W : Wz sh z) (hs : sh a = sA t n) (hi : i < n) (hn : n ≤ 2147483647) : stI t (HH sh c z) a (nI i) x = some (HH sh (u2 c a i (nrw t x)) z) := by
  unfold stI
  rw [HA W hs, bnd2_s, if_neg (in_ok hi hn), nI_clamp (by omega)]
  congr 1
  refine HH_set ?_ (fun b hb => by rw [u2_other _ _ _ hb])
  rw [hs, u2_row]
  rfl
theorem HN (W : Wz sh z) (hs : sh a = sA t n) (ht : t < 5) : aLn (HH sh c z) a = some (nI n) := by
  have hl : a < (HH sh c z).2.1 := W.lt (a := a) (by rw [hs]; exact fun h => by cases h)
  unfold aLn
  rw [if_pos hl]
  show (match mkc (sh a) (c a) with | .inl (t, n, _) => if t < 5 then some (Int32.ofNat n) else none | _ => none) = _
  rw [hs]
  show (if t < 5 then some (Int32.ofNat n) else none) = _
  rw [if_pos ht]
  rfl
theorem HCp (W : Wz sh z) {a0 n0 sp dp m : Nat} (hs : sh a = sA 0 n) (hs0 : sh a0 = sA 0 n0) (h0 : sp + m ≤ n0) (h1 : dp + m ≤ n) (hn : n ≤ 2147483647) (hn0 : n0 ≤ 2147483647) : cpI (HH sh c z) a0 (nI sp) a (nI dp) (nI m) = some (HH sh (uR c a (va_cpy (c a0) (c a) sp dp m)) z) := by
  unfold cpI
  rw [HA W hs0, bnd2_s, HA W hs, bnd2_s, if_neg]
  · congr 1
    rw [nI_clamp (by omega), nI_clamp (by omega), nI_clamp (by omega)]
    refine HH_set ?_ (fun b hb => by rw [uR_other _ _ hb])
    rw [hs, uR_same]
    rfl
  · rw [nI_clamp (by omega), nI_clamp (by omega), nI_clamp (by omega)]
    rintro (q | q | q | q | q)
    · exact nI_pos (by omega) q
    · exact nI_pos (by omega) q
    · exact nI_pos (by omega) q
    · omega
    · omega
theorem HcA {e : HE} (hs : sh a = sC e) : (HH sh c z).1 a = e := by
  show mkc (sh a) (c a) = _
  rw [hs]
  rfl
theorem Wz.ltC (W : Wz sh z) {e : HE} (hs : sh a = sC e) : a < z.1 := W.lt (by rw [hs]; exact fun h => by cases h)
theorem HLR (W : Wz sh z) {f : Nat → Option Nat} (hs : sh a = sC (aR n f)) (hi : i < n) (hn : n ≤ 2147483647) : ldR (HH sh c z) a (nI i) = f i := by
  unfold ldR arR
  rw [if_pos (show a < (HH sh c z).2.1 from W.ltC hs), HcA hs]
  simp only [if_true, bnd2_s]
  rw [if_neg (in_ok hi hn), nI_clamp (by omega)]
theorem HSR (W : Wz sh z) {f : Nat → Option Nat} {v : Nat} {ws : List Value} (hs : sh a = sC (aR n f)) (hv : gO (HH sh c z) v 2 = some ws) (hi : i < n) (hn : n ≤ 2147483647) : stR (HH sh c z) a (nI i) v = some (HH (uS sh a (sC (aR n (va_up f i (some v))))) c z) := by
  unfold stR arR
  rw [if_pos (show a < (HH sh c z).2.1 from W.ltC hs), HcA hs]
  simp only [if_true, bnd2_s]
  rw [hv, bnd_s, if_neg (in_ok hi hn), nI_clamp (by omega)]
  congr 1
  exact HH_set (by simp [uS, mkc]) (fun b hb => by simp [uS, hb])
theorem HLL (W : Wz sh z) {f : Nat → Int64} (hs : sh a = sC (aL n f)) (hi : i < n) (hn : n ≤ 2147483647) : ldL (HH sh c z) a (nI i) = some (f i) := by
  unfold ldL arL
  rw [if_pos (show a < (HH sh c z).2.1 from W.ltC hs), HcA hs]
  simp only [if_true, bnd2_s]
  rw [if_neg (in_ok hi hn), nI_clamp (by omega)]
theorem HSL (W : Wz sh z) {f : Nat → Int64} {y : Int64} (hs : sh a = sC (aL n f)) (hi : i < n) (hn : n ≤ 2147483647) : stL (HH sh c z) a (nI i) y = some (HH (uS sh a (sC (aL n (vp_updL f i y)))) c z) := by
  unfold stL arL
  rw [if_pos (show a < (HH sh c z).2.1 from W.ltC hs), HcA hs]
  simp only [if_true, bnd2_s]
  rw [if_neg (in_ok hi hn), nI_clamp (by omega)]
  congr 1
  exact HH_set (by simp [uS, mkc]) (fun b hb => by simp [uS, hb])
theorem HPc (W : Wz sh z) {ws : List Value} {v : Value} (hs : sh a = sC (oB ci ws)) (hk : k < ws.length) : pF (HH sh c z) a ci k v = some (HH (uS sh a (sC (oB ci (ws.set k v)))) c z) := by
  unfold pF gO
  rw [if_pos (show a < (HH sh c z).2.1 from W.ltC hs), HcA hs]
  simp only [if_true, bnd_s]
  rw [if_pos hk]
  congr 1
  exact HH_set (by simp [uS, mkc]) (fun b hb => by simp [uS, hb])
theorem HGc (W : Wz sh z) {ws : List Value} (hs : sh a = sC (oB ci ws)) : gO (HH sh c z) a ci = some ws := by
  unfold gO
  rw [if_pos (show a < (HH sh c z).2.1 from W.ltC hs), HcA hs]
  simp
theorem HnI (W : Wz sh z) (h1 : z.1 + 1 ≤ 600000) (h2 : z.2 + n ≤ 7300000) : nwI t (HH sh c z) (nI n) = some (z.1, HH (uS sh z.1 (sA t n)) (uR c z.1 (fun _ => 0)) (z.1 + 1, z.2 + n)) := by
  unfold nwI
  rw [if_neg (nI_pos (by omega)), nI_clamp (by omega), if_pos ⟨h1, Nat.le_trans h2 rmS_ge⟩]
  congr 2
  unfold hnew HH
  congr 1
  funext b
  by_cases hb : b = z.1
  · subst hb
    simp [uS, uR, mkc]
  · simp [uS, uR, hb]
theorem HnO (W : Wz sh z) {ws : List Value} (h1 : z.1 + 1 ≤ 600000) (h2 : z.2 + ws.length ≤ 7300000) : nwO (HH sh c z) ci ws = some (z.1, HH (uS sh z.1 (sC (oB ci ws))) c (z.1 + 1, z.2 + ws.length)) := by
  unfold nwO
  rw [if_pos ⟨h1, Nat.le_trans h2 rmS_ge⟩]
  congr 2
  unfold hnew HH
  congr 1
  funext b
  by_cases hb : b = z.1
  · subst hb
    simp [uS, mkc]
  · simp [uS, hb]
theorem Wz.new (W : Wz sh z) {s : Shp} {m : Nat} : Wz (uS sh z.1 s) (z.1 + 1, m) := by
  intro b hb
  have hb : z.1 + 1 ≤ b := hb
  simp only [uS, if_neg (show b ≠ z.1 by omega)]
  exact W b (by omega)
theorem Wz.put (W : Wz sh z) {s : Shp} (h : sh a ≠ sN) : Wz (uS sh a s) z := by
  intro b hb
  have := W.lt h
  simp only [uS, if_neg (show b ≠ a by omega)]
  exact W b hb
end HHs
