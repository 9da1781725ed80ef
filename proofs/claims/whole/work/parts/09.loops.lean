/-! ===== loops and joins by arity; switches; the native copy; a contract out of a walk ===== -/
def fuel : Nat := 1000000
def wl0 {ρ : Type} (body : Option ρ → Option ρ) : Nat → Option ρ
  | 0 => none
  | n + 1 => body (wl0 body n)
def wl1 {ρ A1 : Type} (body : (A1 → Option ρ) → A1 → Option ρ) : Nat → A1 → Option ρ
  | 0, _ => none
  | n + 1, x1 => body (wl1 body n) x1
def jn1 {ρ A1 : Type} (K : A1 → Option ρ) (b : (A1 → Option ρ) → Option ρ) : Option ρ := b K
def wl2 {ρ A1 A2 : Type} (body : (A1 → A2 → Option ρ) → A1 → A2 → Option ρ) : Nat → A1 → A2 → Option ρ
  | 0, _, _ => none
  | n + 1, x1, x2 => body (wl2 body n) x1 x2
def jn2 {ρ A1 A2 : Type} (K : A1 → A2 → Option ρ) (b : (A1 → A2 → Option ρ) → Option ρ) : Option ρ := b K
def wl3 {ρ A1 A2 A3 : Type} (body : (A1 → A2 → A3 → Option ρ) → A1 → A2 → A3 → Option ρ) : Nat → A1 → A2 → A3 → Option ρ
  | 0, _, _, _ => none
  | n + 1, x1, x2, x3 => body (wl3 body n) x1 x2 x3
def jn3 {ρ A1 A2 A3 : Type} (K : A1 → A2 → A3 → Option ρ) (b : (A1 → A2 → A3 → Option ρ) → Option ρ) : Option ρ := b K
def wl4 {ρ A1 A2 A3 A4 : Type} (body : (A1 → A2 → A3 → A4 → Option ρ) → A1 → A2 → A3 → A4 → Option ρ) : Nat → A1 → A2 → A3 → A4 → Option ρ
  | 0, _, _, _, _ => none
  | n + 1, x1, x2, x3, x4 => body (wl4 body n) x1 x2 x3 x4
def jn4 {ρ A1 A2 A3 A4 : Type} (K : A1 → A2 → A3 → A4 → Option ρ) (b : (A1 → A2 → A3 → A4 → Option ρ) → Option ρ) : Option ρ := b K
def wl5 {ρ A1 A2 A3 A4 A5 : Type} (body : (A1 → A2 → A3 → A4 → A5 → Option ρ) → A1 → A2 → A3 → A4 → A5 → Option ρ) : Nat → A1 → A2 → A3 → A4 → A5 → Option ρ
  | 0, _, _, _, _, _ => none
  | n + 1, x1, x2, x3, x4, x5 => body (wl5 body n) x1 x2 x3 x4 x5
def jn5 {ρ A1 A2 A3 A4 A5 : Type} (K : A1 → A2 → A3 → A4 → A5 → Option ρ) (b : (A1 → A2 → A3 → A4 → A5 → Option ρ) → Option ρ) : Option ρ := b K
def wl6 {ρ A1 A2 A3 A4 A5 A6 : Type} (body : (A1 → A2 → A3 → A4 → A5 → A6 → Option ρ) → A1 → A2 → A3 → A4 → A5 → A6 → Option ρ) : Nat → A1 → A2 → A3 → A4 → A5 → A6 → Option ρ
  | 0, _, _, _, _, _, _ => none
  | n + 1, x1, x2, x3, x4, x5, x6 => body (wl6 body n) x1 x2 x3 x4 x5 x6
def jn6 {ρ A1 A2 A3 A4 A5 A6 : Type} (K : A1 → A2 → A3 → A4 → A5 → A6 → Option ρ) (b : (A1 → A2 → A3 → A4 → A5 → A6 → Option ρ) → Option ρ) : Option ρ := b K
def wl7 {ρ A1 A2 A3 A4 A5 A6 A7 : Type} (body : (A1 → A2 → A3 → A4 → A5 → A6 → A7 → Option ρ) → A1 → A2 → A3 → A4 → A5 → A6 → A7 → Option ρ) : Nat → A1 → A2 → A3 → A4 → A5 → A6 → A7 → Option ρ
  | 0, _, _, _, _, _, _, _ => none
  | n + 1, x1, x2, x3, x4, x5, x6, x7 => body (wl7 body n) x1 x2 x3 x4 x5 x6 x7
def jn7 {ρ A1 A2 A3 A4 A5 A6 A7 : Type} (K : A1 → A2 → A3 → A4 → A5 → A6 → A7 → Option ρ) (b : (A1 → A2 → A3 → A4 → A5 → A6 → A7 → Option ρ) → Option ρ) : Option ρ := b K
def wl8 {ρ A1 A2 A3 A4 A5 A6 A7 A8 : Type} (body : (A1 → A2 → A3 → A4 → A5 → A6 → A7 → A8 → Option ρ) → A1 → A2 → A3 → A4 → A5 → A6 → A7 → A8 → Option ρ) : Nat → A1 → A2 → A3 → A4 → A5 → A6 → A7 → A8 → Option ρ
  | 0, _, _, _, _, _, _, _, _ => none
  | n + 1, x1, x2, x3, x4, x5, x6, x7, x8 => body (wl8 body n) x1 x2 x3 x4 x5 x6 x7 x8
def jn8 {ρ A1 A2 A3 A4 A5 A6 A7 A8 : Type} (K : A1 → A2 → A3 → A4 → A5 → A6 → A7 → A8 → Option ρ) (b : (A1 → A2 → A3 → A4 → A5 → A6 → A7 → A8 → Option ρ) → Option ρ) : Option ρ := b K
def wl9 {ρ A1 A2 A3 A4 A5 A6 A7 A8 A9 : Type} (body : (A1 → A2 → A3 → A4 → A5 → A6 → A7 → A8 → A9 → Option ρ) → A1 → A2 → A3 → A4 → A5 → A6 → A7 → A8 → A9 → Option ρ) : Nat → A1 → A2 → A3 → A4 → A5 → A6 → A7 → A8 → A9 → Option ρ
  | 0, _, _, _, _, _, _, _, _, _ => none
  | n + 1, x1, x2, x3, x4, x5, x6, x7, x8, x9 => body (wl9 body n) x1 x2 x3 x4 x5 x6 x7 x8 x9
def jn9 {ρ A1 A2 A3 A4 A5 A6 A7 A8 A9 : Type} (K : A1 → A2 → A3 → A4 → A5 → A6 → A7 → A8 → A9 → Option ρ) (b : (A1 → A2 → A3 → A4 → A5 → A6 → A7 → A8 → A9 → Option ρ) → Option ρ) : Option ρ := b K
def jn0 {ρ : Type} (K : Option ρ) (b : Option ρ → Option ρ) : Option ρ := b K
section LR
variable {ρ : Type} {B : Bx} {Qf : ρ → State → Prop} {t : Option ρ} {h : Hp} {pc pc' : Nat} {lv lv' : List (Nat × Value)} {st st' stk : List Value} {cc : ByteArray} {own : String} {ret : Option FieldType} {nL n0 s0 kF kL : Nat}
theorem J.wl0 {body : Option ρ → Option ρ} (hb : ∀ rec : Option ρ, J B Qf rec h pc lv st → J B Qf (body rec) h pc lv st) : ∀ n : Nat, J B Qf (wl0 body n) h pc lv st := by
  intro n
  induction n with
  | zero => exact J.none
  | succ n ih => exact hb _ ih
theorem J.jn0 {K : Option ρ} {b : Option ρ → Option ρ} {h0 : Hp} {lv0 : List (Nat × Value)} {st0 : List Value} (pc0 : Nat) (hK : J B Qf K h0 pc0 lv0 st0) (hb : ∀ k : Option ρ, J B Qf k h0 pc0 lv0 st0 → J B Qf (b k) h pc lv st) : J B Qf (jn0 K b) h pc lv st := hb K hK
theorem J.wl1 {A1 : Type} {body : (A1 → Option ρ) → A1 → Option ρ} (pcL : Nat) (hh : A1 → Hp) (lvv : A1 → List (Nat × Value)) (sk : A1 → List Value) (hb : ∀ (rec : A1 → Option ρ), (∀ (x1 : A1), J B Qf (rec x1) (hh x1) pcL (lvv x1) (sk x1)) → ∀ (x1 : A1), J B Qf (body rec x1) (hh x1) pcL (lvv x1) (sk x1)) : ∀ (n : Nat) (x1 : A1), J B Qf (wl1 body n x1) (hh x1) pcL (lvv x1) (sk x1) := by
  intro n
  induction n with
  | zero => intro x1; exact J.none
  | succ n ih => intro x1; exact hb _ ih x1
theorem J.jn1 {A1 : Type} {K : A1 → Option ρ} {b : (A1 → Option ρ) → Option ρ} (pc0 : Nat) (hh : A1 → Hp) (lvv : A1 → List (Nat × Value)) (sk : A1 → List Value) (hK : ∀ (x1 : A1), J B Qf (K x1) (hh x1) pc0 (lvv x1) (sk x1)) (hb : ∀ k : A1 → Option ρ, (∀ (x1 : A1), J B Qf (k x1) (hh x1) pc0 (lvv x1) (sk x1)) → J B Qf (b k) h pc lv st) : J B Qf (jn1 K b) h pc lv st := hb K hK
theorem J.wl2 {A1 A2 : Type} {body : (A1 → A2 → Option ρ) → A1 → A2 → Option ρ} (pcL : Nat) (hh : A1 → A2 → Hp) (lvv : A1 → A2 → List (Nat × Value)) (sk : A1 → A2 → List Value) (hb : ∀ (rec : A1 → A2 → Option ρ), (∀ (x1 : A1) (x2 : A2), J B Qf (rec x1 x2) (hh x1 x2) pcL (lvv x1 x2) (sk x1 x2)) → ∀ (x1 : A1) (x2 : A2), J B Qf (body rec x1 x2) (hh x1 x2) pcL (lvv x1 x2) (sk x1 x2)) : ∀ (n : Nat) (x1 : A1) (x2 : A2), J B Qf (wl2 body n x1 x2) (hh x1 x2) pcL (lvv x1 x2) (sk x1 x2) := by
  intro n
  induction n with
  | zero => intro x1 x2; exact J.none
  | succ n ih => intro x1 x2; exact hb _ ih x1 x2
theorem J.jn2 {A1 A2 : Type} {K : A1 → A2 → Option ρ} {b : (A1 → A2 → Option ρ) → Option ρ} (pc0 : Nat) (hh : A1 → A2 → Hp) (lvv : A1 → A2 → List (Nat × Value)) (sk : A1 → A2 → List Value) (hK : ∀ (x1 : A1) (x2 : A2), J B Qf (K x1 x2) (hh x1 x2) pc0 (lvv x1 x2) (sk x1 x2)) (hb : ∀ k : A1 → A2 → Option ρ, (∀ (x1 : A1) (x2 : A2), J B Qf (k x1 x2) (hh x1 x2) pc0 (lvv x1 x2) (sk x1 x2)) → J B Qf (b k) h pc lv st) : J B Qf (jn2 K b) h pc lv st := hb K hK
theorem J.wl3 {A1 A2 A3 : Type} {body : (A1 → A2 → A3 → Option ρ) → A1 → A2 → A3 → Option ρ} (pcL : Nat) (hh : A1 → A2 → A3 → Hp) (lvv : A1 → A2 → A3 → List (Nat × Value)) (sk : A1 → A2 → A3 → List Value) (hb : ∀ (rec : A1 → A2 → A3 → Option ρ), (∀ (x1 : A1) (x2 : A2) (x3 : A3), J B Qf (rec x1 x2 x3) (hh x1 x2 x3) pcL (lvv x1 x2 x3) (sk x1 x2 x3)) → ∀ (x1 : A1) (x2 : A2) (x3 : A3), J B Qf (body rec x1 x2 x3) (hh x1 x2 x3) pcL (lvv x1 x2 x3) (sk x1 x2 x3)) : ∀ (n : Nat) (x1 : A1) (x2 : A2) (x3 : A3), J B Qf (wl3 body n x1 x2 x3) (hh x1 x2 x3) pcL (lvv x1 x2 x3) (sk x1 x2 x3) := by
  intro n
  induction n with
  | zero => intro x1 x2 x3; exact J.none
  | succ n ih => intro x1 x2 x3; exact hb _ ih x1 x2 x3
theorem J.jn3 {A1 A2 A3 : Type} {K : A1 → A2 → A3 → Option ρ} {b : (A1 → A2 → A3 → Option ρ) → Option ρ} (pc0 : Nat) (hh : A1 → A2 → A3 → Hp) (lvv : A1 → A2 → A3 → List (Nat × Value)) (sk : A1 → A2 → A3 → List Value) (hK : ∀ (x1 : A1) (x2 : A2) (x3 : A3), J B Qf (K x1 x2 x3) (hh x1 x2 x3) pc0 (lvv x1 x2 x3) (sk x1 x2 x3)) (hb : ∀ k : A1 → A2 → A3 → Option ρ, (∀ (x1 : A1) (x2 : A2) (x3 : A3), J B Qf (k x1 x2 x3) (hh x1 x2 x3) pc0 (lvv x1 x2 x3) (sk x1 x2 x3)) → J B Qf (b k) h pc lv st) : J B Qf (jn3 K b) h pc lv st := hb K hK
theorem J.wl4 {A1 A2 A3 A4 : Type} {body : (A1 → A2 → A3 → A4 → Option ρ) → A1 → A2 → A3 → A4 → Option ρ} (pcL : Nat) (hh : A1 → A2 → A3 → A4 → Hp) (lvv : A1 → A2 → A3 → A4 → List (Nat × Value)) (sk : A1 → A2 → A3 → A4 → List Value) (hb : ∀ (rec : A1 → A2 → A3 → A4 → Option ρ), (∀ (x1 : A1) (x2 : A2) (x3 : A3) (x4 : A4), J B Qf (rec x1 x2 x3 x4) (hh x1 x2 x3 x4) pcL (lvv x1 x2 x3 x4) (sk x1 x2 x3 x4)) → ∀ (x1 : A1) (x2 : A2) (x3 : A3) (x4 : A4), J B Qf (body rec x1 x2 x3 x4) (hh x1 x2 x3 x4) pcL (lvv x1 x2 x3 x4) (sk x1 x2 x3 x4)) : ∀ (n : Nat) (x1 : A1) (x2 : A2) (x3 : A3) (x4 : A4), J B Qf (wl4 body n x1 x2 x3 x4) (hh x1 x2 x3 x4) pcL (lvv x1 x2 x3 x4) (sk x1 x2 x3 x4) := by
  intro n
  induction n with
  | zero => intro x1 x2 x3 x4; exact J.none
  | succ n ih => intro x1 x2 x3 x4; exact hb _ ih x1 x2 x3 x4
theorem J.jn4 {A1 A2 A3 A4 : Type} {K : A1 → A2 → A3 → A4 → Option ρ} {b : (A1 → A2 → A3 → A4 → Option ρ) → Option ρ} (pc0 : Nat) (hh : A1 → A2 → A3 → A4 → Hp) (lvv : A1 → A2 → A3 → A4 → List (Nat × Value)) (sk : A1 → A2 → A3 → A4 → List Value) (hK : ∀ (x1 : A1) (x2 : A2) (x3 : A3) (x4 : A4), J B Qf (K x1 x2 x3 x4) (hh x1 x2 x3 x4) pc0 (lvv x1 x2 x3 x4) (sk x1 x2 x3 x4)) (hb : ∀ k : A1 → A2 → A3 → A4 → Option ρ, (∀ (x1 : A1) (x2 : A2) (x3 : A3) (x4 : A4), J B Qf (k x1 x2 x3 x4) (hh x1 x2 x3 x4) pc0 (lvv x1 x2 x3 x4) (sk x1 x2 x3 x4)) → J B Qf (b k) h pc lv st) : J B Qf (jn4 K b) h pc lv st := hb K hK
theorem J.wl5 {A1 A2 A3 A4 A5 : Type} {body : (A1 → A2 → A3 → A4 → A5 → Option ρ) → A1 → A2 → A3 → A4 → A5 → Option ρ} (pcL : Nat) (hh : A1 → A2 → A3 → A4 → A5 → Hp) (lvv : A1 → A2 → A3 → A4 → A5 → List (Nat × Value)) (sk : A1 → A2 → A3 → A4 → A5 → List Value) (hb : ∀ (rec : A1 → A2 → A3 → A4 → A5 → Option ρ), (∀ (x1 : A1) (x2 : A2) (x3 : A3) (x4 : A4) (x5 : A5), J B Qf (rec x1 x2 x3 x4 x5) (hh x1 x2 x3 x4 x5) pcL (lvv x1 x2 x3 x4 x5) (sk x1 x2 x3 x4 x5)) → ∀ (x1 : A1) (x2 : A2) (x3 : A3) (x4 : A4) (x5 : A5), J B Qf (body rec x1 x2 x3 x4 x5) (hh x1 x2 x3 x4 x5) pcL (lvv x1 x2 x3 x4 x5) (sk x1 x2 x3 x4 x5)) : ∀ (n : Nat) (x1 : A1) (x2 : A2) (x3 : A3) (x4 : A4) (x5 : A5), J B Qf (wl5 body n x1 x2 x3 x4 x5) (hh x1 x2 x3 x4 x5) pcL (lvv x1 x2 x3 x4 x5) (sk x1 x2 x3 x4 x5) := by
  intro n
  induction n with
  | zero => intro x1 x2 x3 x4 x5; exact J.none
  | succ n ih => intro x1 x2 x3 x4 x5; exact hb _ ih x1 x2 x3 x4 x5
theorem J.jn5 {A1 A2 A3 A4 A5 : Type} {K : A1 → A2 → A3 → A4 → A5 → Option ρ} {b : (A1 → A2 → A3 → A4 → A5 → Option ρ) → Option ρ} (pc0 : Nat) (hh : A1 → A2 → A3 → A4 → A5 → Hp) (lvv : A1 → A2 → A3 → A4 → A5 → List (Nat × Value)) (sk : A1 → A2 → A3 → A4 → A5 → List Value) (hK : ∀ (x1 : A1) (x2 : A2) (x3 : A3) (x4 : A4) (x5 : A5), J B Qf (K x1 x2 x3 x4 x5) (hh x1 x2 x3 x4 x5) pc0 (lvv x1 x2 x3 x4 x5) (sk x1 x2 x3 x4 x5)) (hb : ∀ k : A1 → A2 → A3 → A4 → A5 → Option ρ, (∀ (x1 : A1) (x2 : A2) (x3 : A3) (x4 : A4) (x5 : A5), J B Qf (k x1 x2 x3 x4 x5) (hh x1 x2 x3 x4 x5) pc0 (lvv x1 x2 x3 x4 x5) (sk x1 x2 x3 x4 x5)) → J B Qf (b k) h pc lv st) : J B Qf (jn5 K b) h pc lv st := hb K hK
theorem J.wl6 {A1 A2 A3 A4 A5 A6 : Type} {body : (A1 → A2 → A3 → A4 → A5 → A6 → Option ρ) → A1 → A2 → A3 → A4 → A5 → A6 → Option ρ} (pcL : Nat) (hh : A1 → A2 → A3 → A4 → A5 → A6 → Hp) (lvv : A1 → A2 → A3 → A4 → A5 → A6 → List (Nat × Value)) (sk : A1 → A2 → A3 → A4 → A5 → A6 → List Value) (hb : ∀ (rec : A1 → A2 → A3 → A4 → A5 → A6 → Option ρ), (∀ (x1 : A1) (x2 : A2) (x3 : A3) (x4 : A4) (x5 : A5) (x6 : A6), J B Qf (rec x1 x2 x3 x4 x5 x6) (hh x1 x2 x3 x4 x5 x6) pcL (lvv x1 x2 x3 x4 x5 x6) (sk x1 x2 x3 x4 x5 x6)) → ∀ (x1 : A1) (x2 : A2) (x3 : A3) (x4 : A4) (x5 : A5) (x6 : A6), J B Qf (body rec x1 x2 x3 x4 x5 x6) (hh x1 x2 x3 x4 x5 x6) pcL (lvv x1 x2 x3 x4 x5 x6) (sk x1 x2 x3 x4 x5 x6)) : ∀ (n : Nat) (x1 : A1) (x2 : A2) (x3 : A3) (x4 : A4) (x5 : A5) (x6 : A6), J B Qf (wl6 body n x1 x2 x3 x4 x5 x6) (hh x1 x2 x3 x4 x5 x6) pcL (lvv x1 x2 x3 x4 x5 x6) (sk x1 x2 x3 x4 x5 x6) := by
  intro n
  induction n with
  | zero => intro x1 x2 x3 x4 x5 x6; exact J.none
  | succ n ih => intro x1 x2 x3 x4 x5 x6; exact hb _ ih x1 x2 x3 x4 x5 x6
theorem J.jn6 {A1 A2 A3 A4 A5 A6 : Type} {K : A1 → A2 → A3 → A4 → A5 → A6 → Option ρ} {b : (A1 → A2 → A3 → A4 → A5 → A6 → Option ρ) → Option ρ} (pc0 : Nat) (hh : A1 → A2 → A3 → A4 → A5 → A6 → Hp) (lvv : A1 → A2 → A3 → A4 → A5 → A6 → List (Nat × Value)) (sk : A1 → A2 → A3 → A4 → A5 → A6 → List Value) (hK : ∀ (x1 : A1) (x2 : A2) (x3 : A3) (x4 : A4) (x5 : A5) (x6 : A6), J B Qf (K x1 x2 x3 x4 x5 x6) (hh x1 x2 x3 x4 x5 x6) pc0 (lvv x1 x2 x3 x4 x5 x6) (sk x1 x2 x3 x4 x5 x6)) (hb : ∀ k : A1 → A2 → A3 → A4 → A5 → A6 → Option ρ, (∀ (x1 : A1) (x2 : A2) (x3 : A3) (x4 : A4) (x5 : A5) (x6 : A6), J B Qf (k x1 x2 x3 x4 x5 x6) (hh x1 x2 x3 x4 x5 x6) pc0 (lvv x1 x2 x3 x4 x5 x6) (sk x1 x2 x3 x4 x5 x6)) → J B Qf (b k) h pc lv st) : J B Qf (jn6 K b) h pc lv st := hb K hK
theorem J.wl7 {A1 A2 A3 A4 A5 A6 A7 : Type} {body : (A1 → A2 → A3 → A4 → A5 → A6 → A7 → Option ρ) → A1 → A2 → A3 → A4 → A5 → A6 → A7 → Option ρ} (pcL : Nat) (hh : A1 → A2 → A3 → A4 → A5 → A6 → A7 → Hp) (lvv : A1 → A2 → A3 → A4 → A5 → A6 → A7 → List (Nat × Value)) (sk : A1 → A2 → A3 → A4 → A5 → A6 → A7 → List Value) (hb : ∀ (rec : A1 → A2 → A3 → A4 → A5 → A6 → A7 → Option ρ), (∀ (x1 : A1) (x2 : A2) (x3 : A3) (x4 : A4) (x5 : A5) (x6 : A6) (x7 : A7), J B Qf (rec x1 x2 x3 x4 x5 x6 x7) (hh x1 x2 x3 x4 x5 x6 x7) pcL (lvv x1 x2 x3 x4 x5 x6 x7) (sk x1 x2 x3 x4 x5 x6 x7)) → ∀ (x1 : A1) (x2 : A2) (x3 : A3) (x4 : A4) (x5 : A5) (x6 : A6) (x7 : A7), J B Qf (body rec x1 x2 x3 x4 x5 x6 x7) (hh x1 x2 x3 x4 x5 x6 x7) pcL (lvv x1 x2 x3 x4 x5 x6 x7) (sk x1 x2 x3 x4 x5 x6 x7)) : ∀ (n : Nat) (x1 : A1) (x2 : A2) (x3 : A3) (x4 : A4) (x5 : A5) (x6 : A6) (x7 : A7), J B Qf (wl7 body n x1 x2 x3 x4 x5 x6 x7) (hh x1 x2 x3 x4 x5 x6 x7) pcL (lvv x1 x2 x3 x4 x5 x6 x7) (sk x1 x2 x3 x4 x5 x6 x7) := by
  intro n
  induction n with
  | zero => intro x1 x2 x3 x4 x5 x6 x7; exact J.none
  | succ n ih => intro x1 x2 x3 x4 x5 x6 x7; exact hb _ ih x1 x2 x3 x4 x5 x6 x7
theorem J.jn7 {A1 A2 A3 A4 A5 A6 A7 : Type} {K : A1 → A2 → A3 → A4 → A5 → A6 → A7 → Option ρ} {b : (A1 → A2 → A3 → A4 → A5 → A6 → A7 → Option ρ) → Option ρ} (pc0 : Nat) (hh : A1 → A2 → A3 → A4 → A5 → A6 → A7 → Hp) (lvv : A1 → A2 → A3 → A4 → A5 → A6 → A7 → List (Nat × Value)) (sk : A1 → A2 → A3 → A4 → A5 → A6 → A7 → List Value) (hK : ∀ (x1 : A1) (x2 : A2) (x3 : A3) (x4 : A4) (x5 : A5) (x6 : A6) (x7 : A7), J B Qf (K x1 x2 x3 x4 x5 x6 x7) (hh x1 x2 x3 x4 x5 x6 x7) pc0 (lvv x1 x2 x3 x4 x5 x6 x7) (sk x1 x2 x3 x4 x5 x6 x7)) (hb : ∀ k : A1 → A2 → A3 → A4 → A5 → A6 → A7 → Option ρ, (∀ (x1 : A1) (x2 : A2) (x3 : A3) (x4 : A4) (x5 : A5) (x6 : A6) (x7 : A7), J B Qf (k x1 x2 x3 x4 x5 x6 x7) (hh x1 x2 x3 x4 x5 x6 x7) pc0 (lvv x1 x2 x3 x4 x5 x6 x7) (sk x1 x2 x3 x4 x5 x6 x7)) → J B Qf (b k) h pc lv st) : J B Qf (jn7 K b) h pc lv st := hb K hK
theorem J.wl8 {A1 A2 A3 A4 A5 A6 A7 A8 : Type} {body : (A1 → A2 → A3 → A4 → A5 → A6 → A7 → A8 → Option ρ) → A1 → A2 → A3 → A4 → A5 → A6 → A7 → A8 → Option ρ} (pcL : Nat) (hh : A1 → A2 → A3 → A4 → A5 → A6 → A7 → A8 → Hp) (lvv : A1 → A2 → A3 → A4 → A5 → A6 → A7 → A8 → List (Nat × Value)) (sk : A1 → A2 → A3 → A4 → A5 → A6 → A7 → A8 → List Value) (hb : ∀ (rec : A1 → A2 → A3 → A4 → A5 → A6 → A7 → A8 → Option ρ), (∀ (x1 : A1) (x2 : A2) (x3 : A3) (x4 : A4) (x5 : A5) (x6 : A6) (x7 : A7) (x8 : A8), J B Qf (rec x1 x2 x3 x4 x5 x6 x7 x8) (hh x1 x2 x3 x4 x5 x6 x7 x8) pcL (lvv x1 x2 x3 x4 x5 x6 x7 x8) (sk x1 x2 x3 x4 x5 x6 x7 x8)) → ∀ (x1 : A1) (x2 : A2) (x3 : A3) (x4 : A4) (x5 : A5) (x6 : A6) (x7 : A7) (x8 : A8), J B Qf (body rec x1 x2 x3 x4 x5 x6 x7 x8) (hh x1 x2 x3 x4 x5 x6 x7 x8) pcL (lvv x1 x2 x3 x4 x5 x6 x7 x8) (sk x1 x2 x3 x4 x5 x6 x7 x8)) : ∀ (n : Nat) (x1 : A1) (x2 : A2) (x3 : A3) (x4 : A4) (x5 : A5) (x6 : A6) (x7 : A7) (x8 : A8), J B Qf (wl8 body n x1 x2 x3 x4 x5 x6 x7 x8) (hh x1 x2 x3 x4 x5 x6 x7 x8) pcL (lvv x1 x2 x3 x4 x5 x6 x7 x8) (sk x1 x2 x3 x4 x5 x6 x7 x8) := by
  intro n
  induction n with
  | zero => intro x1 x2 x3 x4 x5 x6 x7 x8; exact J.none
  | succ n ih => intro x1 x2 x3 x4 x5 x6 x7 x8; exact hb _ ih x1 x2 x3 x4 x5 x6 x7 x8
theorem J.jn8 {A1 A2 A3 A4 A5 A6 A7 A8 : Type} {K : A1 → A2 → A3 → A4 → A5 → A6 → A7 → A8 → Option ρ} {b : (A1 → A2 → A3 → A4 → A5 → A6 → A7 → A8 → Option ρ) → Option ρ} (pc0 : Nat) (hh : A1 → A2 → A3 → A4 → A5 → A6 → A7 → A8 → Hp) (lvv : A1 → A2 → A3 → A4 → A5 → A6 → A7 → A8 → List (Nat × Value)) (sk : A1 → A2 → A3 → A4 → A5 → A6 → A7 → A8 → List Value) (hK : ∀ (x1 : A1) (x2 : A2) (x3 : A3) (x4 : A4) (x5 : A5) (x6 : A6) (x7 : A7) (x8 : A8), J B Qf (K x1 x2 x3 x4 x5 x6 x7 x8) (hh x1 x2 x3 x4 x5 x6 x7 x8) pc0 (lvv x1 x2 x3 x4 x5 x6 x7 x8) (sk x1 x2 x3 x4 x5 x6 x7 x8)) (hb : ∀ k : A1 → A2 → A3 → A4 → A5 → A6 → A7 → A8 → Option ρ, (∀ (x1 : A1) (x2 : A2) (x3 : A3) (x4 : A4) (x5 : A5) (x6 : A6) (x7 : A7) (x8 : A8), J B Qf (k x1 x2 x3 x4 x5 x6 x7 x8) (hh x1 x2 x3 x4 x5 x6 x7 x8) pc0 (lvv x1 x2 x3 x4 x5 x6 x7 x8) (sk x1 x2 x3 x4 x5 x6 x7 x8)) → J B Qf (b k) h pc lv st) : J B Qf (jn8 K b) h pc lv st := hb K hK
theorem J.wl9 {A1 A2 A3 A4 A5 A6 A7 A8 A9 : Type} {body : (A1 → A2 → A3 → A4 → A5 → A6 → A7 → A8 → A9 → Option ρ) → A1 → A2 → A3 → A4 → A5 → A6 → A7 → A8 → A9 → Option ρ} (pcL : Nat) (hh : A1 → A2 → A3 → A4 → A5 → A6 → A7 → A8 → A9 → Hp) (lvv : A1 → A2 → A3 → A4 → A5 → A6 → A7 → A8 → A9 → List (Nat × Value)) (sk : A1 → A2 → A3 → A4 → A5 → A6 → A7 → A8 → A9 → List Value) (hb : ∀ (rec : A1 → A2 → A3 → A4 → A5 → A6 → A7 → A8 → A9 → Option ρ), (∀ (x1 : A1) (x2 : A2) (x3 : A3) (x4 : A4) (x5 : A5) (x6 : A6) (x7 : A7) (x8 : A8) (x9 : A9), J B Qf (rec x1 x2 x3 x4 x5 x6 x7 x8 x9) (hh x1 x2 x3 x4 x5 x6 x7 x8 x9) pcL (lvv x1 x2 x3 x4 x5 x6 x7 x8 x9) (sk x1 x2 x3 x4 x5 x6 x7 x8 x9)) → ∀ (x1 : A1) (x2 : A2) (x3 : A3) (x4 : A4) (x5 : A5) (x6 : A6) (x7 : A7) (x8 : A8) (x9 : A9), J B Qf (body rec x1 x2 x3 x4 x5 x6 x7 x8 x9) (hh x1 x2 x3 x4 x5 x6 x7 x8 x9) pcL (lvv x1 x2 x3 x4 x5 x6 x7 x8 x9) (sk x1 x2 x3 x4 x5 x6 x7 x8 x9)) : ∀ (n : Nat) (x1 : A1) (x2 : A2) (x3 : A3) (x4 : A4) (x5 : A5) (x6 : A6) (x7 : A7) (x8 : A8) (x9 : A9), J B Qf (wl9 body n x1 x2 x3 x4 x5 x6 x7 x8 x9) (hh x1 x2 x3 x4 x5 x6 x7 x8 x9) pcL (lvv x1 x2 x3 x4 x5 x6 x7 x8 x9) (sk x1 x2 x3 x4 x5 x6 x7 x8 x9) := by
  intro n
  induction n with
  | zero => intro x1 x2 x3 x4 x5 x6 x7 x8 x9; exact J.none
  | succ n ih => intro x1 x2 x3 x4 x5 x6 x7 x8 x9; exact hb _ ih x1 x2 x3 x4 x5 x6 x7 x8 x9
theorem J.jn9 {A1 A2 A3 A4 A5 A6 A7 A8 A9 : Type} {K : A1 → A2 → A3 → A4 → A5 → A6 → A7 → A8 → A9 → Option ρ} {b : (A1 → A2 → A3 → A4 → A5 → A6 → A7 → A8 → A9 → Option ρ) → Option ρ} (pc0 : Nat) (hh : A1 → A2 → A3 → A4 → A5 → A6 → A7 → A8 → A9 → Hp) (lvv : A1 → A2 → A3 → A4 → A5 → A6 → A7 → A8 → A9 → List (Nat × Value)) (sk : A1 → A2 → A3 → A4 → A5 → A6 → A7 → A8 → A9 → List Value) (hK : ∀ (x1 : A1) (x2 : A2) (x3 : A3) (x4 : A4) (x5 : A5) (x6 : A6) (x7 : A7) (x8 : A8) (x9 : A9), J B Qf (K x1 x2 x3 x4 x5 x6 x7 x8 x9) (hh x1 x2 x3 x4 x5 x6 x7 x8 x9) pc0 (lvv x1 x2 x3 x4 x5 x6 x7 x8 x9) (sk x1 x2 x3 x4 x5 x6 x7 x8 x9)) (hb : ∀ k : A1 → A2 → A3 → A4 → A5 → A6 → A7 → A8 → A9 → Option ρ, (∀ (x1 : A1) (x2 : A2) (x3 : A3) (x4 : A4) (x5 : A5) (x6 : A6) (x7 : A7) (x8 : A8) (x9 : A9), J B Qf (k x1 x2 x3 x4 x5 x6 x7 x8 x9) (hh x1 x2 x3 x4 x5 x6 x7 x8 x9) pc0 (lvv x1 x2 x3 x4 x5 x6 x7 x8 x9) (sk x1 x2 x3 x4 x5 x6 x7 x8 x9)) → J B Qf (b k) h pc lv st) : J B Qf (jn9 K b) h pc lv st := hb K hK
end LR
/-! switches -/
def sw {ρ : Type} (x : Int32) : List (Int32 × Nat × Option ρ) → Option ρ → Option ρ
  | [], d => d
  | q :: cs, d => if x = q.1 then q.2.2 else sw x cs d
def swJ {ρ : Type} (B : Bx) (Qf : ρ → State → Prop) (h : Hp) (lv : List (Nat × Value)) (st : List Value) (x : Int32) : List (Int32 × Nat × Option ρ) → Prop
  | [] => True
  | q :: cs => (x = q.1 → J B Qf q.2.2 h q.2.1 lv st) ∧ swJ B Qf h lv st x cs
def tabOK (pc : Nat) : Int → List Int → List (Int32 × Nat) → Bool
  | _, [], [] => true
  | lo, o :: os, q :: ks => (q.1.toInt == lo) && ((pc : Int) + o == (q.2 : Int)) && tabOK pc (lo + 1) os ks
  | _, _, _ => false
def lookOK (pc : Nat) : List (Int × Int) → List (Int32 × Nat) → Bool
  | [], [] => true
  | o :: os, q :: ks => (q.1.toInt == o.1) && ((pc : Int) + o.2 == (q.2 : Int)) && lookOK pc os ks
  | _, _ => false
section SW
variable {ρ : Type} {B : Bx} {Qf : ρ → State → Prop} {t : Option ρ} {h : Hp} {pc pc' : Nat} {lv lv' : List (Nat × Value)} {st st' stk : List Value} {cc : ByteArray} {own : String} {ret : Option FieldType} {nL n0 s0 kF kL : Nat}
theorem sw_tab {x : Int32} {dflt : Option ρ} : ∀ (os : List Int) (lo : Int) (cs : List (Int32 × Nat × Option ρ)), tabOK pc lo os (cs.map fun q => (q.1, q.2.1)) = true → swJ B Qf h lv st x cs →
    ((x.toInt < lo ∨ lo + os.length ≤ x.toInt) ∧ sw x cs dflt = dflt) ∨ ∃ (o : Int) (tgt : Nat) (u : Option ρ), lo ≤ x.toInt ∧ x.toInt < lo + os.length ∧ os[(x.toInt - lo).toNat]? = some o ∧ (pc : Int) + o = (tgt : Int) ∧ sw x cs dflt = u ∧ J B Qf u h tgt lv st := by
  intro os
  induction os with
  | nil =>
    intro lo cs hok hs
    cases cs with
    | nil => exact Or.inl ⟨by simp; omega, rfl⟩
    | cons q cs => simp [tabOK] at hok
  | cons o os ih =>
    intro lo cs hok hs
    cases cs with
    | nil => simp [tabOK] at hok
    | cons q cs =>
      obtain ⟨c, tg, u⟩ := q
      simp only [List.map_cons, tabOK, Bool.and_eq_true, beq_iff_eq] at hok
      obtain ⟨⟨h1, h2⟩, h3⟩ := hok
      by_cases hx : x = c
      · refine Or.inr ⟨o, tg, u, ?_, ?_, ?_, h2, ?_, hs.1 hx⟩
        · rw [hx]; omega
        · rw [hx]; simp; omega
        · rw [hx, h1]; simp
        · simp [sw, hx]
      · have hne : x.toInt ≠ lo := fun e => hx (Int32.toInt_inj.mp (e.trans h1.symm))
        rcases ih (lo + 1) cs h3 hs.2 with ⟨g1, g2⟩ | ⟨o', tg', u', g1, g2, g3, g4, g5, g6⟩
        · refine Or.inl ⟨?_, by simp only [sw, if_neg hx]; exact g2⟩
          simp at g1 ⊢
          omega
        · refine Or.inr ⟨o', tg', u', by omega, by simp; omega, ?_, g4, by simp only [sw, if_neg hx]; exact g5, g6⟩
          have e : (x.toInt - lo).toNat = (x.toInt - (lo + 1)).toNat + 1 := by omega
          rw [e, List.getElem?_cons_succ]
          exact g3
theorem j_table (C : Cx B cc own ret nL n0 s0 kF kL) {x : Int32} {dflt lo hi : Int} {offs : Array Int} {len : Nat} {cs : List (Int32 × Nat × Option ρ)} {du : Option ρ} (dtgt : Nat) (ks : List (Int32 × Nat)) (d : decode cc pc = .ok (.tableswitch dflt lo hi offs, len)) (hks : cs.map (fun q => (q.1, q.2.1)) = ks) (hok : tabOK pc lo offs.toList ks = true) (hhi : hi + 1 = lo + offs.toList.length) (hd : (pc : Int) + dflt = (dtgt : Int)) (hs : swJ B Qf h lv st x cs) (kd : J B Qf du h dtgt lv st) : J B Qf (sw x cs du) h pc lv (.int x :: st) := by
  intro r hr H locs ls hR hlo hls
  rw [← hks] at hok
  rcases sw_tab (dflt := du) offs.toList lo cs hok hs with ⟨g1, g2⟩ | ⟨o, tgt, u, g1, g2, g3, g4, g5, g6⟩
  · rw [g2] at hr
    exact lv_tableOut C.1 C.2.1 d (by omega) hd (kd r hr H locs ls hR hlo hls)
  · rw [g5] at hr
    exact lv_tableIn C.1 C.2.1 d (by omega) (by omega) (by rw [← Array.getElem?_toList]; exact g3) g4 (g6 r hr H locs ls hR hlo hls)
theorem sw_look {x : Int32} {dflt : Option ρ} {di : Int} {dtgt : Nat} (hd : (pc : Int) + di = (dtgt : Int)) (kd : J B Qf dflt h dtgt lv st) : ∀ (os : List (Int × Int)) (cs : List (Int32 × Nat × Option ρ)), lookOK pc os (cs.map fun q => (q.1, q.2.1)) = true → swJ B Qf h lv st x cs →
    ∃ (tgt : Nat) (u : Option ρ), (pc : Int) + Op.lookupswitch.offset os di x.toInt = (tgt : Int) ∧ sw x cs dflt = u ∧ J B Qf u h tgt lv st := by
  intro os
  induction os with
  | nil =>
    intro cs hok hs
    cases cs with
    | nil => exact ⟨dtgt, dflt, hd, rfl, kd⟩
    | cons q cs => simp [lookOK] at hok
  | cons o os ih =>
    intro cs hok hs
    cases cs with
    | nil => simp [lookOK] at hok
    | cons q cs =>
      obtain ⟨c, tg, u⟩ := q
      obtain ⟨k, o⟩ := o
      simp only [List.map_cons, lookOK, Bool.and_eq_true, beq_iff_eq] at hok
      obtain ⟨⟨h1, h2⟩, h3⟩ := hok
      by_cases hx : x = c
      · refine ⟨tg, u, ?_, by simp [sw, hx], hs.1 hx⟩
        rw [Op.lookupswitch.offset_cons, if_pos (by rw [hx, h1])]
        exact h2
      · obtain ⟨tg', u', g1, g2, g3⟩ := ih cs h3 hs.2
        refine ⟨tg', u', ?_, by simp only [sw, if_neg hx]; exact g2, g3⟩
        rw [Op.lookupswitch.offset_cons, if_neg (fun e => hx (Int32.toInt_inj.mp (by rw [h1, e])))]
        exact g1
theorem j_lookup (C : Cx B cc own ret nL n0 s0 kF kL) {x : Int32} {dflt : Int} {ps : Array (Int × Int)} {len : Nat} {cs : List (Int32 × Nat × Option ρ)} {du : Option ρ} (dtgt : Nat) (ks : List (Int32 × Nat)) (d : decode cc pc = .ok (.lookupswitch dflt ps, len)) (hp : (ps.toList.zip (ps.toList.drop 1)).all (fun (a, next) => a.1 < next.1) = true) (hks : cs.map (fun q => (q.1, q.2.1)) = ks) (hok : lookOK pc ps.toList ks = true) (hd : (pc : Int) + dflt = (dtgt : Int)) (hs : swJ B Qf h lv st x cs) (kd : J B Qf du h dtgt lv st) : J B Qf (sw x cs du) h pc lv (.int x :: st) := by
  intro r hr H locs ls hR hlo hls
  rw [← hks] at hok
  obtain ⟨tgt, u, g1, g2, g3⟩ := sw_look hd kd ps.toList cs hok hs
  rw [g2] at hr
  exact lv_lookup C.1 C.2.1 d hp rfl g1 (g3 r hr H locs ls hR hlo hls)
/-! the native copy of int rows -/
theorem j_copy (C : Cx B cc own ret nL n0 s0 kF kL) {idx a0 a : Nat} {sp dp n : Int32} {u : Hp → Option ρ} (hw : Cond.methodLink own idx arraycopyName ∈ h_tbl) (hnat : Cond.native arraycopyName ∈ h_tbl) (hstat : Cond.static arraycopyName ∈ h_tbl) (hini : Cond.initialized "java/lang/System" ∈ h_tbl) (hf : Nat.ble 1 kF = true) (hl : Nat.ble 26 kL = true) (hs : Nat.ble ((st.map fun v => v.category).sum) 8 = true) (d : decode cc pc = .ok (.invokestatic idx, 3)) (kk : ∀ h' : Hp, J B Qf (u h') h' (pc + 3) lv st) : J B Qf (bnd (cpI h a0 sp a dp n) u) h pc lv (.int n :: .int dp :: .ref a :: .int sp :: .ref a0 :: st) := by
  intro r hr H locs ls hR hlo hls
  obtain ⟨h', h1, h2⟩ := bnd_some hr
  obtain ⟨m0, f, h3, h4⟩ := bnd2_some h1
  obtain ⟨m1, g, h5, h6⟩ := bnd2_some h4
  obtain ⟨h7, h8⟩ := if_none h6
  cases h8
  obtain ⟨e1, e2⟩ := arI_some h3
  obtain ⟨e3, e4⟩ := arI_some h5
  have hts := C.2.2.2.2.2.1
  have hK := C.2.2.2.2.2.2.2.1
  obtain ⟨-, -, -, -, -, -, -, -, c1, c2, c3⟩ := id C
  have nn : ∀ z : Int32, ¬ z < 0 → z.toInt = (z.toNatClampNeg : Int) := by
    intro z hz
    have hz0 : (0 : Int) ≤ z.toInt := by
      have := Int32.not_lt.mp hz
      simpa using Int32.le_iff_toInt_le.mp this
    show z.toInt = ((z.toInt.toNat : Nat) : Int)
    omega
  have p1 : ¬ sp < 0 := fun q => h7 (Or.inl q)
  have p2 : ¬ dp < 0 := fun q => h7 (Or.inr (Or.inl q))
  have p3 : ¬ n < 0 := fun q => h7 (Or.inr (Or.inr (Or.inl q)))
  have p4 : sp.toNatClampNeg + n.toNatClampNeg ≤ m0 := Nat.not_lt.mp fun q => h7 (Or.inr (Or.inr (Or.inr (Or.inl q))))
  have p5 : dp.toNatClampNeg + n.toNatClampNeg ≤ m1 := Nat.not_lt.mp fun q => h7 (Or.inr (Or.inr (Or.inr (Or.inr q))))
  have q1 := Nat.le_of_ble_eq_true hf
  have q2 := Nat.le_of_ble_eq_true hl
  have q3 := cat_room (B := B) hs
  have hc0 := hR.at e1 e2
  have hc1 := hR.at e3 e4
  intro T hT X
  have hc0 : H[hz (bD B) + a0]? = some (vp_cell ((bD B).2.2.1 0) (m0, .inl f)) := hc0
  have hc1 : H[hz (bD B) + a]? = some (vp_cell ((bD B).2.2.1 0) (m1, .inl g)) := hc1
  obtain ⟨-, k0, hk0, cm0, hkk0⟩ := hK.arr (t := 0) rfl m0 (fun j => .int (f j))
  obtain ⟨vm', X', step⟩ := X.arraycopy C.1 C.2.2.2.2.1 (hts _ hw) (hts _ hnat) (hts _ hstat) (hts _ hini) (src := hz (bD B) + a0) (dst := hz (bD B) + a) (cs := vp_cell ((bD B).2.2.1 0) (m0, .inl f)) (cd := vp_cell ((bD B).2.2.1 0) (m1, .inl g)) (srcPos := sp) (destPos := dp) (n := n) (by rw [hT]; exact hc0) (by rw [hT]; exact hc1)
    (fun _ h => by cases h) (fun _ h => by cases h) (fun h => by cases h) (fun h => by cases h) hk0 hk0 hkk0 hkk0 (by simp [refKind]) p1 p2 p3
    (by rw [nn sp p1, nn n p3]; show ¬ _ > ((arrV ((bD B).2.2.1 0) m0 (fun j => .int (f j))).slots.size : Int); rw [arrV_size]; omega)
    (by rw [nn dp p2, nn n p3]; show ¬ _ > ((arrV ((bD B).2.2.1 0) m1 (fun j => .int (g j))).slots.size : Int); rw [arrV_size]; omega)
    (fun vm₁ _ i hi => by
      have e : (vp_cell ((bD B).2.2.1 0) (m0, .inl f)).slots.getD (sp.toNatClampNeg + i) .null = .int (f (sp.toNatClampNeg + i)) := by
        show (arrV ((bD B).2.2.1 0) m0 (fun j => .int (f j))).slots.getD _ _ = _
        rw [Array.getD_eq_getD_getElem?, arrV_read _ _ (by omega)]
        rfl
      refine ⟨?_, ?_⟩
      · rw [e]; rfl
      · rw [e]
        exact trivial)
    (g := F0 (bM B) pc ls (shv B (.int n :: .int dp :: .ref a :: .int sp :: .ref a0 :: st))) rfl hls.1 (rest := shv B st) rfl (by rw [C.2.1]; exact d) (by rw [c3]; exact q1) (by
      rw [c3]
      show 2 * 0 + _ + (nativeFrameWords "java/lang/System" "arraycopy" 5 + 11) ≤ kL
      have e : nativeFrameWords "java/lang/System" "arraycopy" 5 = 7 := by decide
      rw [e]
      omega)
  have e1' : copied (vp_cell ((bD B).2.2.1 0) (m0, .inl f)) (vp_cell ((bD B).2.2.1 0) (m1, .inl g)) sp dp n = vp_cell ((bD B).2.2.1 0) (m1, .inl (va_cpy f g sp.toNatClampNeg dp.toNatClampNeg n.toNatClampNeg)) := va_copied (fun z => .int z) _ _ f g p4
  rw [e1'] at X' step
  have hl2 : hz (bD B) + a < H.size := (Array.getElem?_eq_some_iff.mp hc1).1
  have hheap : ((T.setVm vm').setCell (hz (bD B) + a) (vp_cell ((bD B).2.2.1 0) (m1, .inl (va_cpy f g sp.toNatClampNeg dp.toNatClampNeg n.toNatClampNeg)))).heap = H.setIfInBounds (hz (bD B) + a) (vp_cell ((bD B).2.2.1 0) (m1, .inl (va_cpy f g sp.toNatClampNeg dp.toNatClampNeg n.toNatClampNeg))) := by rw [← hT]; rfl
  generalize hH' : H.setIfInBounds (hz (bD B) + a) (vp_cell ((bD B).2.2.1 0) (m1, .inl (va_cpy f g sp.toNatClampNeg dp.toNatClampNeg n.toNatClampNeg))) = H' at hheap
  have oq : ∀ q : Nat, q ≠ hz (bD B) + a → H'[q]? = H[q]? := fun q hq => by rw [← hH']; simp [Array.getElem?_setIfInBounds, Ne.symm hq]
  have oa : H'[hz (bD B) + a]? = some (vp_cell ((bD B).2.2.1 0) (m1, .inl (va_cpy f g sp.toNatClampNeg dp.toNatClampNeg n.toNatClampNeg))) := by rw [← hH']; simp [Array.getElem?_setIfInBounds, hl2]
  have hR' : h_R (bD B) (hset h a (aI 0 m1 (va_cpy f g sp.toNatClampNeg dp.toNatClampNeg n.toNatClampNeg))) H' := hR.set e3 (by rw [← hH']; simp) oq oa (by
    rw [oa, hc1]
    simp only [Option.map_some, vp_cell_i, arrV_size])
  obtain ⟨t, a1, b1⟩ := W.tight (fun _ _ => kk _ r h2 H' _ ls hR' (by
    intro q hq
    rcases List.mem_append.mp hq with h | h
    · exact hlo q h
    · obtain ⟨z, -, hz⟩ := List.mem_map.mp h
      rw [← hz]
      exact Nat.le_add_right _ _) hls) _ hheap X'
  exact ⟨t, step t a1, b1⟩
end SW
/-! a contract out of a walk -/
theorem lg_sh (z : Nat) : ∀ vs : List Value, (lg_sl (vs.map (h_sh z))).length = (lg_sl vs).length := by
  intro vs
  induction vs with
  | nil => rfl
  | cons v vs ih =>
    simp only [lg_sl, List.map_cons, List.flatMap_cons, List.length_append] at ih ⊢
    rw [ih, h_cat]
    by_cases hc : v.category = 2
    · simp [hc]
    · simp [hc]
theorem lv_args_sh (z : Nat) : ∀ (vs : List Value) (k : Nat), lv_args k (vs.map (h_sh z)) = (lv_args k vs).map (fun q => (q.1, h_sh z q.2)) := by
  intro vs
  induction vs with
  | nil => intro k; rfl
  | cons v vs ih => intro k; simp only [List.map_cons, lv_args, h_cat, ih]
theorem ct_of {l : Launch} {D : hD} {y : MethodName} {cy : ByteArray} {nLy : Nat} {rety : Option FieldType} {kF kL : Nat} {As : List Value} {h : Hp} {σ : Type} {f : Option σ} {out : σ → Option Value × Hp} {x : σ} (hf : f = some x) (hy : plainName y.cls = true) (hlen : Nat.ble (lg_sl As).length nLy = true)
    (hk : ∀ B : Bx, Cx B cy y.cls rety nLy h.2.1 h.2.2 kF kL → (bMe B).name = y.name → bL B = l → bD B = D → J B (Qm B h.2.1 h.2.2 out) f h 0 (lv_args 0 As) []) : Ct l D y cy nLy rety kF kL As h (out x).1 (out x).2 := by
  refine Met.ofW (cc := cy) (maxL := nLy) (ret := rety) hy rfl ?_
  intro p e s m args below meth c s₁ B0 hml hv
  obtain ⟨rfl, hR, hK⟩ := hv
  have hts := atoms_spec (ws := Cond.code y cy nLy rety :: h_tbl) B0.pre
  have hown : s.vm.findClass y.cls = some m.cls := findClass_of_methodNamed B0.named
  have hC : Cx (p, l, e, (headSpec (Cond.code y cy nLy rety :: h_tbl) ⟨kF, 600000 - h.2.1, rmS - h.2.2, kL⟩).room, s, m, (As.map (h_sh (hz D))).toArray, below, meth, c, D) cy y.cls rety nLy h.2.1 h.2.2 kF kL :=
    ⟨B0.exec, B0.bytes, B0.returns, hml, hown, fun w hw => hts w (List.mem_cons_of_mem _ hw), B0.notSynchronized, hK, hR.1, hR.2.1, rfl⟩
  have hj := hk _ hC (name_of_methodNamed B0.named B0.method).1 rfl rfl
  have hl := lv_entry (As.map (h_sh (hz D))) (n := nLy) (by rw [lg_sh]; exact Nat.le_of_ble_eq_true hlen)
  rw [lg_entry_eq]
  have h1 := hj x hf s.heap [] _ hR (fun q hq => by simp at hq) (by
    show lv_has _ c.maxLocals _
    rw [hml]
    have e := lv_args_sh (hz D) As 0
    rw [e] at hl
    exact hl)
  exact W.tight fun _ _ => h1
