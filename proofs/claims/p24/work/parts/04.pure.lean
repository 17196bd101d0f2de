/-! THE BOOK's numbers: what a head is, its free money, who is barred, who is within whom .. as functions of a book r; the class and the reference are both held against them. -/
noncomputable def ci {α : Type} (P : Prop) (a b : α) : α := @ite _ P (Classical.propDecidable P) a b
theorem ci_t {α : Type} {P : Prop} {a b : α} (h : P) : ci P a b = a := by simp [ci, h]
theorem ci_f {α : Type} {P : Prop} {a b : α} (h : ¬ P) : ci P a b = b := by simp [ci, h]
theorem ci_T {α : Type} {a b : α} : ci True a b = a := ci_t trivial
theorem ci_F {α : Type} {a b : α} : ci False a b = b := ci_f not_false
def hin (h : Int32) : Prop := 0 ≤ h.toInt ∧ h.toInt < 20
def cin (c : Int32) : Prop := 0 ≤ c.toInt ∧ c.toInt < 40
def p_has (r : Bk) (h : Int32) : Prop := 0 ≤ h.toInt ∧ h.toInt < (r 14 1).toInt ∧ h.toInt < 20
def p_hasC (r : Bk) (c : Int32) : Prop := 0 ≤ c.toInt ∧ c.toInt < (r 14 2).toInt ∧ c.toInt < 40
theorem hin_has {r : Bk} {h : Int32} (p : p_has r h) : hin h := ⟨p.1, p.2.2⟩
theorem cin_has {r : Bk} {c : Int32} (p : p_hasC r c) : cin c := ⟨p.1, p.2.2⟩
theorem in20 {h : Int32} (p : hin h) : vp_in h 20 := vp_in_iff.mpr ⟨p.1, by have := p.2; omega⟩
theorem in40 {c : Int32} (p : cin c) : vp_in c 40 := vp_in_iff.mpr ⟨p.1, by have := p.2; omega⟩
theorem in20h {r : Bk} {h : Int32} (p : p_has r h) : vp_in h 20 := in20 (hin_has p)
theorem in40h {r : Bk} {h : Int32} (p : p_hasC r h) : vp_in h 40 := in40 (cin_has p)
theorem i3_lt {a b : Int32} : a < b ↔ a.toInt < b.toInt := Int32.lt_iff_toInt_lt
theorem i3_le {a b : Int32} : a ≤ b ↔ a.toInt ≤ b.toInt := Int32.le_iff_toInt_le
theorem i3_eq {a b : Int32} : a = b ↔ a.toInt = b.toInt := Int32.toInt_inj.symm
theorem t_0 : (0 : Int32).toInt = 0 := by decide
theorem t_1 : (1 : Int32).toInt = 1 := by decide
theorem t_2 : (2 : Int32).toInt = 2 := by decide
theorem t_4 : (4 : Int32).toInt = 4 := by decide
theorem t_9 : (9 : Int32).toInt = 9 := by decide
theorem t_m9 : (-9 : Int32).toInt = -9 := by decide
theorem t_12 : (12 : Int32).toInt = 12 := by decide
theorem t_20 : (20 : Int32).toInt = 20 := by decide
theorem t_40 : (40 : Int32).toInt = 40 := by decide
theorem t_99 : (99 : Int32).toInt = 99 := by decide
theorem t_100 : (100 : Int32).toInt = 100 := by decide
theorem t_h : (100000 : Int32).toInt = 100000 := by decide
theorem t_m : (1000000 : Int32).toInt = 1000000 := by decide
def p_amt (a : Int32) : Prop := 1 ≤ a.toInt ∧ a.toInt ≤ 100000
def p_pct (v : Int32) : Prop := 0 ≤ v.toInt ∧ v.toInt ≤ 100
noncomputable def p_free (r : Bk) (h : Int32) : Int32 := ci (p_has r h) (qv r 3 h - qv r 4 h - qv r 5 h) 0
def p_bar (r : Bk) : Nat → Int32 → Prop
  | 0, _ => False
  | n + 1, h => p_has r h ∧ (qv r 2 h = 1 ∨ p_bar r n (qv r 0 h))
def p_wit (r : Bk) : Nat → Int32 → Int32 → Prop
  | 0, _, _ => False
  | n + 1, h, top => p_has r h ∧ (h = top ∨ p_wit r n (qv r 0 h) top)
def sumI (f : Nat → Int32) : Nat → Int32
  | 0 => 0
  | n + 1 => sumI f n + f n
def p_part (a b : Int32) : Int32 := (a.toInt64 * b.toInt64 / 100).toInt32
noncomputable def p_cntb (r : Bk) (n : Nat) : Int32 := sumI (fun h => ci (p_bar r 5 (nI h)) 1 0) n
noncomputable def p_smd (r : Bk) (h w : Int32) : Int32 := ci (p_has r h) (ci (w = 0) (qv r 3 h) (ci (w = 1) (qv r 4 h) (ci (w = 2) (qv r 5 h) (ci (w = 3) (p_free r h) 1)))) 0
noncomputable def p_sum (r : Bk) (top w : Int32) (n : Nat) : Int32 := sumI (fun h => ci (p_wit r 5 (nI h) top) (p_smd r (nI h) w) 0) n
def p_lv (r : Bk) (h : Int32) : Int32 := p_part (qv r 6 h) (qv r 8 h) - qv r 7 h
def p_may (r : Bk) (a b : Int32) : Prop := p_has r a ∧ p_has r b ∧ a ≠ b ∧ ¬ p_bar r 5 a ∧ ¬ p_bar r 5 b ∧ (p_wit r 5 a b ∨ p_wit r 5 b a ∨ qv r 0 a = qv r 0 b ∨ qv r 1 a ≤ qv r 1 b)
def i3min (x y : Int32) : Int32 := if y < x then y else x
def i3max (x y : Int32) : Int32 := if x < y then y else x
noncomputable def p_mov (r : Bk) (a b : Int32) : Int32 := ci (p_may r a b) (i3max 0 (i3min 100000 (i3min (p_free r a) (p_lv r a)))) 0
noncomputable def p_lapse (r : Bk) (top p : Int32) (n : Nat) : Int32 := sumI (fun h => ci (p_wit r 5 (nI h) top) (p_free r (nI h) - p_part (p_free r (nI h)) p) 0) n
def p_rich (r : Bk) (a b : Int32) : Prop := p_has r a ∧ p_has r b ∧ a ≠ b ∧ (p_free r b < p_free r a ∨ (p_free r a = p_free r b ∧ (qv r 1 b < qv r 1 a ∨ (qv r 1 a = qv r 1 b ∧ a < b))))
noncomputable def p_ahead (r : Bk) (h top : Int32) (n : Nat) : Int32 := sumI (fun k => ci (nI k ≠ top ∧ p_wit r 5 (nI k) top ∧ p_rich r (nI k) h) 1 0) n
/-- the first n heads looked through for a place: the head found, or NONE -/
noncomputable def p_place (r : Bk) (top w : Int32) : Nat → Int32
  | 0 => -9
  | n + 1 => ci (p_place r top w n ≠ -9) (p_place r top w n) (ci (nI n ≠ top ∧ p_wit r 5 (nI n) top ∧ p_ahead r (nI n) top 20 = w) (nI n) (-9))
/-- the first n heads looked through for the best giver: the head, and how much -/
noncomputable def p_best (r : Bk) (b : Int32) : Nat → Int32 × Int32
  | 0 => (-9, 0)
  | n + 1 => ci ((p_best r b n).2 < p_mov r (nI n) b ∨ (p_mov r (nI n) b = (p_best r b n).2 ∧ p_has r (p_best r b n).1 ∧ qv r 1 (p_best r b n).1 < qv r 1 (nI n))) (nI n, p_mov r (nI n) b) (p_best r b n)
noncomputable def p_open (r : Bk) (n : Nat) : Int32 := sumI (fun c => ci (0 < r 11 c) 1 0) n
theorem sumI_ci {P : Prop} {f : Nat → Int32} {k : Nat} {x : Int32} (h : P) (e : f k = ci P x 0) : sumI f (k + 1) = sumI f k + x := by
  show sumI f k + f k = _
  rw [e, ci_t h]
theorem sumI_c0 {P : Prop} {f : Nat → Int32} {k : Nat} {x : Int32} (h : ¬ P) (e : f k = ci P x 0) : sumI f (k + 1) = sumI f k := by
  show sumI f k + f k = _
  rw [e, ci_f h]
  exact Int32.add_zero _
theorem nI_t {k : Nat} (h : k ≤ 40) : (nI k).toInt = k := nI_toInt (by omega)
theorem nI_lt20 {k : Nat} (h : k ≤ 40) (c : ¬ (20 : Int32) ≤ nI k) : k < 20 := by
  rw [i3_le, nI_t h, t_20] at c
  omega
theorem nI_ge20 {k : Nat} (h : k ≤ 20) (c : (20 : Int32) ≤ nI k) : k = 20 := by
  rw [i3_le, nI_t (by omega), t_20] at c
  omega
theorem nI_lt40 {k : Nat} (h : k ≤ 40) (c : ¬ (40 : Int32) ≤ nI k) : k < 40 := by
  rw [i3_le, nI_t h, t_40] at c
  omega
theorem nI_ge40 {k : Nat} (h : k ≤ 40) (c : (40 : Int32) ≤ nI k) : k = 40 := by
  rw [i3_le, nI_t h, t_40] at c
  omega
theorem nI_hin {k : Nat} (h : k < 20) : hin (nI k) := ⟨by rw [nI_t (by omega)]; omega, by rw [nI_t (by omega)]; omega⟩
theorem nI_cin {k : Nat} (h : k < 40) : cin (nI k) := ⟨by rw [nI_t (by omega)]; omega, by rw [nI_t (by omega)]; omega⟩
theorem nI_c {k : Nat} (h : k ≤ 40) : (nI k).toNatClampNeg = k := nI_clamp (by omega)
theorem place_no {r : Bk} {t w : Int32} {k : Nat} (e : p_place r t w k = -9) (h : ¬ (nI k ≠ t ∧ p_wit r 5 (nI k) t ∧ p_ahead r (nI k) t 20 = w)) : p_place r t w (k + 1) = -9 := by
  show ci _ _ _ = _
  rw [ci_f (fun q => q e), ci_f h]
theorem nI_ne9 {k : Nat} (h : k < 20) : nI k ≠ -9 := by
  intro e
  have := i3_eq.mp e
  rw [nI_t (by omega), t_m9] at this
  omega
theorem place_yes {r : Bk} {t w : Int32} {k : Nat} (e : p_place r t w k = -9) (h : nI k ≠ t ∧ p_wit r 5 (nI k) t ∧ p_ahead r (nI k) t 20 = w) (hk : k < 20) : p_place r t w 20 = nI k := by
  have h1 : p_place r t w (k + 1) = nI k := by
    show ci _ _ _ = _
    rw [ci_f (fun q => q e), ci_t h]
  have h2 : ∀ j, p_place r t w (k + 1 + j) = nI k := by
    intro j
    induction j with
    | zero => exact h1
    | succ j ih =>
      show ci (p_place r t w (k + 1 + j) ≠ -9) (p_place r t w (k + 1 + j)) _ = _
      rw [ih, ci_t (nI_ne9 hk)]
  have := h2 (19 - k)
  rwa [show k + 1 + (19 - k) = 20 by omega] at this
theorem best_yes {r : Bk} {t b m xk : Int32} {k : Nat} (e : p_best r t k = (b, m)) (ek : xk = nI k) (h : m < p_mov r xk t ∨ (p_mov r xk t = m ∧ p_has r b ∧ qv r 1 b < qv r 1 xk)) : p_best r t (k + 1) = (xk, p_mov r xk t) := by
  subst ek
  show ci _ _ _ = _
  rw [e, ci_t h]
theorem best_no {r : Bk} {t b m xk : Int32} {k : Nat} (e : p_best r t k = (b, m)) (ek : xk = nI k) (h : ¬ (m < p_mov r xk t ∨ (p_mov r xk t = m ∧ p_has r b ∧ qv r 1 b < qv r 1 xk))) : p_best r t (k + 1) = (b, m) := by
  subst ek
  show ci _ _ _ = _
  rw [e, ci_f h]
noncomputable def p_fm (a q : Int32) : Int32 := ci (0 ≤ a ^^^ q) (a - a / q * q) (ci (a - a / q * q = 0) (a - a / q * q) (a - a / q * q + q))
