/-! THE DEEDS' BOOKS by one cell after another (m_ ..), and what keeps a book in order (from the claim whole) -/
section
variable {K : Int} {r : Bk} {h t k q : Int32}
def p_in (v a b : Int32) : Prop := a.toInt ≤ v.toInt ∧ v.toInt ≤ b.toInt
theorem in12 {x : Int32} {n : Nat} (e : x = nI n) (h : n < 12) : vp_in x 12 := by
  rw [e]
  exact vp_in_nI h (by omega)
theorem isHead_iff {K : Int} {r : Bk} {h : Int32} (o : Ok K r) : p_in h 0 (r 14 1 - 1) ↔ p_has r h := by
  have h1 := md_20 o
  have e : (r 14 1 - 1).toInt = (r 14 1).toInt - 1 := by
    rw [Int32.toInt_sub, t_1]
    exact Int.bmod_eq_of_le (by omega) (by omega)
  unfold p_in p_has
  rw [e, t_0]
  omega
theorem isComm_iff {K : Int} {r : Bk} {h : Int32} (o : Ok K r) : p_in h 0 (r 14 2 - 1) ↔ p_hasC r h := by
  have h1 := mc_40 o
  have e : (r 14 2 - 1).toInt = (r 14 2).toInt - 1 := by
    rw [Int32.toInt_sub, t_1]
    exact Int.bmod_eq_of_le (by omega) (by omega)
  unfold p_in p_hasC
  rw [e, t_0]
  omega
theorem amt_iff {a : Int32} : p_in a 1 100000 ↔ p_amt a := by
  unfold p_in p_amt
  rw [t_1, t_h]
theorem pct_iff {a : Int32} : p_in a 0 100 ↔ p_pct a := by
  unfold p_in p_pct
  rw [t_0, t_100]
end
-- the deeds' books
def m_make (r : Bk) (a k : Int32) : Bk :=
  let h := (r 14 1).toNatClampNeg
  let r1 := b2 r 0 h a
  let r2 := b2 r1 1 h k
  let r3 := b2 r2 8 h 50
  b2 r3 14 1 (r3 14 1 + 1)
def m_commit (r : Bk) (h a : Int32) : Bk :=
  let i := (r 14 2).toNatClampNeg
  let r1 := b2 r 10 i h
  let r2 := b2 r1 11 i a
  let r3 := b2 r2 12 i 0
  let r4 := b2 r3 13 i (r3 14 0)
  let r5 := b2 r4 4 h.toNatClampNeg (qv r4 4 h + a)
  b2 r5 14 2 (r5 14 2 + 1)
def m_pay (r : Bk) (q a : Int32) : Bk :=
  let h := qv r 10 q
  let r1 := b2 r 11 q.toNatClampNeg (qv r 11 q - a)
  let r2 := b2 r1 12 q.toNatClampNeg (qv r1 12 q + a)
  let r3 := b2 r2 4 h.toNatClampNeg (qv r2 4 h - a)
  let r4 := b2 r3 5 h.toNatClampNeg (qv r3 5 h + a)
  b2 r4 14 5 (r4 14 5 + a)
def m_free0 (r : Bk) (q : Int32) : Bk :=
  let h := qv r 10 q
  let r1 := b2 r 4 h.toNatClampNeg (qv r 4 h - qv r 11 q)
  b2 r1 11 q.toNatClampNeg 0
def m_mv (r : Bk) (f t a : Int32) : Bk :=
  let r1 := b2 r 3 f.toNatClampNeg (qv r 3 f - a)
  b2 r1 3 t.toNatClampNeg (qv r1 3 t + a)
def m_vire (r : Bk) (f t a : Int32) : Bk := b2 (m_mv r f t a) 7 f.toNatClampNeg (qv (m_mv r f t a) 7 f + a)
def m_rv (r : Bk) (f t a : Int32) : Bk := b2 (m_mv r t f a) 7 f.toNatClampNeg (qv (m_mv r t f a) 7 f - a)
def m_ey1 (r : Bk) (h : Int32) : Bk :=
  let L := lp r h
  let r1 := b2 r 6 h.toNatClampNeg (fr r h - L)
  let r2 := b2 r1 3 h.toNatClampNeg (qv r1 3 h - (L + qv r1 5 h))
  let r3 := b2 r2 5 h.toNatClampNeg 0
  b2 r3 7 h.toNatClampNeg 0
def m_ey (r : Bk) : Nat → Bk
  | 0 => r
  | k + 1 => m_ey1 (m_ey r k) (nI k)
def m_eyS (r : Bk) (n : Nat) : Int32 := sumI (fun k => lp (m_ey r k) (nI k)) n
def m_endYear (r : Bk) : Bk :=
  let r1 := m_ey r (md r)
  let r2 := b2 r1 14 4 (r1 14 4 + m_eyS r (md r))
  b2 r2 14 0 (r2 14 0 + 1)
theorem m_ey1_14 (r : Bk) (h : Int32) : m_ey1 r h 14 = r 14 := by
  unfold m_ey1
  rw [b2_coln _ _ _ _ (by omega), b2_coln _ _ _ _ (by omega), b2_coln _ _ _ _ (by omega), b2_coln _ _ _ _ (by omega)]
theorem m_ey_14 (r : Bk) : ∀ k, m_ey r k 14 = r 14 := by
  intro k
  induction k with
  | zero => rfl
  | succ k ih =>
    show m_ey1 (m_ey r k) (nI k) 14 = r 14
    rw [m_ey1_14, ih]
theorem min_a {f l : Int32} (h : l ≤ f) : i3min f l = l := by
  unfold i3min
  by_cases z : l < f
  · rw [if_pos z]
  · rw [if_neg z, i3_eq]
    rw [i3_le] at h
    rw [i3_lt] at z
    omega
theorem min_b {f l : Int32} (h : ¬ l ≤ f) : i3min f l = f := by
  unfold i3min
  rw [if_neg (fun z => h (Int32.le_of_lt z))]
theorem mov_1 {r : Bk} {a b : Int32} (p : p_may r a b) (f l : Int32) (hf : p_free r a = f) (hl : p_lv r a = l) : p_mov r a b = i3max 0 (i3min 100000 (i3min f l)) := by
  unfold p_mov
  rw [ci_t p, hf, hl]
theorem mx_big {x : Int32} (h2 : 100000 ≤ x) : i3max 0 (i3min 100000 x) = 100000 := by
  by_cases e : x ≤ 100000
  · have : x = 100000 := by
      rw [i3_eq]
      rw [i3_le] at h2 e
      omega
    rw [this]
    decide
  · rw [min_b e]
    decide
theorem mx_mid {x : Int32} (h : 0 ≤ x) (h2 : ¬ 100000 ≤ x) : i3max 0 (i3min 100000 x) = x := by
  rw [i3_le, t_0] at h
  rw [i3_le, t_h] at h2
  rw [min_a (by rw [i3_le, t_h]; omega)]
  unfold i3max
  by_cases z : 0 < x
  · rw [if_pos z]
  · rw [if_neg z, i3_eq, t_0]
    rw [i3_lt, t_0] at z
    omega
theorem mx_neg {x : Int32} (h : ¬ 0 ≤ x) : i3max 0 (i3min 100000 x) = 0 := by
  rw [i3_le, t_0] at h
  rw [min_a (by rw [i3_le, t_h]; omega)]
  unfold i3max
  rw [if_neg (by rw [i3_lt, t_0]; omega)]
theorem amt_mov {r : Bk} {a b m : Int32} (ha : p_amt m) (p : p_may r a b) : m ≤ p_mov r a b ↔ m ≤ p_free r a ∧ m ≤ p_lv r a := by
  rw [mov_1 p _ _ rfl rfl]
  unfold p_amt at ha
  by_cases c : p_lv r a ≤ p_free r a
  · rw [min_a c]
    rw [i3_le] at c
    by_cases d : 0 ≤ p_lv r a
    · by_cases e : 100000 ≤ p_lv r a
      · rw [mx_big e]
        rw [i3_le] at e
        simp only [i3_le, t_h] at *
        omega
      · rw [mx_mid d e]
        simp only [i3_le] at *
        omega
    · rw [mx_neg d]
      simp only [i3_le, t_0] at *
      omega
  · rw [min_b c]
    rw [i3_le] at c
    by_cases d : 0 ≤ p_free r a
    · by_cases e : 100000 ≤ p_free r a
      · rw [mx_big e]
        rw [i3_le] at e
        simp only [i3_le, t_h] at *
        omega
      · rw [mx_mid d e]
        simp only [i3_le] at *
        omega
    · rw [mx_neg d]
      simp only [i3_le, t_0] at *
      omega
theorem amt_mov0 {r : Bk} {a b m : Int32} (ha : p_amt m) (p : ¬ p_may r a b) : ¬ m ≤ p_mov r a b := by
  unfold p_mov
  rw [ci_f p, i3_le, t_0]
  unfold p_amt at ha
  omega
