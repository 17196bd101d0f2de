/-! THE REFERENCE's words: its index numbers, its copies, its memory, its deeds' books (m_ ..) -/
def oH (h f : Int32) : Int32 := 6 + 9 * h + f
def oC (k f : Int32) : Int32 := 186 + 4 * k + f
theorem vp_in_lit {i : Int32} {N : Nat} (h : 0 ≤ i.toInt ∧ i.toInt < N) : vp_in i N := vp_in_iff.mpr h
theorem oH_ix {h f : Int32} {n : Nat} (hh : hin h) (hf : f = nI n ∧ n < 9) : oH h f = nI (6 + 9 * h.toNatClampNeg + n) := by
  obtain ⟨k, h1, h2, h3, h4⟩ := hin_nI hh
  rw [h3, h2, hf.1]
  show nI 6 + nI 9 * nI k + nI n = _
  rw [pk_mul, nI_add, nI_add]
theorem oC_ix {h f : Int32} {n : Nat} (hh : cin h) (hf : f = nI n ∧ n < 4) : oC h f = nI (186 + 4 * h.toNatClampNeg + n) := by
  obtain ⟨k, h1, h2, h3, h4⟩ := cin_nI hh
  rw [h3, h2, hf.1]
  show nI 186 + nI 4 * nI k + nI n = _
  rw [pk_mul, nI_add, nI_add]
theorem oH_n {h f : Int32} {n : Nat} (hh : hin h) (hf : f = nI n ∧ n < 9) : (oH h f).toNatClampNeg = 6 + 9 * h.toNatClampNeg + n ∧ h.toNatClampNeg < 20 := by
  obtain ⟨k, h1, h2, h3, h4⟩ := hin_nI hh
  rw [oH_ix hh hf]
  exact ⟨nI_clamp (by omega), by omega⟩
theorem oC_n {h f : Int32} {n : Nat} (hh : cin h) (hf : f = nI n ∧ n < 4) : (oC h f).toNatClampNeg = 186 + 4 * h.toNatClampNeg + n ∧ h.toNatClampNeg < 40 := by
  obtain ⟨k, h1, h2, h3, h4⟩ := cin_nI hh
  rw [oC_ix hh hf]
  exact ⟨nI_clamp (by omega), by omega⟩
theorem oH_in {h f : Int32} {n : Nat} (hh : hin h) (hf : f = nI n ∧ n < 9) : vp_in (oH h f) 4498 := by
  obtain ⟨k, h1, h2, h3, h4⟩ := hin_nI hh
  rw [oH_ix hh hf]
  exact vp_in_nI (by omega) (by omega)
theorem oC_in {h f : Int32} {n : Nat} (hh : cin h) (hf : f = nI n ∧ n < 4) : vp_in (oC h f) 4498 := by
  obtain ⟨k, h1, h2, h3, h4⟩ := cin_nI hh
  rw [oC_ix hh hf]
  exact vp_in_nI (by omega) (by omega)
theorem row_oH {Y : St} {h f : Int32} {n : Nat} (hh : hin h) (hf : f = nI n ∧ n < 9) : rowM Y (oH h f).toNatClampNeg = qv (Y 0) n h := by
  have e := oH_n hh hf
  rw [e.1, row_h Y e.2 hf.2]
  rfl
theorem row_oC {Y : St} {h f : Int32} {n : Nat} (hh : cin h) (hf : f = nI n ∧ n < 4) : rowM Y (oC h f).toNatClampNeg = qv (Y 0) (10 + n) h := by
  have e := oC_n hh hf
  rw [e.1, row_c Y e.2 hf.2]
  rfl
theorem wM_oH {cI : ClassId} {am : Nat → Nat} {Y : St} {h f v : Int32} {n : Nat} (hh : hin h) (hf : f = nI n ∧ n < 9) : (wM cI am Y).set 1 (am 1, .inl (cI, 4498, .inl (upd (rowM Y) (oH h f).toNatClampNeg v))) = wM cI am (u3 Y 0 n h.toNatClampNeg v) := by
  have e := oH_n hh hf
  rw [e.1]
  exact wM_sh e.2 hf.2
theorem wM_oC {cI : ClassId} {am : Nat → Nat} {Y : St} {h f v : Int32} {n : Nat} (hh : cin h) (hf : f = nI n ∧ n < 4) : (wM cI am Y).set 1 (am 1, .inl (cI, 4498, .inl (upd (rowM Y) (oC h f).toNatClampNeg v))) = wM cI am (u3 Y 0 (10 + n) h.toNatClampNeg v) := by
  have e := oC_n hh hf
  rw [e.1]
  exact wM_sc e.2 hf.2
def p_in (v a b : Int32) : Prop := a.toInt ≤ v.toInt ∧ v.toInt ≤ b.toInt
theorem in12 {x : Int32} {n : Nat} (e : x = nI n) (h : n < 12) : vp_in x 12 := by
  rw [e]
  exact vp_in_nI h (by omega)
theorem isHead_iff {K : Int} {r : Bk} {h : Int32} (o : Ok K r) : p_in h 0 (r 14 1 - 1) ↔ p_has r h := by
  have h1 := md_20 o
  have e : (r 14 1 - 1).toInt = (r 14 1).toInt - 1 := by
    rw [Int32.toInt_sub, t_1]
    exact Int.bmod_eq_of_le (by omega) (by omega)
  unfold p_in p_has
  rw [e, t_0]
  omega
theorem isComm_iff {K : Int} {r : Bk} {h : Int32} (o : Ok K r) : p_in h 0 (r 14 2 - 1) ↔ p_hasC r h := by
  have h1 := mc_40 o
  have e : (r 14 2 - 1).toInt = (r 14 2).toInt - 1 := by
    rw [Int32.toInt_sub, t_1]
    exact Int.bmod_eq_of_le (by omega) (by omega)
  unfold p_in p_hasC
  rw [e, t_0]
  omega
theorem amt_iff {a : Int32} : p_in a 1 100000 ↔ p_amt a := by
  unfold p_in p_amt
  rw [t_1, t_h]
theorem pct_iff {a : Int32} : p_in a 0 100 ↔ p_pct a := by
  unfold p_in p_pct
  rw [t_0, t_100]
-- the row copied
theorem cpR_step {Y : St} {tf tt k : Nat} {R : Nat → Int32} (hR : ∀ q, R q = if 346 * tt ≤ q ∧ q < 346 * tt + k then rowM Y (346 * tf + (q - 346 * tt)) else rowM Y q) (hk : k < 346) (hne : ¬ tf = tt) : ∀ q, upd R (346 * tt + k) (R (346 * tf + k)) q = if 346 * tt ≤ q ∧ q < 346 * tt + (k + 1) then rowM Y (346 * tf + (q - 346 * tt)) else rowM Y q := by
  intro q
  unfold upd
  have e : R (346 * tf + k) = rowM Y (346 * tf + k) := by
    rw [hR, if_neg (by omega)]
  by_cases c : q = 346 * tt + k
  · rw [if_pos c, e, if_pos (by omega), c]
    congr 1
    omega
  · rw [if_neg c, hR q]
    by_cases d : 346 * tt ≤ q ∧ q < 346 * tt + k
    · rw [if_pos d, if_pos (by omega)]
    · rw [if_neg d, if_neg (by omega)]
theorem cpR_fin {Y : St} {tf tt : Nat} {R : Nat → Int32} (hR : ∀ q, R q = if 346 * tt ≤ q ∧ q < 346 * tt + 346 then rowM Y (346 * tf + (q - 346 * tt)) else rowM Y q) (hf : tf < 13) (ht : tt < 13) : R = rowM (sg Y tt (Y tf)) := by
  funext q
  rw [hR]
  by_cases d : 346 * tt ≤ q ∧ q < 346 * tt + 346
  · rw [if_pos d, row_at Y (t := tf) (k := q - 346 * tt) (by omega) hf]
    have := row_at (sg Y tt (Y tf)) (t := tt) (k := q - 346 * tt) (by omega) ht
    rw [sg_g, show 346 * tt + (q - 346 * tt) = q by omega] at this
    exact this.symm
  · rw [if_neg d]
    unfold rowM
    by_cases c : q < 4498
    · rw [if_pos c, if_pos c, sg_n _ _ _ (by omega)]
    · rw [if_neg c, if_neg c]
theorem cp_add {x y : Int32} {t k : Nat} (e : x = nI (346 * t)) (f : y = nI k) : x + y = nI (346 * t + k) := by
  rw [e, f, nI_add]
theorem n346 (k n : Nat) : (346 : Int32) * (nI k + nI n) = nI (346 * (k + n)) := by
  rw [nI_add]
  exact pk_mul 346 (k + n)
theorem nI_346lt {k : Nat} (h : k ≤ 346) (c : ¬ (346 : Int32) ≤ nI k) : k < 346 := by
  rw [i3_le, nI_toInt (by omega), show (346 : Int32).toInt = 346 by decide] at c
  omega
theorem nI_346ge {k : Nat} (h : k ≤ 346) (c : (346 : Int32) ≤ nI k) : k = 346 := by
  rw [i3_le, nI_toInt (by omega), show (346 : Int32).toInt = 346 by decide] at c
  omega
theorem nI_11lt {k : Nat} (h : k ≤ 11) (c : ¬ (11 : Int32) ≤ nI k) : k < 11 := by
  rw [i3_le, nI_toInt (by omega), show (11 : Int32).toInt = 11 by decide] at c
  omega
theorem nI_11ge {k : Nat} (h : k ≤ 11) (c : (11 : Int32) ≤ nI k) : k = 11 := by
  rw [i3_le, nI_toInt (by omega), show (11 : Int32).toInt = 11 by decide] at c
  omega
theorem nI_le_nI {a b : Nat} (ha : a < 1000) (hb : b < 1000) : nI a ≤ nI b ↔ a ≤ b := nI_leI (by omega) (by omega)
-- the memory
def fgt1 (Z : St) (k : Nat) : St :=
  let Z1 := sg Z (k + 1) (Z (k + 2))
  let Z2 := u3 Z1 13 0 k (Z1 13 0 (k + 1))
  let Z3 := u3 Z2 13 1 k (Z2 13 1 (k + 1))
  let Z4 := u3 Z3 13 2 k (Z3 13 2 (k + 1))
  let Z5 := u3 Z4 13 3 k (Z4 13 3 (k + 1))
  let Z6 := u3 Z5 13 4 k (Z5 13 4 (k + 1))
  let Z7 := u3 Z6 13 5 k (Z6 13 5 (k + 1))
  u3 Z7 13 6 k (Z7 13 6 (k + 1))
def fgt (Y : St) : Nat → St
  | 0 => Y
  | k + 1 => fgt1 (fgt Y k) k
def N_fgt (Y : St) : St := u3 (fgt Y 11) 14 0 0 (fgt Y 11 14 0 0 - 1)
theorem fgt1_14 (Z : St) {k : Nat} (h : k < 11) : fgt1 Z k 14 = Z 14 := by
  unfold fgt1
  rw [u3_n _ _ _ _ _ (by omega), u3_n _ _ _ _ _ (by omega), u3_n _ _ _ _ _ (by omega), u3_n _ _ _ _ _ (by omega), u3_n _ _ _ _ _ (by omega), u3_n _ _ _ _ _ (by omega), u3_n _ _ _ _ _ (by omega), sg_n _ _ _ (by omega)]
theorem fgt1_0 (Z : St) {k : Nat} : fgt1 Z k 0 = Z 0 := by
  unfold fgt1
  rw [u3_n _ _ _ _ _ (by omega), u3_n _ _ _ _ _ (by omega), u3_n _ _ _ _ _ (by omega), u3_n _ _ _ _ _ (by omega), u3_n _ _ _ _ _ (by omega), u3_n _ _ _ _ _ (by omega), u3_n _ _ _ _ _ (by omega), sg_n _ _ _ (by omega)]
theorem fgt_14 (Y : St) : ∀ k, k ≤ 11 → fgt Y k 14 = Y 14 := by
  intro k
  induction k with
  | zero => exact fun _ => rfl
  | succ k ih =>
    intro h
    show fgt1 (fgt Y k) k 14 = Y 14
    rw [fgt1_14 _ (by omega), ih (by omega)]
theorem fgt_0 (Y : St) : ∀ k, fgt Y k 0 = Y 0 := by
  intro k
  induction k with
  | zero => rfl
  | succ k ih =>
    show fgt1 (fgt Y k) k 0 = Y 0
    rw [fgt1_0, ih]
theorem N_fgt_0 (Y : St) : N_fgt Y 0 = Y 0 := by
  unfold N_fgt
  rw [u3_n _ _ _ _ _ (by omega), fgt_0]
theorem N_fgt_d (Y : St) (h : Y 14 0 0 = nI 12) : N_fgt Y 14 0 0 = nI 11 := by
  unfold N_fgt
  rw [u3_g, b2_s, fgt_14 Y 11 (by omega), h]
  rfl
def R_put (Z : St) (j : Nat) (k o1 o2 a : Int32) : St :=
  let i := (nI j).toNatClampNeg
  let Z1 := sg Z (j + 1) (Z 0)
  let Z2 := u3 Z1 13 0 i k
  let Z3 := u3 Z2 13 1 i o1
  let Z4 := u3 Z3 13 2 i o2
  let Z5 := u3 Z4 13 3 i a
  let Z6 := u3 Z5 13 4 i (Z5 0 14 0)
  let Z7 := u3 Z6 13 5 i 0
  let Z8 := u3 Z7 13 6 i (Z7 14 0 1)
  let Z9 := u3 Z8 14 0 1 (Z8 14 0 1 + 1)
  u3 Z9 14 0 0 (nI j + 1)
noncomputable def N_remM (Y : St) (n : Nat) (k o1 o2 a : Int32) : St := ci (n = 12) (R_put (N_fgt Y) 11 k o1 o2 a) (R_put Y n k o1 o2 a)
theorem R_put_0 (Z : St) {j : Nat} (k o1 o2 a : Int32) : R_put Z j k o1 o2 a 0 = Z 0 := by
  unfold R_put
  rw [u3_n _ _ _ _ _ (by omega), u3_n _ _ _ _ _ (by omega), u3_n _ _ _ _ _ (by omega), u3_n _ _ _ _ _ (by omega), u3_n _ _ _ _ _ (by omega), u3_n _ _ _ _ _ (by omega), u3_n _ _ _ _ _ (by omega), u3_n _ _ _ _ _ (by omega), u3_n _ _ _ _ _ (by omega), sg_n _ _ _ (by omega)]
theorem N_remM_0 (Y : St) (n : Nat) (k o1 o2 a : Int32) : N_remM Y n k o1 o2 a 0 = Y 0 := by
  unfold N_remM
  by_cases e : n = 12
  · rw [ci_t e, R_put_0, N_fgt_0]
  · rw [ci_f e, R_put_0]
noncomputable def opY (Y : St) (n : Nat) (g k o1 o2 a : Int32) (r : Bk) : St := ci (g = 0) (sg (N_remM Y n k o1 o2 a) 0 r) Y
theorem opY_e {Y : St} {n : Nat} {g k s t a e : Int32} {r : Bk} (h : g = e) (he : e ≠ 0) : opY Y n g k s t a r = Y := ci_f (by rw [h]; exact he)
theorem opY_0 {Y : St} {n : Nat} {g k s t a : Int32} {r : Bk} (h : g = 0) : opY Y n g k s t a r = sg (N_remM Y n k s t a) 0 r := ci_t h
-- the deeds' books
def m_make (r : Bk) (a k : Int32) : Bk :=
  let h := (r 14 1).toNatClampNeg
  let r1 := b2 r 0 h a
  let r2 := b2 r1 1 h k
  let r3 := b2 r2 8 h 50
  b2 r3 14 1 (r3 14 1 + 1)
def m_commit (r : Bk) (h a : Int32) : Bk :=
  let i := (r 14 2).toNatClampNeg
  let r1 := b2 r 10 i h
  let r2 := b2 r1 11 i a
  let r3 := b2 r2 12 i 0
  let r4 := b2 r3 13 i (r3 14 0)
  let r5 := b2 r4 4 h.toNatClampNeg (qv r4 4 h + a)
  b2 r5 14 2 (r5 14 2 + 1)
def m_pay (r : Bk) (q a : Int32) : Bk :=
  let h := qv r 10 q
  let r1 := b2 r 11 q.toNatClampNeg (qv r 11 q - a)
  let r2 := b2 r1 12 q.toNatClampNeg (qv r1 12 q + a)
  let r3 := b2 r2 4 h.toNatClampNeg (qv r2 4 h - a)
  let r4 := b2 r3 5 h.toNatClampNeg (qv r3 5 h + a)
  b2 r4 14 5 (r4 14 5 + a)
def m_free0 (r : Bk) (q : Int32) : Bk :=
  let h := qv r 10 q
  let r1 := b2 r 4 h.toNatClampNeg (qv r 4 h - qv r 11 q)
  b2 r1 11 q.toNatClampNeg 0
def m_mv (r : Bk) (f t a : Int32) : Bk :=
  let r1 := b2 r 3 f.toNatClampNeg (qv r 3 f - a)
  b2 r1 3 t.toNatClampNeg (qv r1 3 t + a)
def m_vire (r : Bk) (f t a : Int32) : Bk := b2 (m_mv r f t a) 7 f.toNatClampNeg (qv (m_mv r f t a) 7 f + a)
def m_rv (r : Bk) (f t a : Int32) : Bk := b2 (m_mv r t f a) 7 f.toNatClampNeg (qv (m_mv r t f a) 7 f - a)
def m_ey1 (r : Bk) (h : Int32) : Bk :=
  let L := lp r h
  let r1 := b2 r 6 h.toNatClampNeg (fr r h - L)
  let r2 := b2 r1 3 h.toNatClampNeg (qv r1 3 h - (L + qv r1 5 h))
  let r3 := b2 r2 5 h.toNatClampNeg 0
  b2 r3 7 h.toNatClampNeg 0
def m_ey (r : Bk) : Nat → Bk
  | 0 => r
  | k + 1 => m_ey1 (m_ey r k) (nI k)
def m_eyS (r : Bk) (n : Nat) : Int32 := sumI (fun k => lp (m_ey r k) (nI k)) n
def m_endYear (r : Bk) : Bk :=
  let r1 := m_ey r (md r)
  let r2 := b2 r1 14 4 (r1 14 4 + m_eyS r (md r))
  b2 r2 14 0 (r2 14 0 + 1)
theorem m_ey1_14 (r : Bk) (h : Int32) : m_ey1 r h 14 = r 14 := by
  unfold m_ey1
  rw [b2_coln _ _ _ _ (by omega), b2_coln _ _ _ _ (by omega), b2_coln _ _ _ _ (by omega), b2_coln _ _ _ _ (by omega)]
theorem m_ey_14 (r : Bk) : ∀ k, m_ey r k 14 = r 14 := by
  intro k
  induction k with
  | zero => rfl
  | succ k ih =>
    show m_ey1 (m_ey r k) (nI k) 14 = r 14
    rw [m_ey1_14, ih]
-- the memory's undoing
noncomputable def unrev (Z : St) (m : Nat) : Nat → St
  | 0 => Z
  | k + 1 => u3 (unrev Z m k) 13 5 k (ci (unrev Z m k 13 6 k = unrev Z m k 13 1 m) 0 (unrev Z m k 13 5 k))
theorem unrev_14 (Z : St) (m : Nat) : ∀ k, unrev Z m k 14 = Z 14 := by
  intro k
  induction k with
  | zero => rfl
  | succ k ih =>
    show u3 _ 13 5 k _ 14 = Z 14
    rw [u3_n _ _ _ _ _ (by omega), ih]
theorem unrev_n (Z : St) (m : Nat) {g : Nat} (hg : g ≠ 13) : ∀ k, unrev Z m k g = Z g := by
  intro k
  induction k with
  | zero => rfl
  | succ k ih =>
    show u3 _ 13 5 k _ g = Z g
    rw [u3_n _ _ _ _ _ hg, ih]
theorem unrev_f (Z : St) (m : Nat) {f : Nat} (hf : f ≠ 5) : ∀ k, unrev Z m k 13 f = Z 13 f := by
  intro k
  induction k with
  | zero => rfl
  | succ k ih =>
    show u3 _ 13 5 k _ 13 f = Z 13 f
    rw [u3_g, b2_coln _ _ _ _ hf, ih]
/-- the reference's undo where m + 1 deeds are remembered -/
def undo0 (Y : St) (m : Nat) : St := sg (u3 Y 14 0 0 (nI m)) 0 (Y (m + 1))
noncomputable def N_undoM (Y : St) (m : Nat) : St := ci (Y 13 0 m = 10) (unrev (undo0 Y m) m m) (undo0 Y m)
/-- a deed that can be revoked -/
def p_can (Y : St) (j : Nat) : Prop := ¬ Y 13 5 j = 1 ∧ Y 13 4 j = Y 0 14 0 ∧ ((Y 13 0 j = 8 ∧ Y 13 3 j ≤ fr (Y 0) (Y 13 2 j)) ∨ (¬ Y 13 0 j = 8 ∧ Y 13 0 j = 5 ∧ 0 < qv (Y 0) 11 (Y 13 1 j)))
theorem dIdx {d i : Int32} {n : Nat} (hd : d = nI n) (hn : n ≤ 12) (c1 : 0 ≤ i) (c2 : ¬ d ≤ i) : ∃ j : Nat, j < n ∧ i = nI j ∧ d - 1 - i = nI (n - 1 - j) := by
  rw [i3_le, t_0] at c1
  rw [i3_le, hd, nI_t (by omega)] at c2
  have hj : i.toInt.toNat < n := by omega
  have e : i = nI i.toInt.toNat := by
    rw [i3_eq, nI_toInt (by omega)]
    omega
  refine ⟨i.toInt.toNat, hj, e, ?_⟩
  have e2 : nI n - 1 - i = nI n - nI 1 - nI i.toInt.toNat := by
    rw [← e]
    rfl
  rw [hd, e2, pk_sub (by omega), pk_sub (by omega)]
theorem dIdx_in {d i : Int32} {n : Nat} (hd : d = nI n) (hn : n ≤ 12) (c1 : 0 ≤ i) (c2 : ¬ d ≤ i) : vp_in (d - 1 - i) 12 := by
  obtain ⟨j, h1, h2, h3⟩ := dIdx hd hn c1 c2
  exact in12 h3 (by omega)
noncomputable def V_deedM (Y : St) (i : Int32) : Int32 := ci (0 ≤ i) (ci (Y 14 0 0 ≤ i) (-9) (Y 13 0 (Y 14 0 0 - 1 - i).toNatClampNeg)) (-1)
def dp_I (r : Bk) (h x2 x3 : Int32) : Prop := (x3 = -9 ∧ x2 = qv r 9 h) ∨ (p_has r x3 ∧ 0 ≤ x2.toInt ∧ x2.toInt + (qv r 9 x3).toInt + 1 = (qv r 9 h).toInt)
theorem dp_0 {K : Int} {r : Bk} {h : Int32} (o : Ok K r) (p : p_has r h) : dp_I r h 0 (qv r 0 h) := by
  have h0 := ok_dep o p
  rcases ok_up o p with ⟨h1, h2⟩ | ⟨h1, h2⟩
  · exact Or.inl ⟨h1, by rw [i3_eq, t_0]; omega⟩
  · exact Or.inr ⟨h1, by rw [t_0]; omega, by rw [t_0]; omega⟩
theorem dp_s {K : Int} {r : Bk} {h x2 x3 : Int32} (o : Ok K r) (p : p_has r h) (d : dp_I r h x2 x3) (e : ¬ x3 = -9) : dp_I r h (x2 + 1) (qv r 0 x3) := by
  have h0 := ok_dep o p
  rcases d with ⟨d, _⟩ | ⟨d, d1, d2⟩
  · exact absurd d e
  · have h3 := ok_dep o d
    have e1 : (x2 + 1).toInt = x2.toInt + 1 := by
      rw [Int32.toInt_add, t_1]
      exact Int.bmod_eq_of_le (by omega) (by omega)
    rcases ok_up o d with ⟨h1, h2⟩ | ⟨h1, h2⟩
    · exact Or.inl ⟨h1, by rw [i3_eq, e1]; omega⟩
    · exact Or.inr ⟨h1, by omega, by omega⟩
theorem dp_e {r : Bk} {h x2 x3 : Int32} (d : dp_I r h x2 x3) (e : x3 = -9) : x2 = qv r 9 h := by
  rcases d with ⟨_, d⟩ | ⟨d, _⟩
  · exact d
  · exact absurd e (has_ne9 d)
/-- the most that may move, as the reference finds it -/
theorem mov_1 {r : Bk} {a b : Int32} (p : p_may r a b) (f l : Int32) (hf : p_free r a = f) (hl : p_lv r a = l) : p_mov r a b = i3max 0 (i3min 100000 (i3min f l)) := by
  unfold p_mov
  rw [ci_t p, hf, hl]
theorem min_a {f l : Int32} (h : l ≤ f) : i3min f l = l := by
  unfold i3min
  by_cases z : l < f
  · rw [if_pos z]
  · rw [if_neg z, i3_eq]
    rw [i3_le] at h
    rw [i3_lt] at z
    omega
theorem min_b {f l : Int32} (h : ¬ l ≤ f) : i3min f l = f := by
  unfold i3min
  rw [if_neg (fun z => h (Int32.le_of_lt z))]
theorem mx_neg {x : Int32} (h : ¬ 0 ≤ x) : i3max 0 (i3min 100000 x) = 0 := by
  rw [i3_le, t_0] at h
  rw [min_a (by rw [i3_le, t_h]; omega)]
  unfold i3max
  rw [if_neg (by rw [i3_lt, t_0]; omega)]
theorem mx_mid {x : Int32} (h : 0 ≤ x) (h2 : ¬ 100000 ≤ x) : i3max 0 (i3min 100000 x) = x := by
  rw [i3_le, t_0] at h
  rw [i3_le, t_h] at h2
  rw [min_a (by rw [i3_le, t_h]; omega)]
  unfold i3max
  by_cases z : 0 < x
  · rw [if_pos z]
  · rw [if_neg z, i3_eq, t_0]
    rw [i3_lt, t_0] at z
    omega
theorem mx_big {x : Int32} (h2 : 100000 ≤ x) : i3max 0 (i3min 100000 x) = 100000 := by
  by_cases e : x ≤ 100000
  · have : x = 100000 := by
      rw [i3_eq]
      rw [i3_le] at h2 e
      omega
    rw [this]
    decide
  · rw [min_b e]
    decide
theorem lv_ref {r : Bk} {h : Int32} : p_lv r h = ((qv r 8 h).toInt64 * (qv r 6 h).toInt64 / 100).toInt32 - qv r 7 h := by
  unfold p_lv p_part
  rw [Int64.mul_comm]
/-- a virement's amount against the most that may move -/
theorem amt_mov {r : Bk} {a b m : Int32} (ha : p_amt m) (p : p_may r a b) : m ≤ p_mov r a b ↔ m ≤ p_free r a ∧ m ≤ p_lv r a := by
  rw [mov_1 p _ _ rfl rfl]
  unfold p_amt at ha
  by_cases c : p_lv r a ≤ p_free r a
  · rw [min_a c]
    rw [i3_le] at c
    by_cases d : 0 ≤ p_lv r a
    · by_cases e : 100000 ≤ p_lv r a
      · rw [mx_big e]
        rw [i3_le] at e
        simp only [i3_le, t_h] at *
        omega
      · rw [mx_mid d e]
        simp only [i3_le] at *
        omega
    · rw [mx_neg d]
      simp only [i3_le, t_0] at *
      omega
  · rw [min_b c]
    rw [i3_le] at c
    by_cases d : 0 ≤ p_free r a
    · by_cases e : 100000 ≤ p_free r a
      · rw [mx_big e]
        rw [i3_le] at e
        simp only [i3_le, t_h] at *
        omega
      · rw [mx_mid d e]
        simp only [i3_le] at *
        omega
    · rw [mx_neg d]
      simp only [i3_le, t_0] at *
      omega
theorem amt_mov0 {r : Bk} {a b m : Int32} (ha : p_amt m) (p : ¬ p_may r a b) : ¬ m ≤ p_mov r a b := by
  unfold p_mov
  rw [ci_f p, i3_le, t_0]
  unfold p_amt at ha
  omega
/-- who is richer, by differences -/
theorem sub_t {x y : Int32} {B : Int} (h : B ≤ 500000000) (h1 : 0 ≤ x.toInt ∧ x.toInt ≤ B) (h2 : 0 ≤ y.toInt ∧ y.toInt ≤ B) : (x - y).toInt = x.toInt - y.toInt := by
  rw [Int32.toInt_sub]
  exact Int.bmod_eq_of_le (by omega) (by omega)
theorem rk_t {K : Int} {r : Bk} {h : Int32} (o : Ok K r) (p : p_has r h) : 0 ≤ (qv r 1 h).toInt ∧ (qv r 1 h).toInt ≤ 9 := by
  obtain ⟨n, h1, h2, h3, h4, h5⟩ := has_at o p
  unfold qv
  rw [h4]
  exact o.R n h2
theorem rich_iff {K : Int} {r : Bk} {a b : Int32} (o : Ok K r) (p : p_has r a) (q : p_has r b) : p_rich r a b ↔ (0 < fr r a - fr r b ∨ (fr r a - fr r b = 0 ∧ (0 < qv r 1 a - qv r 1 b ∨ (qv r 1 a - qv r 1 b = 0 ∧ a < b)))) := by
  have h1 := fr_t o p
  have h2 := fr_t o q
  have h3 := rk_t o p
  have h4 := rk_t o q
  have h5 := o.B
  unfold p_rich
  rw [free_fr p, free_fr q]
  simp only [i3_lt, i3_eq, t_0, sub_t (B := 2 * K) (by omega) h1.2 h2.2, sub_t (B := 9) (by omega) h3 h4, ne_eq]
  constructor
  · rintro ⟨_, _, z, y⟩
    omega
  · intro z
    refine ⟨p, q, ?_, ?_⟩
    · intro e
      have e2 : a = b := i3_eq.mpr e
      subst e2
      omega
    · omega
theorem ahead_md {K : Int} {r : Bk} {a t : Int32} (o : Ok K r) : p_ahead r a t 20 = p_ahead r a t (md r) :=
  sumI_cut (md_20 o).2.1 (fun k h1 h2 => ci_f (fun z => has_no o h1 (by omega) (wit_has z.2.1)))
theorem best_has {r : Bk} {t xb xm by0 : Int32} {k : Nat} (e : p_best r t k = (xb, xm)) (c : ¬ by0 ≤ 0) (c2 : by0 = xm) : p_has r xb := by
  rcases best_inv (r := r) (t := t) k with i | i
  · rw [e] at i
    exact absurd (by rw [c2, show xm = 0 from i.2]; exact Int32.le_refl _) c
  · rw [e] at i
    exact i.1
theorem best_pos {r : Bk} {t xb xm : Int32} {k : Nat} (e : p_best r t k = (xb, xm)) (p : p_has r xb) : ¬ xm ≤ 0 := by
  rcases best_inv (r := r) (t := t) k with i | i
  · rw [e] at i
    exact absurd p (by rw [show xb = -9 from i.1]; exact no9)
  · rw [e] at i
    exact Int32.not_le.mpr i.2
theorem may_ref {K : Int} {r : Bk} {a b : Int32} (o : Ok K r) (p : p_has r a) (q : p_has r b) (n : a ≠ b) (c1 : ¬ p_bar r 5 a) (c2 : ¬ p_bar r 5 b) (h : mb r a b ∨ mb r b a ∨ qv r 0 a = qv r 0 b ∨ qv r 1 a ≤ qv r 1 b) : p_may r a b :=
  ⟨p, q, n, c1, c2, by
    rcases h with h | h | h | h
    · exact Or.inl ((wit_mb o p).mpr (Or.inr h))
    · exact Or.inr (Or.inl ((wit_mb o q).mpr (Or.inr h)))
    · exact Or.inr (Or.inr (Or.inl h))
    · exact Or.inr (Or.inr (Or.inr h))⟩
theorem may_no {K : Int} {r : Bk} {a b : Int32} (o : Ok K r) (p : p_has r a) (q : p_has r b) (z : p_may r a b) (h1 : ¬ mb r a b) (h2 : ¬ mb r b a) (h3 : ¬ qv r 0 a = qv r 0 b) (h4 : qv r 1 b < qv r 1 a) : False := by
  rcases z.2.2.2.2.2 with w | w | w | w
  · exact ((wit_mb o p).mp w).elim z.2.2.1 h1
  · exact ((wit_mb o q).mp w).elim (fun e => z.2.2.1 e.symm) h2
  · exact h3 w
  · exact Int32.not_le.mpr h4 w
/-- a commitment's four numbers -/
noncomputable def comm3 (r : Bk) (q w : Int32) : Int32 := ci (w = 0) (qv r 10 q) (ci (w = 1) (qv r 11 q) (ci (w = 2) (qv r 12 q) (qv r 13 q)))
theorem w03 {w : Int32} (h : p_in w 0 3) : w = 0 ∨ w = 1 ∨ w = 2 ∨ w = 3 := by
  unfold p_in at h
  rw [t_0, show (3 : Int32).toInt = 3 by decide] at h
  simp only [i3_eq, t_0, t_1, t_2, show (3 : Int32).toInt = 3 by decide]
  omega
theorem row_c3 {Y : St} {q w : Int32} (hh : cin q) (h : p_in w 0 3) : rowM Y (oC q w).toNatClampNeg = comm3 (Y 0) q w := by
  unfold comm3
  rcases w03 h with e | e | e | e <;> subst e
  · rw [ci_t rfl]
    exact row_oC (n := 0) hh (by decide)
  · rw [ci_f (by decide), ci_t rfl]
    exact row_oC (n := 1) hh (by decide)
  · rw [ci_f (by decide), ci_f (by decide), ci_t rfl]
    exact row_oC (n := 2) hh (by decide)
  · rw [ci_f (by decide), ci_f (by decide), ci_f (by decide)]
    exact row_oC (n := 3) hh (by decide)
theorem oC_in3 {q w : Int32} (hh : cin q) (h : p_in w 0 3) : vp_in (oC q w) 4498 := by
  rcases w03 h with e | e | e | e <;> subst e
  · exact oC_in (n := 0) hh (by decide)
  · exact oC_in (n := 1) hh (by decide)
  · exact oC_in (n := 2) hh (by decide)
  · exact oC_in (n := 3) hh (by decide)
theorem n10 : ¬ (1 : Int32) = 0 := by decide
theorem n20 : ¬ (2 : Int32) = 0 := by decide
theorem n21 : ¬ (2 : Int32) = 1 := by decide
theorem n30 : ¬ (3 : Int32) = 0 := by decide
theorem n31 : ¬ (3 : Int32) = 1 := by decide
theorem n32 : ¬ (3 : Int32) = 2 := by decide
theorem comm_yes {r : Bk} {q w : Int32} (p : p_hasC r q) (h : p_in w 0 3) : v_comm r q w = comm3 r q w := by
  unfold v_comm comm3
  rw [ci_t p]
  rcases w03 h with e | e | e | e <;> subst e
  · rw [ci_t rfl, ci_t rfl]
  · rw [ci_f n10, ci_t rfl, ci_f n10, ci_t rfl]
  · rw [ci_f n20, ci_f n21, ci_t rfl, ci_f n20, ci_f n21, ci_t rfl]
  · rw [ci_f n30, ci_f n31, ci_f n32, ci_t rfl, ci_f n30, ci_f n31, ci_f n32]
theorem comm_no {r : Bk} {q w : Int32} (p : p_hasC r q) (h : ¬ p_in w 0 3) : v_comm r q w = -1 := by
  unfold v_comm
  rw [ci_t p, ci_f (fun e => h (by rw [e]; exact ⟨by decide, by decide⟩)), ci_f (fun e => h (by rw [e]; exact ⟨by decide, by decide⟩)), ci_f (fun e => h (by rw [e]; exact ⟨by decide, by decide⟩)), ci_f (fun e => h (by rw [e]; exact ⟨by decide, by decide⟩))]
