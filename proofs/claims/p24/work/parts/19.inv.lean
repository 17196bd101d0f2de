/-! WHAT HOLDS BESIDES: a head's committed money is what is open of its commitments, what was paid is spent, shares are parts of a hundred -/
noncomputable def s_com (r : Bk) (h : Nat) : Int32 := sumI (fun c => ci (r 10 c = nI h) (r 11 c) 0) 40
def s_paid (r : Bk) : Int32 := sumI (fun c => r 12 c) 40
def Iv (r : Bk) : Prop := (∀ h : Nat, h < 20 → r 4 h = s_com r h) ∧ r 14 5 = s_paid r ∧ (∀ h : Nat, h < 20 → 0 ≤ (r 8 h).toInt ∧ (r 8 h).toInt ≤ 100)
def Gd (K : Int) (r : Bk) : Prop := Ok K r ∧ Iv r
theorem sumI_upd {f g : Nat → Int32} {i : Nat} : ∀ {n : Nat}, i < n → (∀ k, k < n → k ≠ i → g k = f k) → sumI g n = sumI f n - f i + g i := by
  intro n
  induction n with
  | zero =>
    intro h
    omega
  | succ n ih =>
    intro h e
    show sumI g n + g n = sumI f n + f n - f i + g i
    by_cases z : i = n
    · subst z
      rw [sumI_congr (fun k hk => e k (by omega) (by omega))]
      grind
    · rw [ih (by omega) (fun k h1 h2 => e k (by omega) h2), e n (by omega) (fun q => z q.symm)]
      grind
section
variable {K : Int} {r r' R : Bk} {h a q f t k x : Int32}
theorem Gd_mono {K' : Int} (hK : K ≤ K') (hB : K' ≤ 60000000) (g : Gd K r) : Gd K' r := ⟨Ok_mono hK hB g.1, g.2⟩
theorem Iv_c (e4 : r' 4 = r 4) (e8 : r' 8 = r 8) (e10 : r' 10 = r 10) (e11 : r' 11 = r 11) (e12 : r' 12 = r 12) (e5 : r' 14 5 = r 14 5) (o : Iv r) : Iv r' := by
  unfold Iv s_com s_paid at o ⊢
  rw [e4, e8, e10, e11, e12, e5]
  exact o
/-- one commitment changed, and what its head has committed -/
theorem Iv_1 {n i : Nat} (o : Iv r) (hi : i < 40) (hn : n < 20) (e8 : R 8 = r 8) (E : ∀ c : Nat, c ≠ i → R 10 c = r 10 c ∧ R 11 c = r 11 c ∧ R 12 c = r 12 c) (E4 : ∀ c : Nat, c ≠ n → R 4 c = r 4 c)
  (q10 : R 10 i = nI n) (old : r 10 i = nI n ∨ r 11 i = 0) (d : R 4 n = r 4 n - r 11 i + R 11 i) (d2 : R 14 5 = r 14 5 - r 12 i + R 12 i) : Iv R := by
  refine ⟨fun h hh => ?_, ?_, by rw [e8]; exact o.2.2⟩
  · have oh := o.1 h hh
    unfold s_com at oh ⊢
    rw [sumI_upd (f := fun c => ci (r 10 c = nI h) (r 11 c) 0) (g := fun c => ci (R 10 c = nI h) (R 11 c) 0) hi (fun k hk ne => by
      show ci (R 10 k = nI h) (R 11 k) 0 = ci (r 10 k = nI h) (r 11 k) 0
      rw [(E k ne).1, (E k ne).2.1])]
    show R 4 h = sumI (fun c => ci (r 10 c = nI h) (r 11 c) 0) 40 - ci (r 10 i = nI h) (r 11 i) 0 + ci (R 10 i = nI h) (R 11 i) 0
    rw [← oh]
    by_cases z : h = n
    · subst z
      have w : ci (r 10 i = nI h) (r 11 i) 0 = r 11 i := by
        by_cases y : r 10 i = nI h
        · rw [ci_t y]
        · rw [ci_f y, old.resolve_left y]
      rw [ci_t q10, w, d]
    · have n1 : ¬ nI n = nI h := fun y => z ((nI_eq (by omega) (by omega)).mp y).symm
      have w : ci (r 10 i = nI h) (r 11 i) 0 = 0 := by
        by_cases y : r 10 i = nI h
        · rw [ci_t y]
          exact old.resolve_left (fun v => n1 (v.symm.trans y))
        · rw [ci_f y]
      rw [q10, ci_f n1, w, E4 h z]
      grind
  · have o2 := o.2.1
    unfold s_paid at o2 ⊢
    rw [sumI_upd (f := fun c => r 12 c) (g := fun c => R 12 c) hi (fun k hk ne => (E k ne).2.2), ← o2]
    exact d2
theorem gd_make (g : Gd K r) (p : p_has r a) (pk : p_in k 0 9) (d : ¬ qv r 9 a = 4) (c : ¬ r 14 1 = 20) : Gd K (n_make r a k) := by
  refine ⟨(ok_make g.1 p pk d c).1, ?_⟩
  have h1 := g.1.S.1
  have c2 : r 14 1 < 20 := by rw [i3_lt, t_20]; rw [i3_eq, t_20] at c; omega
  rw [mk_add g.1 c2]
  obtain ⟨i, ei⟩ : ∃ i : Nat, i = (r 14 1).toNatClampNeg := ⟨_, rfl⟩
  have E : ∀ b c : Nat, b ≠ 0 → b ≠ 1 → b ≠ 8 → b ≠ 9 → b ≠ 14 → n_add r a k b c = r b c := fun b c q1 q2 q3 q4 q5 => by simp [n_add, b2, q1, q2, q3, q4, q5]
  have F : ∀ b : Nat, b ≠ 0 → b ≠ 1 → b ≠ 8 → b ≠ 9 → b ≠ 14 → n_add r a k b = r b := fun b q1 q2 q3 q4 q5 => funext fun c => E b c q1 q2 q3 q4 q5
  have E8 : ∀ c : Nat, n_add r a k 8 c = if c = i then 50 else r 8 c := fun c => by simp [n_add, b2, ← ei]
  have E5 : n_add r a k 14 5 = r 14 5 := by simp [n_add, b2]
  have o := g.2
  unfold Iv s_com s_paid at o ⊢
  rw [F 4 (by omega) (by omega) (by omega) (by omega) (by omega), F 10 (by omega) (by omega) (by omega) (by omega) (by omega), F 11 (by omega) (by omega) (by omega) (by omega) (by omega), F 12 (by omega) (by omega) (by omega) (by omega) (by omega), E5]
  refine ⟨o.1, o.2.1, fun h hh => ?_⟩
  rw [E8]
  by_cases z : h = i
  · rw [if_pos z, t_50]
    omega
  · rw [if_neg z]
    exact o.2.2 h hh
theorem gd_allot (g : Gd K r) (p : p_has r h) (am : p_amt a) (hB : K + 100000 ≤ 60000000) : Gd (K + 100000) (n_allot r h a) :=
  ⟨(ok_allot g.1 p am hB).1, Iv_c (funext fun c => by simp [n_allot, b2]) (funext fun c => by simp [n_allot, b2]) (funext fun c => by simp [n_allot, b2]) (funext fun c => by simp [n_allot, b2]) (funext fun c => by simp [n_allot, b2]) (by simp [n_allot, b2]) g.2⟩
theorem gd_freeze (g : Gd K r) (p : p_in x 0 1) : Gd K (n_freeze r h x) :=
  ⟨(ok_frz g.1 p).1, Iv_c (funext fun c => by simp [n_freeze, b2]) (funext fun c => by simp [n_freeze, b2]) (funext fun c => by simp [n_freeze, b2]) (funext fun c => by simp [n_freeze, b2]) (funext fun c => by simp [n_freeze, b2]) (by simp [n_freeze, b2]) g.2⟩
theorem gd_share (g : Gd K r) (p : p_in x 0 100) : Gd K (n_setShare r h x) := by
  refine ⟨(ok_share g.1 _ _).1, ?_⟩
  have o := g.2
  have F : ∀ b : Nat, b ≠ 8 → n_setShare r h x b = r b := fun b q1 => funext fun c => by simp [n_setShare, b2, q1]
  unfold Iv s_com s_paid at o ⊢
  rw [F 4 (by omega), F 10 (by omega), F 11 (by omega), F 12 (by omega), F 14 (by omega)]
  refine ⟨o.1, o.2.1, fun j hj => ?_⟩
  unfold n_setShare
  by_cases z : j = h.toNatClampNeg
  · rw [z, b2_s]
    unfold p_in at p
    rw [t_0, t_100] at p
    exact p
  · rw [b2_ni _ _ _ _ z]
    exact o.2.2 j hj
theorem gd_carried (g : Gd K r) (p : p_in x 0 100) : Gd K (n_setCarried r x) :=
  ⟨(ok_num g.1 (i := 3) (v := x) (by omega) (by omega) (fun z => by omega) (fun _ => p)).1, Iv_c (funext fun c => by simp [n_setCarried, b2]) (funext fun c => by simp [n_setCarried, b2]) (funext fun c => by simp [n_setCarried, b2]) (funext fun c => by simp [n_setCarried, b2]) (funext fun c => by simp [n_setCarried, b2]) (by simp [n_setCarried, b2]) g.2⟩
theorem gd_commit (g : Gd K r) (p : p_has r h) (am : p_amt a) (le : a ≤ fr r h) (c : ¬ r 14 2 = 40) (hB : K + 100000 ≤ 60000000) : Gd (K + 100000) (n_commit r h a) := by
  rw [(cmt_eq g.1 p c).1]
  refine ⟨(ok_commit g.1 p am le c hB).1, ?_⟩
  have h1 := g.1.N.1
  have c2 : (r 14 2).toInt < 40 := by rw [i3_eq, t_40] at c; omega
  obtain ⟨n, hn1, hn2, hn3, hn4, hn5⟩ := has_at g.1 p
  obtain ⟨i, ei⟩ : ∃ i : Nat, i = (r 14 2).toNatClampNeg := ⟨_, rfl⟩
  have ei2 : (i : Int) = (r 14 2).toInt := by rw [ei, ix_t]; omega
  have u := (g.1.C i (by omega)).2 (by omega)
  refine Iv_1 (n := n) (i := i) g.2 (by omega) hn2 (funext fun c => by simp [m_commit, b2]) (fun c z => by simp [m_commit, b2, ← ei, z]) (fun c z => by simp [m_commit, b2, hn4, z]) (by simp [m_commit, b2, ← ei, hn3]) (Or.inr u.1) ?_ ?_
  · rw [u.1]
    simp [m_commit, b2, hn4, ← ei, qv]
  · rw [u.2]
    simp [m_commit, b2, ← ei]
theorem hasC_ix (g : Ok K r) (p : p_hasC r q) : ∃ n i : Nat, n < 20 ∧ i < 40 ∧ q.toNatClampNeg = i ∧ r 10 i = nI n ∧ (qv r 10 q).toNatClampNeg = n := by
  have e := hasC_head g p
  obtain ⟨n, hn1, hn2, hn3, hn4, hn5⟩ := has_at g e
  obtain ⟨i, hi1, hi2, hi3, hi4, hi5⟩ := hasC_at g p
  refine ⟨n, i, hn2, hi2, hi4, ?_, hn4⟩
  unfold qv at hn3
  rw [hi4] at hn3
  exact hn3
theorem gd_pay (g : Gd K r) (p : p_hasC r q) (am : p_amt a) (le : a ≤ qv r 11 q) (hB : K + 100000 ≤ 60000000) : Gd (K + 100000) (n_pay r q a) := by
  rw [py_eq g.1 p]
  refine ⟨(ok_pay g.1 p am le hB).1, ?_⟩
  obtain ⟨n, i, hn, hi, hi4, q10, hn4⟩ := hasC_ix g.1 p
  refine Iv_1 (n := n) (i := i) g.2 hi hn (funext fun c => by simp [m_pay, b2]) (fun c z => by simp [m_pay, b2, hi4, z]) (fun c z => by simp [m_pay, b2, hn4, z]) (by simp [m_pay, b2, q10]) (Or.inl q10) ?_ ?_
  · have q4 : (r 10 i).toNatClampNeg = n := by rw [q10, nI_c (by omega)]
    have z1 : m_pay r q a 4 n = r 4 n - a := by simp [m_pay, b2, hi4, q4, qv]
    have z2 : m_pay r q a 11 i = r 11 i - a := by simp [m_pay, b2, hi4, qv]
    rw [z1, z2]
    grind
  · have z1 : m_pay r q a 14 5 = r 14 5 + a := by simp [m_pay, b2]
    have z2 : m_pay r q a 12 i = r 12 i + a := by simp [m_pay, b2, hi4, qv]
    rw [z1, z2]
    grind
theorem gd_free (g : Gd K r) (p : p_hasC r q) (hB : K + 100000 ≤ 60000000) : Gd (K + 100000) (b_free0 r q) := by
  rw [(fre_eq g.1 p).1]
  refine ⟨(ok_free g.1 p hB).1, ?_⟩
  obtain ⟨n, i, hn, hi, hi4, q10, hn4⟩ := hasC_ix g.1 p
  refine Iv_1 (n := n) (i := i) g.2 hi hn (funext fun c => by simp [m_free0, b2]) (fun c z => by simp [m_free0, b2, hi4, z]) (fun c z => by simp [m_free0, b2, hn4, z]) (by simp [m_free0, b2, q10]) (Or.inl q10) ?_ ?_
  · have q4 : (r 10 i).toNatClampNeg = n := by rw [q10, nI_c (by omega)]
    have z1 : m_free0 r q 4 n = r 4 n - r 11 i := by simp [m_free0, b2, hi4, q4, qv]
    have z2 : m_free0 r q 11 i = 0 := by simp [m_free0, b2, hi4]
    rw [z1, z2]
    grind
  · have z1 : m_free0 r q 14 5 = r 14 5 := by simp [m_free0, b2]
    have z2 : m_free0 r q 12 i = r 12 i := by simp [m_free0, b2]
    rw [z1, z2]
    grind
theorem gd_mv (g : Gd K r) (hB : K + 100000 ≤ 60000000) (am : -100000 ≤ a.toInt ∧ a.toInt ≤ 100000) (h1 : p_has r f → a.toInt ≤ (fr r f).toInt) (h2 : p_has r t → -a.toInt ≤ (fr r t).toInt) : Gd (K + 100000) (b_mv r f t a) := by
  unfold b_mv
  by_cases c : p_has r f ∧ p_has r t ∧ f ≠ t
  · rw [ci_t c]
    exact ⟨(ok_mv g.1 c.1 c.2.1 c.2.2 hB am (h1 c.1) (h2 c.2.1)).1, Iv_c (funext fun c => by simp [n_mv, b2]) (funext fun c => by simp [n_mv, b2]) (funext fun c => by simp [n_mv, b2]) (funext fun c => by simp [n_mv, b2]) (funext fun c => by simp [n_mv, b2]) (by simp [n_mv, b2]) g.2⟩
  · rw [ci_f c]
    exact Gd_mono (by omega) hB g
theorem ey_E (o : Ok K r) (b c : Nat) : n_endYear r b c = if b = 14 ∧ c = 0 then r 14 0 + 1 else if b = 14 ∧ c = 4 then r 14 4 + p_lapse r 0 (r 14 3) 20 else eyR r (md r) b c := by
  have h9 := md_20 o
  have e := ey_c2 o (20 - md r) (by omega)
  rw [show md r + (20 - md r) = 20 by omega] at e
  have e14 : ∀ i : Nat, eyR r (md r) 14 i = r 14 i := fun i => eyR_o r (by omega) (by omega) (by omega) (by omega)
  unfold n_endYear
  rw [e]
  by_cases z0 : b = 14 ∧ c = 0
  · rw [if_pos z0, z0.1, z0.2, b2_s, b2_ni _ _ _ _ (by omega), e14]
  · rw [if_neg z0]
    by_cases z4 : b = 14 ∧ c = 4
    · rw [if_pos z4, z4.1, z4.2, b2_ni _ _ _ _ (by omega), b2_s, e14]
    · rw [if_neg z4]
      simp only [b2]
      grind
theorem gd_endYear (g : Gd K r) (c : ¬ r 14 0 = 99) : Gd K (n_endYear r) := by
  have F : ∀ b : Nat, b ≠ 3 → b ≠ 5 → b ≠ 6 → b ≠ 7 → b ≠ 14 → n_endYear r b = r b := fun b q1 q2 q3 q4 q5 => funext fun c => by
    rw [ey_E g.1, if_neg (by omega), if_neg (by omega), eyR_o r q1 q2 q3 q4]
  have e5 : n_endYear r 14 5 = r 14 5 := by rw [ey_E g.1, if_neg (by omega), if_neg (by omega), eyR_o r (by omega) (by omega) (by omega) (by omega)]
  refine ⟨by rw [ey_eq g.1]; exact (ok_endYear g.1 c).1, Iv_c (F _ (by omega) (by omega) (by omega) (by omega) (by omega)) (F _ (by omega) (by omega) (by omega) (by omega) (by omega)) (F _ (by omega) (by omega) (by omega) (by omega) (by omega)) (F _ (by omega) (by omega) (by omega) (by omega) (by omega)) (F _ (by omega) (by omega) (by omega) (by omega) (by omega)) e5 g.2⟩
end
