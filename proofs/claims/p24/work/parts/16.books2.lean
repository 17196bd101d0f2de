section
variable {K : Int} {r r' : Bk} {h a q f t k x : Int32}
theorem mk_val (o : Ok K r) (c : r 14 1 < 20) : a_add r = r 14 1 := by
  have h1 := o.S.1
  unfold a_add
  rw [ci_f (by rw [i3_lt, t_0]; omega), ci_t c]
theorem mk_add (o : Ok K r) (c : r 14 1 < 20) : n_make r a k = n_add r a k := by
  have h1 := o.S.1
  unfold n_make b_add
  rw [ci_f (by rw [i3_lt, t_0]; omega), ci_t c]
theorem mk_eq (o : Ok K r) (p : p_has r a) (c : r 14 1 < 20) : n_make r a k = b2 (m_make r a k) 9 (r 14 1).toNatClampNeg (qv r 9 a + 1) := by
  rw [mk_add o c]
  have e : p_has (b2 r 0 (r 14 1).toNatClampNeg a) a := p
  have e2 : qv (b2 r 0 (r 14 1).toNatClampNeg a) 9 a = qv r 9 a := b2_nf _ _ _ _ (by omega)
  unfold n_add m_make
  dsimp only
  rw [ci_t e, e2]
  funext b c
  simp only [b2]
  grind
theorem ok_make (o : Ok K r) (p : p_has r a) (pk : p_in k 0 9) (d : ¬ qv r 9 a = 4) (c : ¬ r 14 1 = 20) : Ok K (n_make r a k) ∧ le_bk r (n_make r a k) := by
  have h1 := o.S.1
  have c2 : r 14 1 < 20 := by rw [i3_lt, t_20]; rw [i3_eq, t_20] at c; omega
  rw [mk_eq o p c2]
  have c3 := c2
  rw [i3_lt, t_20] at c3
  have hd := ok_dep o p
  have d4 : (qv r 9 a).toInt < 4 := by rw [i3_eq, t_4] at d; omega
  obtain ⟨j, hj1, hj2, hj3, hj4, hj5⟩ := has_at o p
  have h9 := md_20 o
  obtain ⟨n, en⟩ : ∃ n : Nat, n = md r := ⟨_, rfl⟩
  have en2 : (r 14 1).toNatClampNeg = n := by rw [en]; rfl
  have en3 : (n : Int) = (r 14 1).toInt := by rw [en]; exact h9.2.2
  have z1 : (r 14 1 + 1).toInt = (r 14 1).toInt + 1 := by rw [ad_t (by rw [t_1]; omega), t_1]
  have z2 : (qv r 9 a + 1).toInt = (qv r 9 a).toInt + 1 := by rw [ad_t (by rw [t_1]; omega), t_1]
  obtain ⟨R, eR⟩ : ∃ R : Bk, R = b2 (m_make r a k) 9 (r 14 1).toNatClampNeg (qv r 9 a + 1) := ⟨_, rfl⟩
  rw [← eR]
  have E : ∀ b i : Nat, b ≠ 0 → b ≠ 1 → b ≠ 8 → b ≠ 9 → b ≠ 14 → R b i = r b i := fun b i q1 q2 q3 q4 q5 => by rw [eR]; simp [m_make, b2, q1, q2, q3, q4, q5]
  have E0 : ∀ i : Nat, i ≠ n → R 0 i = r 0 i ∧ R 1 i = r 1 i ∧ R 9 i = r 9 i := fun i z => by rw [eR, en2]; simp [m_make, b2, en2, z]
  have E14 : ∀ i : Nat, i ≠ 1 → R 14 i = r 14 i := fun i z => by rw [eR]; simp [m_make, b2, z]
  have En : R 0 n = a ∧ R 1 n = k ∧ R 9 n = qv r 9 a + 1 := by rw [eR, en2]; simp [m_make, b2, en2]
  have E1 : R 14 1 = r 14 1 + 1 := by rw [eR]; simp [m_make, b2]
  have pk2 := pk
  unfold p_in at pk2
  rw [t_0, t_9] at pk2
  refine ⟨⟨o.B, ?_, OkF_c (funext fun c => E _ _ (by omega) (by omega) (by omega) (by omega) (by omega)) o.F, OkN_c (E14 _ (by omega)) (E14 _ (by omega)) (E14 _ (by omega)) o.N, ?_, ?_, ?_, ?_⟩, ?_⟩
  · unfold OkS
    rw [E1, z1]
    have s := o.S
    unfold OkS at s
    refine ⟨by omega, ?_, ?_, ?_, ?_⟩
    · rw [(E0 0 (by omega)).1]
      exact s.2.1
    · rw [(E0 0 (by omega)).2.2]
      exact s.2.2.1
    · intro i hi1 hi2
      by_cases z : i = n
      · rw [z, En.1, En.2.2, hj4, (E0 j (by omega)).2.2, z2]
        refine ⟨by omega, by omega, ?_⟩
        unfold qv
        rw [hj4]
      · have s4 := s.2.2.2.1 i hi1 (by omega)
        rw [(E0 i z).1, (E0 i z).2.2, (E0 _ (show (r 0 i).toNatClampNeg ≠ n by rw [ix_t]; omega)).2.2]
        exact s4
    · intro i hi
      by_cases z : i = n
      · rw [z, En.2.2, z2]
        omega
      · rw [(E0 i z).2.2]
        exact s.2.2.2.2 i (by omega)
  · intro i hi
    rw [E 3 i (by omega) (by omega) (by omega) (by omega) (by omega), E 4 i (by omega) (by omega) (by omega) (by omega) (by omega), E 5 i (by omega) (by omega) (by omega) (by omega) (by omega)]
    exact o.M i hi
  · intro i hi
    by_cases z : i = n
    · rw [z, En.2.1]
      omega
    · rw [(E0 i z).2.1]
      exact o.R i hi
  · intro i hi hm
    rw [E1, z1] at hm
    rw [E 3 i (by omega) (by omega) (by omega) (by omega) (by omega), E 4 i (by omega) (by omega) (by omega) (by omega) (by omega), E 5 i (by omega) (by omega) (by omega) (by omega) (by omega), E 6 i (by omega) (by omega) (by omega) (by omega) (by omega), E 7 i (by omega) (by omega) (by omega) (by omega) (by omega)]
    exact o.U i hi (by omega)
  · intro i hi
    rw [E1, z1, E14 2 (by omega), E 10 i (by omega) (by omega) (by omega) (by omega) (by omega), E 11 i (by omega) (by omega) (by omega) (by omega) (by omega), E 12 i (by omega) (by omega) (by omega) (by omega) (by omega)]
    have := o.C i hi
    refine ⟨fun z => ?_, this.2⟩
    have := this.1 z
    omega
  · unfold le_bk
    rw [E1, z1, E14 2 (by omega)]
    omega
-- commit
theorem cmt_eq (o : Ok K r) (p : p_has r h) (c : ¬ r 14 2 = 40) : n_commit r h a = m_commit r h a ∧ a_addC (b_cc r h a) = r 14 2 := by
  have h1 := o.N.1
  have c2 : r 14 2 < 40 := by rw [i3_lt, t_40]; rw [i3_eq, t_40] at c; omega
  have c3 : ¬ r 14 2 < 0 := by rw [i3_lt, t_0]; omega
  have h2 := (o.C (r 14 2).toNatClampNeg (by rw [ix_t]; rw [i3_lt, t_40] at c2; omega)).2 (by rw [ix_t]; omega)
  unfold n_commit a_addC b_addC b_cc
  rw [ci_t p]
  have e : b2 r 4 h.toNatClampNeg (qv r 4 h + a) 14 2 = r 14 2 := b2_nf _ _ _ _ (by omega)
  rw [e, ci_f c3, ci_t c2, ci_f c3, ci_t c2]
  refine ⟨?_, rfl⟩
  unfold n_addC m_commit
  funext b i
  simp only [b2, qv]
  grind
theorem ok_commit (o : Ok K r) (p : p_has r h) (am : p_amt a) (le : a ≤ fr r h) (c : ¬ r 14 2 = 40) (hB : K + 100000 ≤ 60000000) : Ok (K + 100000) (m_commit r h a) ∧ le_bk r (m_commit r h a) ∧ p_hasC (m_commit r h a) (r 14 2) := by
  have h1 := o.N.1
  have c2 : (r 14 2).toInt < 40 := by rw [i3_eq, t_40] at c; omega
  have f1 := fr_t o p
  obtain ⟨n, hn1, hn2, hn3, hn4, hn5⟩ := has_at o p
  have h6 := o.B
  have h7 := o.M n hn2
  have h9 := md_20 o
  have h8 := am
  unfold p_amt at h8
  rw [i3_le] at le
  unfold qv at f1
  rw [hn4] at f1
  obtain ⟨i, ei⟩ : ∃ i : Nat, i = (r 14 2).toNatClampNeg := ⟨_, rfl⟩
  have ei2 : (i : Int) = (r 14 2).toInt := by rw [ei, ix_t]; omega
  have z1 : (r 14 2 + 1).toInt = (r 14 2).toInt + 1 := by rw [ad_t (by rw [t_1]; omega), t_1]
  obtain ⟨R, eR⟩ : ∃ R : Bk, R = m_commit r h a := ⟨_, rfl⟩
  rw [← eR]
  have E : ∀ b j : Nat, b ≠ 4 → b ≠ 10 → b ≠ 11 → b ≠ 12 → b ≠ 13 → b ≠ 14 → R b j = r b j := fun b j q1 q2 q3 q4 q5 q6 => by rw [eR]; simp [m_commit, b2, q1, q2, q3, q4, q5, q6]
  have E4 : ∀ j : Nat, j ≠ n → R 4 j = r 4 j := fun j z => by rw [eR]; simp [m_commit, b2, hn4, z]
  have En : R 4 n = r 4 n + a := by rw [eR]; simp [m_commit, b2, hn4, qv]
  have E10 : ∀ j : Nat, j ≠ i → R 10 j = r 10 j ∧ R 11 j = r 11 j ∧ R 12 j = r 12 j := fun j z => by rw [eR]; simp [m_commit, b2, ← ei, z]
  have Ei : R 10 i = h ∧ R 11 i = a := by rw [eR]; simp [m_commit, b2, ← ei]
  have E14 : ∀ j : Nat, j ≠ 2 → R 14 j = r 14 j := fun j z => by rw [eR]; simp [m_commit, b2, z]
  have E2 : R 14 2 = r 14 2 + 1 := by rw [eR]; simp [m_commit, b2]
  refine ⟨⟨⟨by omega, hB⟩, OkS_c (E14 _ (by omega)) (funext fun c => E _ _ (by omega) (by omega) (by omega) (by omega) (by omega) (by omega)) (funext fun c => E _ _ (by omega) (by omega) (by omega) (by omega) (by omega) (by omega)) o.S, OkF_c (funext fun c => E _ _ (by omega) (by omega) (by omega) (by omega) (by omega) (by omega)) o.F, ?_, OkM_1 (n := n) (by omega) o.M (fun k z => ⟨E _ _ (by omega) (by omega) (by omega) (by omega) (by omega) (by omega), E4 k z, E _ _ (by omega) (by omega) (by omega) (by omega) (by omega) (by omega)⟩) ?_,
    OkR_c (funext fun c => E _ _ (by omega) (by omega) (by omega) (by omega) (by omega) (by omega)) o.R, OkU_c (E14 _ (by omega)) (fun k hk hm => ⟨E _ _ (by omega) (by omega) (by omega) (by omega) (by omega) (by omega), E4 k (by omega), E _ _ (by omega) (by omega) (by omega) (by omega) (by omega) (by omega), E _ _ (by omega) (by omega) (by omega) (by omega) (by omega) (by omega), E _ _ (by omega) (by omega) (by omega) (by omega) (by omega) (by omega)⟩) o.U, ?_⟩, ?_, ?_⟩
  · unfold OkN
    rw [E2, z1, E14 0 (by omega), E14 3 (by omega)]
    have := o.N
    unfold OkN at this
    omega
  · rw [En, E 3 n (by omega) (by omega) (by omega) (by omega) (by omega) (by omega), E 5 n (by omega) (by omega) (by omega) (by omega) (by omega) (by omega), ad_t (by omega)]
    omega
  · intro j hj
    rw [E2, z1, E14 1 (by omega)]
    by_cases z : j = i
    · rw [z, Ei.1, Ei.2]
      refine ⟨fun _ => ⟨by omega, by omega⟩, fun y => ?_⟩
      omega
    · rw [(E10 j z).1, (E10 j z).2.1, (E10 j z).2.2]
      have := o.C j hj
      exact ⟨fun y => this.1 (by omega), fun y => this.2 (by omega)⟩
  · unfold le_bk
    rw [E2, z1, E14 1 (by omega)]
    omega
  · unfold p_hasC
    rw [E2, z1]
    omega
-- pay
theorem py_eq (o : Ok K r) (p : p_hasC r q) : n_pay r q a = m_pay r q a := by
  have e := hasC_head o p
  unfold n_pay m_pay b_sc
  dsimp only
  have e2 : p_has (b2 (b2 r 11 q.toNatClampNeg (qv r 11 q - a)) 12 q.toNatClampNeg (qv (b2 r 11 q.toNatClampNeg (qv r 11 q - a)) 12 q + a)) (qv (b2 (b2 r 11 q.toNatClampNeg (qv r 11 q - a)) 12 q.toNatClampNeg (qv (b2 r 11 q.toNatClampNeg (qv r 11 q - a)) 12 q + a)) 10 q) := e
  rw [ci_t e2]
  rfl
theorem opn_t (o : Ok K r) (p : p_hasC r q) : 0 ≤ (qv r 11 q).toInt ∧ (qv r 11 q).toInt ≤ 100000 := by
  obtain ⟨n, h1, h2, h3, h4, h5⟩ := hasC_at o p
  have h9 := mc_40 o
  have := (o.C n h2).1 (by omega)
  unfold qv
  rw [h4]
  exact this.2
/-- what a head has committed and spent, and what a commitment has open, changed -/
theorem ok_hc {R : Bk} {n i : Nat} {K' : Int} (hK : K ≤ K') (hB : K' ≤ 60000000) (o : Ok K r) (hn : n < md r) (hi : i < mc r)
  (E : ∀ b j : Nat, b ≠ 4 → b ≠ 5 → b ≠ 11 → b ≠ 12 → b ≠ 14 → R b j = r b j) (E4 : ∀ j : Nat, j ≠ n → R 4 j = r 4 j ∧ R 5 j = r 5 j) (E11 : ∀ j : Nat, j ≠ i → R 11 j = r 11 j ∧ R 12 j = r 12 j) (E14 : ∀ j : Nat, j ≠ 5 → R 14 j = r 14 j)
  (w : (-K' ≤ (R 4 n).toInt ∧ (R 4 n).toInt ≤ K') ∧ (0 ≤ (R 5 n).toInt ∧ (R 5 n).toInt ≤ K') ∧ (r 3 n).toInt ≤ K' ∧ 0 ≤ (r 3 n).toInt - (R 4 n).toInt - (R 5 n).toInt) (w2 : 0 ≤ (R 11 i).toInt ∧ (R 11 i).toInt ≤ 100000) : Ok K' R ∧ le_bk r R := by
  have h6 := o.B
  have h9 := md_20 o
  have h10 := mc_40 o
  have F : ∀ b : Nat, b ≠ 4 → b ≠ 5 → b ≠ 11 → b ≠ 12 → b ≠ 14 → R b = r b := fun b q1 q2 q3 q4 q5 => funext fun c => E b c q1 q2 q3 q4 q5
  refine ⟨⟨⟨by omega, hB⟩, OkS_c (E14 _ (by omega)) (F _ (by omega) (by omega) (by omega) (by omega) (by omega)) (F _ (by omega) (by omega) (by omega) (by omega) (by omega)) o.S, OkF_c (F _ (by omega) (by omega) (by omega) (by omega) (by omega)) o.F, OkN_c (E14 _ (by omega)) (E14 _ (by omega)) (E14 _ (by omega)) o.N,
    OkM_1 (n := n) (by omega) o.M (fun k z => ⟨E _ _ (by omega) (by omega) (by omega) (by omega) (by omega), (E4 k z).1, (E4 k z).2⟩) (by rw [E 3 n (by omega) (by omega) (by omega) (by omega) (by omega)]; exact w),
    OkR_c (F _ (by omega) (by omega) (by omega) (by omega) (by omega)) o.R, OkU_c (E14 _ (by omega)) (fun k hk hm => ⟨E _ _ (by omega) (by omega) (by omega) (by omega) (by omega), (E4 k (by omega)).1, (E4 k (by omega)).2, E _ _ (by omega) (by omega) (by omega) (by omega) (by omega), E _ _ (by omega) (by omega) (by omega) (by omega) (by omega)⟩) o.U, ?_⟩, le_of (E14 _ (by omega)) (E14 _ (by omega))⟩
  intro j hj
  rw [E14 2 (by omega), E14 1 (by omega), E 10 j (by omega) (by omega) (by omega) (by omega) (by omega)]
  have := o.C j hj
  by_cases z : j = i
  · rw [z] at this ⊢
    refine ⟨fun y => ⟨(this.1 y).1, w2⟩, fun y => ?_⟩
    omega
  · rw [(E11 j z).1, (E11 j z).2]
    exact this
theorem ok_pay (o : Ok K r) (p : p_hasC r q) (am : p_amt a) (le : a ≤ qv r 11 q) (hB : K + 100000 ≤ 60000000) : Ok (K + 100000) (m_pay r q a) ∧ le_bk r (m_pay r q a) := by
  have e := hasC_head o p
  have h1 := opn_t o p
  obtain ⟨n, hn1, hn2, hn3, hn4, hn5⟩ := has_at o e
  obtain ⟨i, hi1, hi2, hi3, hi4, hi5⟩ := hasC_at o p
  have h6 := o.B
  have h7 := o.M n hn2
  have h8 := am
  unfold p_amt at h8
  rw [i3_le] at le
  have q10 : (r 10 i).toNatClampNeg = n := by unfold qv at hn4; rw [hi4] at hn4; exact hn4
  unfold qv at h1 le
  rw [hi4] at h1 le
  have Rn : m_pay r q a 4 n = r 4 n - a ∧ m_pay r q a 5 n = r 5 n + a := by simp [m_pay, b2, hi4, q10, qv]
  have Ri : m_pay r q a 11 i = r 11 i - a := by simp [m_pay, b2, hi4, qv]
  refine ok_hc (n := n) (i := i) (by omega) hB o hn1 hi1 (fun b j q1 q2 q3 q4 q5 => by simp [m_pay, b2, q1, q2, q3, q4, q5]) (fun j z => by simp [m_pay, b2, hi4, q10, qv, z]) (fun j z => by simp [m_pay, b2, hi4, z]) (fun j z => by simp [m_pay, b2, z]) ?_ ?_
  · rw [Rn.1, Rn.2, su_t (by omega), ad_t (by omega)]
    omega
  · rw [Ri, su_t (by omega)]
    omega
theorem fre_eq (o : Ok K r) (p : p_hasC r q) : b_free0 r q = m_free0 r q ∧ a_free0 r q = qv r 11 q := by
  have e := hasC_head o p
  unfold b_free0 a_free0
  rw [ci_t p, ci_t p]
  refine ⟨?_, rfl⟩
  have e2 : p_has (b2 r 11 q.toNatClampNeg 0) (qv (b2 r 11 q.toNatClampNeg 0) 10 q) := e
  unfold b_cc m_free0
  rw [ci_t e2]
  have e3 : qv (b2 r 11 q.toNatClampNeg 0) 10 q = qv r 10 q := rfl
  have e4 : qv (b2 r 11 q.toNatClampNeg 0) 4 (qv r 10 q) = qv r 4 (qv r 10 q) := rfl
  rw [e3, e4, ← Int32.sub_eq_add_neg]
  funext b c
  simp only [b2]
  grind
theorem ok_free (o : Ok K r) (p : p_hasC r q) (hB : K + 100000 ≤ 60000000) : Ok (K + 100000) (m_free0 r q) ∧ le_bk r (m_free0 r q) := by
  have e := hasC_head o p
  have h1 := opn_t o p
  obtain ⟨n, hn1, hn2, hn3, hn4, hn5⟩ := has_at o e
  obtain ⟨i, hi1, hi2, hi3, hi4, hi5⟩ := hasC_at o p
  have h6 := o.B
  have h7 := o.M n hn2
  have q10 : (r 10 i).toNatClampNeg = n := by unfold qv at hn4; rw [hi4] at hn4; exact hn4
  unfold qv at h1
  rw [hi4] at h1
  have Rn : m_free0 r q 4 n = r 4 n - r 11 i ∧ m_free0 r q 5 n = r 5 n := by simp [m_free0, b2, hi4, q10, qv]
  have Ri : m_free0 r q 11 i = 0 := by simp [m_free0, b2, hi4]
  refine ok_hc (n := n) (i := i) (by omega) hB o hn1 hi1 (fun b j q1 q2 q3 q4 q5 => by simp [m_free0, b2, q1, q3]) (fun j z => by simp [m_free0, b2, hi4, q10, qv, z]) (fun j z => by simp [m_free0, b2, hi4, z]) (fun j z => by simp [m_free0, b2]) ?_ ?_
  · rw [Rn.1, Rn.2, su_t (by omega)]
    omega
  · rw [Ri, t_0]
    omega
-- virements
theorem vr_eq (p : p_has r f ∧ p_has r t ∧ f ≠ t) : b_mv r f t a = m_vire r f t a := by
  unfold b_mv
  rw [ci_t p]
  unfold n_mv m_vire m_mv
  funext b c
  simp only [b2, qv]
  grind
theorem rv_eq (o : Ok K r) (p : p_has r f ∧ p_has r t ∧ f ≠ t) : b_mv r f t (-a) = m_rv r f t a := by
  unfold b_mv
  rw [ci_t p]
  obtain ⟨n, hn1, hn2, hn3, hn4, hn5⟩ := has_at o p.1
  obtain ⟨m, hm1, hm2, hm3, hm4, hm5⟩ := has_at o p.2.1
  have nm : n ≠ m := fun z => p.2.2 (by rw [hn3, hm3, z])
  unfold n_mv m_rv m_mv
  funext b c
  simp only [b2, qv, hn4, hm4]
  grind
end
