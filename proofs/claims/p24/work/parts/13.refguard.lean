/-! THE REFERENCE's guards are the class's, word by word -/
section
variable {K : Int} {r : Bk}
theorem in_iff {v a b : Int32} : p_in v a b ↔ ¬ v < a ∧ v ≤ b := by
  unfold p_in
  simp only [i3_lt, i3_le]
  omega
theorem t_50 : (50 : Int32).toInt = 50 := by decide
theorem gm_make {a k : Int32} (o : Ok K r) : g_make r a k = ci (p_has r a) (ci (p_in k 0 9) (ci (qv r 9 a = 4) (-2) (ci (r 14 1 = 20) (-3) 0)) (-1)) (-1) := by
  unfold g_make
  by_cases p : p_has r a
  · rw [ci_t p, ci_t p]
    have h1 := ok_dep o p
    have h2 := o.S.1
    by_cases k0 : k < 0
    · rw [ci_t k0, ci_f (fun z => (in_iff.mp z).1 k0)]
    · rw [ci_f k0]
      by_cases k9 : k ≤ 9
      · rw [ci_t k9, ci_t (in_iff.mpr ⟨k0, k9⟩)]
        by_cases d : qv r 9 a = 4
        · rw [ci_t d, ci_f (by rw [d]; decide)]
        · rw [ci_f d, ci_t (by rw [i3_lt, t_4]; rw [i3_eq, t_4] at d; omega)]
          by_cases m : r 14 1 = 20
          · rw [ci_t m, ci_f (by rw [m]; decide)]
          · rw [ci_f m, ci_t (by rw [i3_lt, t_20]; rw [i3_eq, t_20] at m; omega)]
      · rw [ci_f k9, ci_f (fun z => k9 (in_iff.mp z).2)]
  · rw [ci_f p, ci_f p]
theorem al_t {h : Int32} (o : Ok K r) (p : p_has r h) : -60000000 ≤ (qv r 3 h).toInt ∧ (qv r 3 h).toInt ≤ 60000000 := by
  obtain ⟨n, h1, h2, h3, h4, h5⟩ := has_at o p
  have h6 := o.M n h2
  have h7 := o.B
  unfold qv
  rw [h4]
  omega
theorem gm_allot {h a : Int32} (o : Ok K r) : g_allot r h a = ci (p_has r h) (ci (p_amt a) (ci (qv r 3 h + a ≤ 1000000) 0 (-3)) (-1)) (-1) := by
  unfold g_allot
  by_cases p : p_has r h
  · rw [ci_t p, ci_t p]
    by_cases q : p_amt a
    · rw [ci_t q, ci_t q]
      have h1 := al_t o p
      have h2 := q
      unfold p_amt at h2
      have e1 : (qv r 3 h + a).toInt = (qv r 3 h).toInt + a.toInt := by
        rw [Int32.toInt_add]
        exact Int.bmod_eq_of_le (by omega) (by omega)
      have e2 : (1000000 - a).toInt = 1000000 - a.toInt := by
        rw [Int32.toInt_sub, t_m]
        exact Int.bmod_eq_of_le (by omega) (by omega)
      have e3 : (qv r 3 h ≤ 1000000 - a) = (qv r 3 h + a ≤ 1000000) := by
        rw [eq_iff_iff, i3_le, i3_le, e1, e2, t_m]
        omega
      rw [e3]
    · rw [ci_f q, ci_f q]
  · rw [ci_f p, ci_f p]
theorem gm_freeze {h x : Int32} : g_freeze r h x = ci (p_has r h) (ci (p_in x 0 1) (ci (qv r 2 h = x) (-2) 0) (-1)) (-1) := by
  unfold g_freeze
  by_cases p : p_has r h
  · rw [ci_t p, ci_t p]
    by_cases k0 : x < 0
    · rw [ci_t k0, ci_f (fun z => (in_iff.mp z).1 k0)]
    · rw [ci_f k0]
      by_cases k9 : x ≤ 1
      · rw [ci_t k9, ci_t (in_iff.mpr ⟨k0, k9⟩)]
      · rw [ci_f k9, ci_f (fun z => k9 (in_iff.mp z).2)]
  · rw [ci_f p, ci_f p]
theorem gm_setShare {h x : Int32} : g_setShare r h x = ci (p_has r h) (ci (p_in x 0 100) 0 (-1)) (-1) := by
  unfold g_setShare
  rw [show p_in x 0 100 = p_pct x from propext pct_iff]
theorem gm_setCarried {x : Int32} : g_setCarried x = ci (p_in x 0 100) 0 (-1) := by
  unfold g_setCarried
  rw [show p_in x 0 100 = p_pct x from propext pct_iff]
theorem gm_commit {h a : Int32} (o : Ok K r) : g_commit r h a = ci (p_has r h) (ci (p_amt a) (ci (p_bar r 5 h) (-2) (ci (a ≤ fr r h) (ci (r 14 2 = 40) (-3) 0) (-2))) (-1)) (-1) := by
  unfold g_commit
  by_cases p : p_has r h
  · rw [ci_t p, ci_t p, free_fr p]
    have h1 := (o.N).1
    by_cases e : r 14 2 = 40
    · rw [ci_t (P := r 14 2 = 40) e, ci_f (P := r 14 2 < 40) (by rw [e]; decide)]
    · rw [ci_f (P := r 14 2 = 40) e, ci_t (P := r 14 2 < 40) (by rw [i3_lt, t_40]; rw [i3_eq, t_40] at e; omega)]
  · rw [ci_f p, ci_f p]
theorem gm_vire {f t a : Int32} : g_vire r f t a = ci (p_has r f ∧ p_has r t ∧ f ≠ t) (ci (p_amt a) (ci (fr r f < a) (-2) (ci (p_may r f t) (ci (a ≤ p_lv r f) 0 (-2)) (-2))) (-1)) (-1) := by
  unfold g_vire
  by_cases p : p_has r f ∧ p_has r t ∧ f ≠ t
  · rw [ci_t p, ci_t p]
    by_cases q : p_amt a
    · rw [ci_t q, ci_t q]
      by_cases m : p_may r f t
      · rw [ci_t (P := p_may r f t) m, show (a ≤ p_mov r f t) = (a ≤ p_free r f ∧ a ≤ p_lv r f) from propext (amt_mov q m), free_fr p.1]
        by_cases z : fr r f < a
        · rw [ci_t z, ci_f (fun y => Int32.not_le.mpr z y.1)]
        · rw [ci_f z]
          by_cases y : a ≤ p_lv r f
          · rw [ci_t y, ci_t ⟨Int32.not_lt.mp z, y⟩]
          · rw [ci_f y, ci_f (fun w => y w.2)]
      · rw [ci_f (P := p_may r f t) m, ci_f (P := a ≤ p_mov r f t) (amt_mov0 q m)]
        by_cases z : fr r f < a
        · rw [ci_t z]
        · rw [ci_f z]
    · rw [ci_f q, ci_f q]
  · rw [ci_f p, ci_f p]
theorem gm_endYear (o : Ok K r) : g_endYear r = ci (r 14 0 = 99) (-2) 0 := by
  unfold g_endYear
  have h1 := o.N.2.1
  by_cases e : r 14 0 = 99
  · rw [ci_t e, ci_f (by rw [e]; decide)]
  · rw [ci_f e, ci_t (by rw [i3_lt, t_99]; rw [i3_eq, t_99] at e; omega)]
theorem cin_new (o : Ok K r) (e : ¬ r 14 2 = 40) : cin (r 14 2) := by
  have h1 := o.N.1
  refine ⟨h1.1, ?_⟩
  rw [i3_eq, t_40] at e
  omega
theorem hin_new (o : Ok K r) (e : ¬ r 14 1 = 20) : hin (r 14 1) := by
  have h1 := o.S.1
  refine ⟨by omega, ?_⟩
  rw [i3_eq, t_20] at e
  omega
theorem ok_freeze {h x : Int32} (o : Ok K r) (p : p_in x 0 1) : Ok K (b2 r 2 h.toNatClampNeg x) := by
  obtain ⟨o1, o2, o3, o4, o5, o6, o7, o8⟩ := o
  have q : ∀ a b : Nat, a ≠ 2 → b2 r 2 h.toNatClampNeg x a b = r a b := fun a b z => b2_nf _ _ _ _ z
  refine ⟨o1, ?_, ?_, ?_, ?_, ?_, ?_, ?_⟩
  · unfold OkS
    simp only [q _ _ (show (14 : Nat) ≠ 2 by omega), q _ _ (show (0 : Nat) ≠ 2 by omega), q _ _ (show (9 : Nat) ≠ 2 by omega), q _ _ (show (1 : Nat) ≠ 2 by omega)]
    exact o2
  · intro k hk
    by_cases e : k = h.toNatClampNeg
    · rw [e, b2_s]
      unfold p_in at p
      rw [t_0, t_1] at p
      rcases (show x.toInt = 0 ∨ x.toInt = 1 by omega) with z | z
      · exact Or.inl (i3_eq.mpr z)
      · exact Or.inr (i3_eq.mpr z)
    · rw [b2_ni _ _ _ _ e]
      exact o3 k hk
  · unfold OkN
    simp only [q _ _ (show (14 : Nat) ≠ 2 by omega)]
    exact o4
  · intro k hk
    simp only [q _ _ (show (3 : Nat) ≠ 2 by omega), q _ _ (show (4 : Nat) ≠ 2 by omega), q _ _ (show (5 : Nat) ≠ 2 by omega)]
    exact o5 k hk
  · intro k hk
    simp only [q _ _ (show (1 : Nat) ≠ 2 by omega)]
    exact o6 k hk
  · intro k hk
    simp only [q _ _ (show (14 : Nat) ≠ 2 by omega), q _ _ (show (3 : Nat) ≠ 2 by omega), q _ _ (show (4 : Nat) ≠ 2 by omega), q _ _ (show (5 : Nat) ≠ 2 by omega), q _ _ (show (6 : Nat) ≠ 2 by omega), q _ _ (show (7 : Nat) ≠ 2 by omega)]
    exact o7 k hk
  · intro k hk
    simp only [q _ _ (show (14 : Nat) ≠ 2 by omega), q _ _ (show (10 : Nat) ≠ 2 by omega), q _ _ (show (11 : Nat) ≠ 2 by omega), q _ _ (show (12 : Nat) ≠ 2 by omega)]
    exact o8 k hk
end
-- revoking
noncomputable def R_rkM (Y : St) (z : Nat) : Int32 := ci (Y 13 0 z = 5) (qv (Y 0) 11 (Y 13 1 z)) (Y 13 3 z)
def h_rv (Y : St) (n : Nat) : Prop := ∀ z : Nat, z < n → (Y 13 0 z = 8 → hin (Y 13 1 z) ∧ hin (Y 13 2 z)) ∧ (Y 13 0 z = 5 → cin (Y 13 1 z) ∧ hin (qv (Y 0) 10 (Y 13 1 z)))
