section
variable {K : Int} {r r' : Bk} {h a q f t k x : Int32}
/-- the end of a year for the heads below n -/
def eyR (r : Bk) (n : Nat) : Bk := fun b c => if c < n ∧ b = 3 then r 4 c + p_part (fr r (nI c)) (r 14 3) else if c < n ∧ b = 6 then p_part (fr r (nI c)) (r 14 3) else if c < n ∧ (b = 5 ∨ b = 7) then 0 else r b c
theorem eyR_n (r : Bk) {n b c : Nat} (h : n ≤ c) : eyR r n b c = r b c := by
  unfold eyR
  rw [if_neg (by omega), if_neg (by omega), if_neg (by omega)]
theorem eyR_o (r : Bk) {n b c : Nat} (h3 : b ≠ 3) (h5 : b ≠ 5) (h6 : b ≠ 6) (h7 : b ≠ 7) : eyR r n b c = r b c := by
  unfold eyR
  rw [if_neg (by omega), if_neg (by omega), if_neg (by omega)]
theorem eyR_fr (r : Bk) {n k : Nat} (h : n ≤ k) (hk : k < 20) : fr (eyR r n) (nI k) = fr r (nI k) := by
  unfold fr qv
  rw [nI_c (by omega), eyR_n r h, eyR_n r h, eyR_n r h]
theorem eyR_q (r : Bk) {n : Nat} : eyR r n 14 3 = r 14 3 := eyR_o r (by omega) (by omega) (by omega) (by omega)
theorem eyR_0 (r : Bk) : eyR r 0 = r := by
  funext b c
  exact eyR_n r (Nat.zero_le c)
theorem eyR_s1 (r : Bk) {n : Nat} (hn : n < 20) : m_ey1 (eyR r n) (nI n) = eyR r (n + 1) := by
  unfold m_ey1 lp
  rw [eyR_fr r (Nat.le_refl n) hn, eyR_q r]
  have e : fr r (nI n) = r 3 n - r 4 n - r 5 n := by unfold fr qv; rw [nI_c (by omega)]
  funext b c
  simp only [b2, qv, nI_c (show n ≤ 40 by omega), eyR]
  by_cases z : c = n
  · subst z
    by_cases b3 : b = 3
    · subst b3
      simp
      rw [e]
      grind
    · by_cases b5 : b = 5
      · subst b5
        simp
      · by_cases b6 : b = 6
        · subst b6
          simp
          grind
        · by_cases b7 : b = 7
          · subst b7
            simp
          · simp [b3, b5, b6, b7]
  · have z2 : (c < n + 1) = (c < n) := by rw [eq_iff_iff]; omega
    simp [z, z2]
theorem eyR_s2 (o : Ok K r) {n : Nat} (hn : n < md r) : cf1 (eyR r n) (r 14 3) (nI n) = eyR r (n + 1) := by
  have h9 := md_20 o
  unfold cf1
  have p : p_has (eyR r n) (nI n) := by
    unfold p_has
    rw [eyR_o r (by omega) (by omega) (by omega) (by omega)]
    exact has_nI o hn
  rw [free_fr p, eyR_fr r (Nat.le_refl n) (by omega)]
  funext b c
  simp only [b2, qv, nI_c (show n ≤ 40 by omega), eyR]
  by_cases z : c = n
  · subst z
    by_cases b3 : b = 3
    · subst b3
      simp
    · by_cases b5 : b = 5
      · subst b5
        simp
      · by_cases b6 : b = 6
        · subst b6
          simp
        · by_cases b7 : b = 7
          · subst b7
            simp
          · simp [b3, b5, b6, b7]
  · have z2 : (c < n + 1) = (c < n) := by rw [eq_iff_iff]; omega
    simp [z, z2]
theorem part_0 (q : Int32) : p_part 0 q = 0 := by
  unfold p_part
  simp
theorem eyR_s3 (o : Ok K r) {n : Nat} (hn : md r ≤ n) (h20 : n < 20) : cf1 (eyR r (md r)) (r 14 3) (nI n) = eyR r (md r) := by
  have h9 := md_20 o
  have u := o.U n h20 (by omega)
  have p : ¬ p_has (eyR r (md r)) (nI n) := by
    unfold p_has
    rw [eyR_o r (by omega) (by omega) (by omega) (by omega)]
    exact has_no o hn (by omega)
  unfold cf1 p_free
  rw [ci_f p, part_0]
  funext b c
  simp only [b2, qv, nI_c (show n ≤ 40 by omega)]
  by_cases z : c = n
  · subst z
    simp only [eyR_n r hn]
    by_cases b3 : b = 3
    · subst b3
      simp [u.1, u.2.1]
    · by_cases b5 : b = 5
      · subst b5
        simp [u.2.2.1]
      · by_cases b6 : b = 6
        · subst b6
          simp [u.2.2.2.1]
        · by_cases b7 : b = 7
          · subst b7
            simp [u.2.2.2.2]
          · simp [b3, b5, b6, b7]
  · simp [z]
theorem ey_m (r : Bk) : ∀ n : Nat, n ≤ 20 → m_ey r n = eyR r n := by
  intro n
  induction n with
  | zero => exact fun _ => (eyR_0 r).symm
  | succ n ih =>
    intro hn
    show m_ey1 (m_ey r n) (nI n) = _
    rw [ih (by omega)]
    exact eyR_s1 r (by omega)
theorem ey_c1 (o : Ok K r) : ∀ n : Nat, n ≤ md r → b_cf r (r 14 3) n = eyR r n := by
  intro n
  induction n with
  | zero => exact fun _ => (eyR_0 r).symm
  | succ n ih =>
    intro hn
    show cf1 (b_cf r (r 14 3) n) (r 14 3) (nI n) = _
    rw [ih (by omega)]
    exact eyR_s2 o (by omega)
theorem ey_c2 (o : Ok K r) : ∀ d : Nat, md r + d ≤ 20 → b_cf r (r 14 3) (md r + d) = eyR r (md r) := by
  intro d
  induction d with
  | zero => exact fun _ => ey_c1 o _ (Nat.le_refl _)
  | succ d ih =>
    intro hd
    show cf1 (b_cf r (r 14 3) (md r + d)) (r 14 3) (nI (md r + d)) = _
    rw [ih (by omega)]
    exact eyR_s3 o (by omega) (by omega)
theorem root_wit (o : Ok K r) : ∀ n : Nat, n < md r → p_wit r 5 (nI n) 0 := by
  have h6 := md_20 o
  intro n hn
  rw [wit_mb o (has_nI o hn)]
  induction n using Nat.strongRecOn with
  | _ n ih =>
    by_cases e : n = 0
    · exact Or.inl (by rw [e]; rfl)
    · refine Or.inr ?_
      have h7 := o.S.2.2.2.1 n (by omega) (by omega)
      have e1 : qv r 0 (nI n) = nI (r 0 n).toInt.toNat := by
        unfold qv
        rw [nI_c (by omega), i3_eq, nI_toInt (by omega)]
        omega
      unfold mb
      rw [e1, wit_mb o (has_nI o (by omega))]
      exact ih _ (by omega) (by omega)
theorem ey_sum (o : Ok K r) : p_lapse r 0 (r 14 3) 20 = m_eyS r (md r) := by
  have h9 := md_20 o
  unfold p_lapse m_eyS
  rw [sumI_cut h9.2.1 (fun k h1 h2 => ci_f (fun z => has_no o h1 (by omega) (wit_has z)))]
  refine sumI_congr (fun k hk => ?_)
  rw [ci_t (root_wit o k hk), free_fr (has_nI o hk), ey_m r k (by omega)]
  unfold lp
  rw [eyR_fr r (Nat.le_refl k) (by omega), eyR_q r]
theorem ey_eq (o : Ok K r) : n_endYear r = m_endYear r := by
  have h9 := md_20 o
  have e := ey_c2 o (20 - md r) (by omega)
  rw [show md r + (20 - md r) = 20 by omega] at e
  unfold n_endYear m_endYear
  rw [ey_sum o, e, ey_m r _ h9.2.1]
theorem ok_eyR (o : Ok K r) : Ok K (eyR r (md r)) ∧ le_bk r (eyR r (md r)) := by
  have h9 := md_20 o
  have h6 := o.B
  have F : ∀ b : Nat, b ≠ 3 → b ≠ 5 → b ≠ 6 → b ≠ 7 → eyR r (md r) b = r b := fun b q1 q2 q3 q4 => funext fun c => eyR_o r q1 q2 q3 q4
  have e14 := F 14 (by omega) (by omega) (by omega) (by omega)
  refine ⟨⟨o.B, OkS_c (by rw [e14]) (F _ (by omega) (by omega) (by omega) (by omega)) (F _ (by omega) (by omega) (by omega) (by omega)) o.S, OkF_c (F _ (by omega) (by omega) (by omega) (by omega)) o.F, OkN_c (by rw [e14]) (by rw [e14]) (by rw [e14]) o.N, ?_,
    OkR_c (F _ (by omega) (by omega) (by omega) (by omega)) o.R, OkU_c (by rw [e14]) (fun k hk hm => ⟨eyR_n r (by omega), eyR_n r (by omega), eyR_n r (by omega), eyR_n r (by omega), eyR_n r (by omega)⟩) o.U,
    OkC_c (by rw [e14]) (by rw [e14]) (F _ (by omega) (by omega) (by omega) (by omega)) (F _ (by omega) (by omega) (by omega) (by omega)) (F _ (by omega) (by omega) (by omega) (by omega)) o.C⟩, le_of (by rw [e14]) (by rw [e14])⟩
  intro j hj
  have h7 := o.M j hj
  by_cases z : j < md r
  · have p := has_nI o z
    have f1 := fr_t o p
    have pt := part_t f1.2.1 o.N.2.2
    unfold qv at f1
    rw [nI_c (by omega)] at f1
    have e3 : eyR r (md r) 3 j = r 4 j + p_part (fr r (nI j)) (r 14 3) := by unfold eyR; rw [if_pos ⟨z, rfl⟩]
    have e5 : eyR r (md r) 5 j = 0 := by unfold eyR; rw [if_neg (by omega), if_neg (by omega), if_pos ⟨z, Or.inl rfl⟩]
    rw [e3, e5, F 4 (by omega) (by omega) (by omega) (by omega), ad_t (by omega), t_0]
    omega
  · rw [eyR_n r (by omega), eyR_n r (by omega), eyR_n r (by omega)]
    exact h7
theorem ok_endYear (o : Ok K r) (c : ¬ r 14 0 = 99) : Ok K (m_endYear r) ∧ le_bk r (m_endYear r) := by
  have h9 := md_20 o
  have a1 := ok_eyR o
  have hN := o.N.2.1
  unfold m_endYear
  rw [ey_m r _ h9.2.1]
  have a2 := ok_num a1.1 (i := 4) (v := eyR r (md r) 14 4 + m_eyS r (md r)) (by omega) (by omega) (fun z => by omega) (fun z => by omega)
  have e0 : b2 (eyR r (md r)) 14 4 (eyR r (md r) 14 4 + m_eyS r (md r)) 14 0 = r 14 0 := (b2_ni _ _ _ _ (by omega)).trans (eyR_o r (by omega) (by omega) (by omega) (by omega))
  have a3 := ok_num a2.1 (i := 0) (v := b2 (eyR r (md r)) 14 4 (eyR r (md r) 14 4 + m_eyS r (md r)) 14 0 + 1) (by omega) (by omega) (fun _ => by
    rw [e0, ad_t (by rw [t_1]; omega), t_1]
    rw [i3_eq, t_99] at c
    omega) (fun z => by omega)
  refine ⟨a3.1, ?_⟩
  have l1 := a1.2
  have l2 := a2.2
  have l3 := a3.2
  unfold le_bk at *
  dsimp only
  omega
end
