/-! WHAT isSound COUNTS, loop by loop -/
section
variable {f : Nat → Int32} {k : Nat} {x a B : Int32} {P : Prop}
theorem nx_t (ea : a = B + sumI f k) (h : P) (e : f k = ci P x 0) : a + x = B + sumI f (k + 1) := by
  rw [sumI_ci h e, ea]
  grind
theorem nx_f (ea : a = B + sumI f k) (h : ¬ P) (e : f k = ci P x 0) : a + 0 = B + sumI f (k + 1) := by
  rw [sumI_c0 h e, ea]
  grind
theorem nz_t (ea : a = sumI f k) (h : P) (e : f k = ci P x 0) : a + x = sumI f (k + 1) := by rw [sumI_ci h e, ea]
theorem nz_f (ea : a = sumI f k) (h : ¬ P) (e : f k = ci P x 0) : a + 0 = sumI f (k + 1) := by
  rw [sumI_c0 h e, ea]
  grind
theorem nz_x (ea : a = sumI f k) (e : f k = x) : a + x = sumI f (k + 1) := by
  rw [ea, ← e]
  rfl
end
section
variable {K : Int} {k : Nat} {r : Bk} {xk xw n : Int32}
noncomputable def s_kid (r : Bk) (k : Nat) (xk xw : Int32) (m : Nat) : Int32 := sumI (fun i => ci (k < i ∧ v_head r (nI i) 0 = xk) (v_total r (nI i) xw) 0) m
noncomputable def s_cmm (r : Bk) (xk : Int32) (m : Nat) : Int32 := sumI (fun i => ci (v_comm r (nI i) 0 = xk) (v_comm r (nI i) 1) 0) m
theorem sd_k0 : p_smd r xk xw = p_smd r xk xw + s_kid r k xk xw (k + 1) := by
  unfold s_kid
  rw [sumI_0 (fun i hi => ci_f (fun z => by have := z.1; omega))]
  grind
theorem sd_k1 {j : Nat} {xj a : Int32} (ej : xj = nI j) (hkj : k < j) (ea : a = p_smd r xk xw + s_kid r k xk xw j) (h : v_head r xj 0 = xk) : a + v_total r xj xw = p_smd r xk xw + s_kid r k xk xw (j + 1) := by
  subst ej
  exact nx_t ea (P := k < j ∧ v_head r (nI j) 0 = xk) ⟨hkj, h⟩ rfl
theorem sd_k2 {j : Nat} {xj a : Int32} (ej : xj = nI j) (ea : a = p_smd r xk xw + s_kid r k xk xw j) (h : ¬ v_head r xj 0 = xk) : a + 0 = p_smd r xk xw + s_kid r k xk xw (j + 1) := by
  subst ej
  exact nx_f ea (P := k < j ∧ v_head r (nI j) 0 = xk) (fun z => h z.2) (x := v_total r (nI j) xw) rfl
theorem sd_c0 : 0 = s_cmm r xk 0 := rfl
theorem sd_c1 {j : Nat} {xj a : Int32} (ej : xj = nI j) (ea : a = s_cmm r xk j) (h : v_comm r xj 0 = xk) : a + v_comm r xj 1 = s_cmm r xk (j + 1) := by
  subst ej
  exact nz_t ea h rfl
theorem sd_c2 {j : Nat} {xj a : Int32} (ej : xj = nI j) (ea : a = s_cmm r xk j) (h : ¬ v_comm r xj 0 = xk) : a + 0 = s_cmm r xk (j + 1) := by
  subst ej
  exact nz_f ea h (x := v_comm r (nI j) 1) rfl
theorem sd_tot (o : Ok K r) (hk : k < md r) (ek : xk = nI k) {w : Nat} (ew : xw = nI w) (hw : w < 4) : v_total r xk xw = p_smd r xk xw + s_kid r k xk xw (md r) := by
  subst ek ew
  have h9 := md_20 o
  have t : (nI w).toInt = w := nI_toInt (by omega)
  rw [vt_w (has_nI o hk) (by omega) (by omega), sum_tree o hk]
  refine congrArg _ (sumI_congr (fun i hi => ?_))
  show ci (kid r k i) (p_sum r (nI i) (nI w) 20) 0 = ci (k < i ∧ v_head r (nI i) 0 = nI k) (v_total r (nI i) (nI w)) 0
  rw [vt_w (has_nI o hi) (by omega) (by omega), vh_0 (has_nI o hi)]
  rfl
theorem sd_com (g : Gd K r) (hk : k < md r) (ek : xk = nI k) : s_cmm r xk (mc r) = v_head r xk 6 := by
  subst ek
  have h9 := md_20 g.1
  have h8 := mc_40 g.1
  rw [vh_6 (has_nI g.1 hk), qv_nI (by omega), g.2.1 k (by omega)]
  unfold s_com s_cmm
  rw [sumI_cut (f := fun c => ci (r 10 c = nI k) (r 11 c) 0) (n := mc r) (m := 40) h8.1 (fun c h1 h2 => by
    rw [((g.1.C c h2).2 (by omega)).1]
    by_cases z : r 10 c = nI k
    · exact ci_t z
    · exact ci_f z)]
  refine sumI_congr (fun i hi => ?_)
  show ci (v_comm r (nI i) 0 = nI k) (v_comm r (nI i) 1) 0 = ci (r 10 i = nI k) (r 11 i) 0
  rw [vm_0 (hasC_nI g.1 hi), vm_1 (hasC_nI g.1 hi), qv_nI (by omega), qv_nI (by omega)]
theorem sd_bar (o : Ok K r) : v_count r n 4 = sumI (fun i => v_head r (nI i) 4) (md r) := by
  rw [vc_4, cntb_md o]
  exact sumI_congr (fun i hi => (vh_4 (has_nI o hi)).symm)
theorem sd_all (o : Ok K r) : v_count r n 6 = sumI (fun i => v_head r (nI i) 5) (md r) := by
  rw [vc_6, ← sum_all o]
  exact sumI_congr (fun i hi => (vh_5 (has_nI o hi)).symm)
theorem sd_open (o : Ok K r) : v_count r n 3 = sumI (fun i => ci (0 < v_comm r (nI i) 1) 1 0) (mc r) := by
  have h8 := mc_40 o
  rw [vc_3, open_mc o]
  refine sumI_congr (fun i hi => ?_)
  show ci (0 < r 11 i) 1 0 = ci (0 < v_comm r (nI i) 1) 1 0
  rw [vm_1 (hasC_nI o hi), qv_nI (by omega)]
theorem sd_paid (g : Gd K r) : v_count r n 8 = sumI (fun i => v_comm r (nI i) 2) (mc r) := by
  have h8 := mc_40 g.1
  rw [vc_8, g.2.2.1]
  unfold s_paid
  rw [sumI_cut (n := mc r) (m := 40) h8.1 (fun c h1 h2 => ((g.1.C c h2).2 (by omega)).2)]
  refine sumI_congr (fun i hi => ?_)
  show r 12 i = v_comm r (nI i) 2
  rw [vm_2 (hasC_nI g.1 hi), qv_nI (by omega)]
theorem sum_md (o : Ok K r) {t w : Int32} : p_sum r t w 20 = sumI (fun j => ci (p_wit r 5 (nI j) t) (p_smd r (nI j) w) 0) (md r) :=
  sumI_cut (md_20 o).2.1 (fun j h1 h2 => ci_f (fun z => has_no o h1 (by have := md_20 o; omega) (wit_has z)))
theorem sum_root (o : Ok K r) {w : Int32} : p_sum r 0 w 20 = sumI (fun j => p_smd r (nI j) w) (md r) := by
  rw [sum_md o]
  exact sumI_congr (fun j hj => ci_t (root_wit o j hj))
theorem sumI_1 : ∀ m : Nat, sumI (fun _ => 1) m = nI m := by
  intro m
  induction m with
  | zero => rfl
  | succ m ih =>
    show sumI (fun _ => 1) m + 1 = nI (m + 1)
    rw [ih, nI_1]
theorem sd_n (o : Ok K r) : v_total r 0 4 = v_count r n 1 := by
  have h9 := md_20 o
  rw [vt_w (root_has o) (by decide) (by decide), vc_1, sum_root o, sumI_congr (g := fun _ => 1) (fun j hj => by
    show p_smd r (nI j) 4 = 1
    unfold p_smd
    rw [ci_t (has_nI o hj), ci_f (by decide), ci_f (by decide), ci_f (by decide), ci_f (by decide)]), sumI_1, i3_eq, nI_toInt (by omega)]
  omega
theorem vt_free (o : Ok K r) : v_total r 0 3 = sumI (fun j => p_free r (nI j)) (md r) := by
  rw [vt_w (root_has o) (by decide) (by decide), sum_root o]
  refine sumI_congr (fun j hj => ?_)
  unfold p_smd
  rw [ci_t (has_nI o hj), ci_f (by decide), ci_f (by decide), ci_f (by decide), ci_t rfl]
theorem vt_0 (o : Ok K r) : v_total r 0 0 = sumI (fun j => r 3 j) (md r) := by
  have h9 := md_20 o
  rw [vt_w (root_has o) (by decide) (by decide), sum_root o]
  refine sumI_congr (fun j hj => ?_)
  unfold p_smd
  rw [ci_t (has_nI o hj), ci_t rfl, qv_nI (by omega)]
theorem vt_1 (o : Ok K r) : v_total r 0 1 = sumI (fun j => r 4 j) (md r) := by
  have h9 := md_20 o
  rw [vt_w (root_has o) (by decide) (by decide), sum_root o]
  refine sumI_congr (fun j hj => ?_)
  unfold p_smd
  rw [ci_t (has_nI o hj), ci_f (by decide), ci_t rfl, qv_nI (by omega)]
theorem vt_2 (o : Ok K r) : v_total r 0 2 = sumI (fun j => r 5 j) (md r) := by
  have h9 := md_20 o
  rw [vt_w (root_has o) (by decide) (by decide), sum_root o]
  refine sumI_congr (fun j hj => ?_)
  unfold p_smd
  rw [ci_t (has_nI o hj), ci_f (by decide), ci_f (by decide), ci_t rfl, qv_nI (by omega)]
theorem lapse_md (o : Ok K r) : v_lapse r 0 = sumI (fun j => p_free r (nI j) - p_part (p_free r (nI j)) (r 14 3)) (md r) := by
  have h9 := md_20 o
  unfold v_lapse p_lapse
  rw [ci_t (root_has o), sumI_cut h9.2.1 (fun k h1 h2 => ci_f (fun z => has_no o h1 (by omega) (wit_has z)))]
  exact sumI_congr (fun j hj => ci_t (root_wit o j hj))
theorem sd_lapse (o : Ok K r) (hB : K ≤ 10000000) : ¬ v_total r 0 3 < v_lapse r 0 := by
  have h9 := md_20 o
  rw [vt_free o, lapse_md o, i3_lt]
  have q := sumI_le (f := fun j => p_free r (nI j) - p_part (p_free r (nI j)) (r 14 3)) (g := fun j => p_free r (nI j)) (M := 20000000) (n := md r) (by omega) (by omega) (fun k hk => lapse1_t o hB)
  omega
/-! the loops' ends -/
theorem lp_h (o : Ok K r) {i : Nat} {xi : Int32} (ei : xi = nI i) (hi : i ≤ md r) (c : ¬ v_count r n 1 ≤ xi) : i < md r ∧ i < 20 := by
  rw [vc_1, ei] at c
  exact md_lt o hi c
theorem lp_he (o : Ok K r) {i : Nat} {xi : Int32} (ei : xi = nI i) (hi : i ≤ md r) (c : v_count r n 1 ≤ xi) : i = md r := by
  rw [vc_1, ei] at c
  exact md_ge o hi c
theorem lp_c (o : Ok K r) {i : Nat} {xi : Int32} (ei : xi = nI i) (hi : i ≤ mc r) (c : ¬ v_count r n 2 ≤ xi) : i < mc r ∧ i < 40 := by
  rw [vc_2, ei] at c
  exact mc_lt o hi c
theorem lp_ce (o : Ok K r) {i : Nat} {xi : Int32} (ei : xi = nI i) (hi : i ≤ mc r) (c : v_count r n 2 ≤ xi) : i = mc r := by
  rw [vc_2, ei] at c
  exact mc_ge o hi c
theorem lp_4 {i : Nat} {xi : Int32} (ei : xi = nI i) (hi : i ≤ 4) (c : ¬ 4 ≤ xi) : i < 4 := by
  rw [ei, i3_le, nI_toInt (by omega), t_4] at c
  omega
theorem lp_9 {i : Nat} {xi : Int32} (ei : xi = nI i) (hi : i ≤ 9) (c : ¬ 9 ≤ xi) : i < 9 := by
  rw [ei, i3_le, nI_toInt (by omega), t_9] at c
  omega
theorem lp_9e {i : Nat} {xi : Int32} (ei : xi = nI i) (hi : i ≤ 9) (c : 9 ≤ xi) : i = 9 := by
  rw [ei, i3_le, nI_toInt (by omega), t_9] at c
  omega
theorem lp_12 {i : Nat} {xi : Int32} (ei : xi = nI i) (hi : i ≤ 12) (c : ¬ 12 ≤ xi) : i < 12 := by
  rw [ei, i3_le, nI_toInt (by omega), t_12] at c
  omega
theorem lp_12e {i : Nat} {xi : Int32} (ei : xi = nI i) (hi : i ≤ 12) (c : 12 ≤ xi) : i = 12 := by
  rw [ei, i3_le, nI_toInt (by omega), t_12] at c
  omega
end
