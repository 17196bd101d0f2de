/-! WHAT isMost AND isEnded LOOK AT -/
theorem i3min_t (x y : Int32) : (i3min x y).toInt ≤ x.toInt ∧ (i3min x y).toInt ≤ y.toInt ∧ ((i3min x y).toInt = x.toInt ∨ (i3min x y).toInt = y.toInt) := by
  unfold i3min
  by_cases c : y < x
  · rw [if_pos c]
    rw [i3_lt] at c
    omega
  · rw [if_neg c]
    rw [i3_lt] at c
    omega
theorem i3max_t (x y : Int32) : x.toInt ≤ (i3max x y).toInt ∧ y.toInt ≤ (i3max x y).toInt ∧ ((i3max x y).toInt = x.toInt ∨ (i3max x y).toInt = y.toInt) := by
  unfold i3max
  by_cases c : x < y
  · rw [if_pos c]
    rw [i3_lt] at c
    omega
  · rw [if_neg c]
    rw [i3_lt] at c
    omega
theorem sumI_sub {f g : Nat → Int32} : ∀ {n : Nat}, sumI (fun k => f k - g k) n = sumI f n - sumI g n := by
  intro n
  induction n with
  | zero =>
    show (0 : Int32) = 0 - 0
    decide
  | succ n ih =>
    show sumI (fun k => f k - g k) n + (f n - g n) = sumI f n + f n - (sumI g n + g n)
    rw [ih]
    grind
section
variable {K : Int} {r R : Bk} {a b n m : Int32} {X Z : St}
theorem lw_has (o : Ok K r) (h : 0 ≤ a.toInt ∧ a.toInt < (v_count r n 1).toInt) : p_has r a := by
  have s := o.S.1
  rw [vc_1] at h
  exact ⟨h.1, h.2, by omega⟩
theorem ms_eq (c : a = b) : v_most r a b = -1 := ci_f (fun z => z.2.2 c)
theorem ms_mov (p : p_has r a) (q : p_has r b) (ne : ¬ a = b) : v_most r a b = p_mov r a b := ci_t ⟨p, q, ne⟩
theorem mov_t : 0 ≤ (p_mov r a b).toInt ∧ (p_mov r a b).toInt ≤ 100000 := by
  unfold p_mov
  by_cases c : p_may r a b
  · rw [ci_t c]
    have h1 := i3max_t 0 (i3min 100000 (i3min (p_free r a) (p_lv r a)))
    have h2 := i3min_t 100000 (i3min (p_free r a) (p_lv r a))
    rw [t_0] at h1
    rw [t_h] at h2
    omega
  · rw [ci_f c, t_0]
    omega
/-- what the most that may move is bound by -/
theorem mov_le (c : ¬ p_mov r a b ≤ 0) : p_may r a b ∧ (p_mov r a b).toInt ≤ (p_free r a).toInt ∧ (p_mov r a b).toInt ≤ (p_lv r a).toInt ∧ ((p_mov r a b).toInt = 100000 ∨ (p_mov r a b).toInt = (p_free r a).toInt ∨ (p_mov r a b).toInt = (p_lv r a).toInt) := by
  rw [i3_le, t_0] at c
  unfold p_mov at c ⊢
  by_cases m : p_may r a b
  · rw [ci_t m] at c ⊢
    refine ⟨m, ?_⟩
    have h1 := i3max_t 0 (i3min 100000 (i3min (p_free r a) (p_lv r a)))
    have h2 := i3min_t 100000 (i3min (p_free r a) (p_lv r a))
    have h3 := i3min_t (p_free r a) (p_lv r a)
    rw [t_0] at h1
    rw [t_h] at h2
    omega
  · rw [ci_f m, t_0] at c
    omega
theorem best_ge : ∀ (n k : Nat), k < n → (p_mov r (nI k) b).toInt ≤ (p_best r b n).2.toInt := by
  intro n
  induction n with
  | zero =>
    intro k h
    omega
  | succ n ih =>
    intro k h
    by_cases c : (p_best r b n).2 < p_mov r (nI n) b ∨ (p_mov r (nI n) b = (p_best r b n).2 ∧ p_has r (p_best r b n).1 ∧ qv r 1 (p_best r b n).1 < qv r 1 (nI n))
    · have e : p_best r b (n + 1) = (nI n, p_mov r (nI n) b) := ci_t c
      rw [e]
      show (p_mov r (nI k) b).toInt ≤ (p_mov r (nI n) b).toInt
      by_cases z : k = n
      · rw [z]
        exact Int.le_refl _
      · have w := ih k (by omega)
        rcases c with c | c
        · rw [i3_lt] at c
          omega
        · rw [c.1]
          exact w
    · have e : p_best r b (n + 1) = p_best r b n := ci_f c
      rw [e]
      by_cases z : k = n
      · rw [z]
        have w := fun y => c (Or.inl y)
        rw [i3_lt] at w
        exact Int.not_lt.mp w
      · exact ih k (by omega)
theorem best_mov : ∀ n : Nat, (p_best r b n).1 = -9 ∨ (p_best r b n).2 = p_mov r (p_best r b n).1 b := by
  intro n
  induction n with
  | zero => exact Or.inl rfl
  | succ n ih =>
    by_cases c : (p_best r b n).2 < p_mov r (nI n) b ∨ (p_mov r (nI n) b = (p_best r b n).2 ∧ p_has r (p_best r b n).1 ∧ qv r 1 (p_best r b n).1 < qv r 1 (nI n))
    · have e : p_best r b (n + 1) = (nI n, p_mov r (nI n) b) := ci_t c
      rw [e]
      exact Or.inr rfl
    · have e : p_best r b (n + 1) = p_best r b n := ci_f c
      rw [e]
      exact ih
theorem giver (q : p_has r b) : v_giver r b = (p_best r b 20).1 := ci_t q
theorem best_at (o : Ok K r) (p : p_has r a) (q : p_has r b) (ne : ¬ a = b) (c : ¬ v_most r a b ≤ 0) : p_has r (v_giver r b) ∧ (v_most r a b).toInt ≤ (p_mov r (v_giver r b) b).toInt ∧ v_giver r b ≠ b := by
  obtain ⟨k, h1, h2, h3, h4, h5⟩ := has_at o p
  rw [ms_mov p q ne] at c ⊢
  have w := best_ge (r := r) (b := b) 20 k (by omega)
  rw [← h3] at w
  rw [i3_le, t_0] at c
  rw [giver q]
  rcases best_inv (r := r) (t := b) 20 with i | i
  · rw [i.2, t_0] at w
    omega
  · have e : (p_best r b 20).2 = p_mov r (p_best r b 20).1 b := (best_mov 20).resolve_left (has_ne9 i.1)
    rw [← e]
    refine ⟨i.1, w, fun z => ?_⟩
    rw [z, mov_self] at e
    rw [e, t_0] at w
    omega
theorem ms_1 (o : Ok K r) (p : p_has r a) (q : p_has r b) (ne : ¬ a = b) (c : ¬ v_most r a b ≤ 0) : ¬ v_giver r b < 0 := by
  have w := (best_at o p q ne c).1.1
  rw [i3_lt, t_0]
  omega
theorem ms_2 (o : Ok K r) (p : p_has r a) (q : p_has r b) (ne : ¬ a = b) (c : ¬ v_most r a b ≤ 0) : ¬ v_most r (v_giver r b) b < v_most r a b := by
  have w := best_at o p q ne c
  rw [ms_mov w.1 q w.2.2, i3_lt]
  omega
theorem ms_9 (o : Ok K r) (p : p_has r a) (q : p_has r b) (ne : ¬ a = b) : ¬ v_giver r b = b := by
  intro z
  rw [giver q] at z
  rcases best_inv (r := r) (t := b) 20 with i | i
  · exact has_ne9 q (z.symm.trans i.1)
  · have e : (p_best r b 20).2 = p_mov r (p_best r b 20).1 b := (best_mov 20).resolve_left (has_ne9 i.1)
    have i2 := i.2
    rw [e, z, mov_self] at i2
    exact absurd i2 (by decide)
theorem ms_10 (o : Ok K r) (p : p_has r a) (q : p_has r b) (ne : ¬ a = b) (c : ¬ 0 ≤ v_giver r b) : v_most r a b = 0 := by
  by_cases z : v_most r a b ≤ 0
  · rw [i3_le, t_0] at z
    have w := mov_t (r := r) (a := a) (b := b)
    rw [← ms_mov p q ne] at w
    rw [i3_eq, t_0]
    omega
  · exfalso
    have w := ms_1 o p q ne z
    rw [i3_lt, t_0] at w
    rw [i3_le, t_0] at c
    omega
theorem ms_amt (p : p_has r a) (q : p_has r b) (ne : ¬ a = b) (c : ¬ v_most r a b ≤ 0) : p_amt (v_most r a b) := by
  rw [i3_le, t_0] at c
  have w := mov_t (r := r) (a := a) (b := b)
  rw [← ms_mov p q ne] at w
  unfold p_amt
  omega
theorem ms_g (p : p_has r a) (q : p_has r b) (ne : ¬ a = b) (c : ¬ v_most r a b ≤ 0) : g_vire r a b (v_most r a b) = 0 := by
  unfold g_vire
  rw [ci_t ⟨p, q, ne⟩, ci_t (ms_amt p q ne c), ci_t (by rw [ms_mov p q ne]; exact Int32.le_refl _)]
theorem ms_x (p : p_has r a) (q : p_has r b) (ne : ¬ a = b) : b_mv r a b m = n_mv r a b m := ci_t ⟨p, q, ne⟩
theorem mv_has (p : p_has r a) : p_has (n_mv r a b m) a := p
theorem mv_E (o : Ok K r) (p : p_has r a) (q : p_has r b) (ne : ¬ a = b) : ∃ i j : Nat, i < md r ∧ j < md r ∧ i ≠ j ∧ a = nI i ∧ b = nI j ∧ a.toNatClampNeg = i ∧ b.toNatClampNeg = j ∧ (∀ c d : Nat, c ≠ 3 → c ≠ 7 → n_mv r a b m c d = r c d) ∧ n_mv r a b m 3 i = r 3 i - m ∧ n_mv r a b m 3 j = r 3 j + m ∧ (∀ d : Nat, d ≠ i → d ≠ j → n_mv r a b m 3 d = r 3 d) ∧ n_mv r a b m 7 i = r 7 i + m := by
  obtain ⟨i, h1, h2, h3, h4, h5⟩ := has_at o p
  obtain ⟨j, k1, k2, k3, k4, k5⟩ := has_at o q
  have nm : i ≠ j := fun z => ne (by rw [h3, k3, z])
  exact ⟨i, j, h1, k1, nm, h3, k3, h4, k4, fun c d y z => by simp [n_mv, b2, y, z], by simp [n_mv, b2, h4, k4, qv, nm], by simp [n_mv, b2, h4, k4, qv, nm.symm], fun d y z => by simp [n_mv, b2, h4, k4, y, z], by simp [n_mv, b2, h4, k4, qv]⟩
theorem mv_free (o : Ok K r) (p : p_has r a) (q : p_has r b) (ne : ¬ a = b) : p_free (n_mv r a b m) a = p_free r a - m := by
  obtain ⟨i, j, h1, h2, h3, h4, h5, h6, h7, E, E3, E3j, E3n, E7⟩ := mv_E (m := m) o p q ne
  rw [free_fr (mv_has p), free_fr p]
  unfold fr qv
  rw [h6, E3, E 4 i (by omega) (by omega), E 5 i (by omega) (by omega)]
  grind
theorem mv_lv (o : Ok K r) (p : p_has r a) (q : p_has r b) (ne : ¬ a = b) : p_lv (n_mv r a b m) a = p_lv r a - m := by
  obtain ⟨i, j, h1, h2, h3, h4, h5, h6, h7, E, E3, E3j, E3n, E7⟩ := mv_E (m := m) o p q ne
  unfold p_lv qv
  rw [h6, E7, E 6 i (by omega) (by omega), E 8 i (by omega) (by omega)]
  grind
theorem ms_3 (o : Ok K r) (p : p_has r a) (q : p_has r b) (ne : ¬ a = b) (c : ¬ v_most r a b ≤ 0) : opV (g_vire r a b (v_most r a b)) (p_free (b_mv r a b (v_most r a b)) a) = v_head r a 8 - v_most r a b := by
  rw [opV_0 (ms_g p q ne c), ms_x p q ne, mv_free o p q ne, vh_8 p]
theorem mv_sum (o : Ok K r) (oR : Ok (K + 100000) (n_mv r a b m)) (p : p_has r a) (q : p_has r b) (ne : ¬ a = b) : v_total (n_mv r a b m) 0 0 = v_total r 0 0 := by
  obtain ⟨i, j, h1, h2, h3, h4, h5, h6, h7, E, E3, E3j, E3n, E7⟩ := mv_E (m := m) o p q ne
  rw [vt_0 o, vt_0 oR, show md (n_mv r a b m) = md r from by unfold md; rw [E 14 1 (by omega) (by omega)]]
  rw [sumI_upd (f := fun d => if d = i then n_mv r a b m 3 i else r 3 d) (g := fun d => n_mv r a b m 3 d) h2 (fun d _ z => by
    show n_mv r a b m 3 d = if d = i then n_mv r a b m 3 i else r 3 d
    by_cases y : d = i
    · rw [if_pos y, y]
    · rw [if_neg y, E3n d y z])]
  rw [sumI_upd (f := fun d => r 3 d) (g := fun d => if d = i then n_mv r a b m 3 i else r 3 d) h1 (fun d _ z => if_neg z)]
  show sumI (fun d => r 3 d) (md r) - r 3 i + (if i = i then n_mv r a b m 3 i else r 3 i) - (if j = i then n_mv r a b m 3 i else r 3 j) + n_mv r a b m 3 j = sumI (fun d => r 3 d) (md r)
  rw [if_pos rfl, if_neg (fun z => h3 z.symm), E3, E3j]
  grind
theorem ms_gd (g : Gd K r) (hB : K ≤ 10000000) (p : p_has r a) (q : p_has r b) (ne : ¬ a = b) (c : ¬ v_most r a b ≤ 0) : Gd (K + 100000) (b_mv r a b (v_most r a b)) := (vire_gd g hB (ms_g p q ne c)).1
theorem ms_4 (g : Gd K r) (hB : K ≤ 10000000) (p : p_has r a) (q : p_has r b) (ne : ¬ a = b) (c : ¬ v_most r a b ≤ 0) (eR : R = b_mv r a b (v_most r a b)) : v_total R 0 0 = v_total r 0 0 := by
  have w := (ms_gd g hB p q ne c).1
  rw [ms_x p q ne] at w eR
  rw [eR]
  exact mv_sum g.1 w p q ne
theorem ms_5 (g : Gd K r) (p : p_has r a) (q : p_has r b) (ne : ¬ a = b) (c : ¬ v_most r a b ≤ 0) (eR : R = b_mv r a b (v_most r a b)) (c2 : ¬ 100000 ≤ v_most r a b) : v_most R a b = 0 := by
  rw [ms_x p q ne] at eR
  rw [eR, show v_most (n_mv r a b (v_most r a b)) a b = p_mov (n_mv r a b (v_most r a b)) a b from ci_t ⟨p, q, ne⟩]
  have e := ms_mov p q ne
  rw [e] at c c2 ⊢
  have w := mov_le c
  rw [i3_le, t_0] at c
  rw [i3_le, t_h] at c2
  have hl := Int32.toInt_lt (p_lv r a)
  have hf := free_t g.1 (h := a)
  have hB := g.1.B
  unfold p_mov
  by_cases y : p_may (n_mv r a b (p_mov r a b)) a b
  · rw [show ci (p_may r a b) (i3max 0 (i3min 100000 (i3min (p_free r a) (p_lv r a)))) 0 = p_mov r a b from rfl, ci_t y, mv_free g.1 p q ne, mv_lv g.1 p q ne, i3_eq, t_0]
    have z1 : (p_free r a - p_mov r a b).toInt = (p_free r a).toInt - (p_mov r a b).toInt := su_t (by omega)
    have z2 : (p_lv r a - p_mov r a b).toInt = (p_lv r a).toInt - (p_mov r a b).toInt := by
      rw [Int32.toInt_sub]
      exact Int.bmod_eq_of_le (by omega) (by omega)
    have h1 := i3max_t 0 (i3min 100000 (i3min (p_free r a - p_mov r a b) (p_lv r a - p_mov r a b)))
    have h2 := i3min_t 100000 (i3min (p_free r a - p_mov r a b) (p_lv r a - p_mov r a b))
    have h3 := i3min_t (p_free r a - p_mov r a b) (p_lv r a - p_mov r a b)
    rw [t_0] at h1
    rw [t_h] at h2
    rw [z1, z2] at h3
    omega
  · exact ci_f y
theorem ms_7 (p : p_has r a) (q : p_has r b) (ne : ¬ a = b) (c2 : ¬ 100000 ≤ v_most r a b) : g_vire r a b (v_most r a b + 1) = -2 := by
  have e := ms_mov p q ne
  have w := mov_t (r := r) (a := a) (b := b)
  rw [i3_le, t_h] at c2
  rw [← e] at w
  have z : (v_most r a b + 1).toInt = (v_most r a b).toInt + 1 := by rw [ad_t (by rw [t_1]; omega), t_1]
  unfold g_vire
  rw [ci_t ⟨p, q, ne⟩, ci_t (show p_amt (v_most r a b + 1) from ⟨by omega, by omega⟩), ci_f (by rw [← e, i3_le]; omega)]
-- the end of a year
theorem en_g (o : Ok K r) (c : ¬ v_count r n 0 = 99) : g_endYear r = 0 := by
  rw [vc_0] at c
  rw [gm_endYear o, ci_f c]
theorem en_0 (o : Ok K r) (c : v_count r n 0 = 99) : g_endYear r = -2 := by
  rw [vc_0] at c
  rw [gm_endYear o, ci_t c]
theorem lapse_e (o : Ok K r) : v_lapse r 0 = p_lapse r 0 (r 14 3) 20 := ci_t (root_has o)
theorem en_md (o : Ok K r) : md (n_endYear r) = md r := by
  unfold md
  rw [ey_E o, if_neg (by omega), if_neg (by omega), eyR_o r (by omega) (by omega) (by omega) (by omega)]
theorem en_3j (o : Ok K r) {j : Nat} (hj : j < md r) : n_endYear r 3 j = r 4 j + p_part (p_free r (nI j)) (r 14 3) ∧ n_endYear r 4 j = r 4 j ∧ n_endYear r 5 j = 0 := by
  have p := has_nI o hj
  rw [ey_E o, ey_E o, ey_E o, if_neg (by omega), if_neg (by omega), if_neg (by omega), if_neg (by omega), if_neg (by omega), if_neg (by omega), free_fr p]
  unfold eyR
  rw [if_pos ⟨hj, rfl⟩, if_neg (by omega), if_neg (by omega), if_neg (by omega), if_neg (by omega), if_neg (by omega), if_pos ⟨hj, Or.inl rfl⟩]
  exact ⟨rfl, rfl, rfl⟩
theorem en_has (o : Ok K r) {j : Nat} (hj : j < md r) : p_has (n_endYear r) (nI j) := by
  have p := has_nI o hj
  unfold p_has at p ⊢
  rw [ey_E o, if_neg (by omega), if_neg (by omega), eyR_o r (by omega) (by omega) (by omega) (by omega)]
  exact p
theorem en_free (o : Ok K r) {j : Nat} (hj : j < md r) : p_free (n_endYear r) (nI j) = p_part (p_free r (nI j)) (r 14 3) := by
  have h9 := md_20 o
  have w := en_3j o hj
  rw [free_fr (en_has o hj)]
  unfold fr
  rw [qv_nI (by omega), qv_nI (by omega), qv_nI (by omega), w.1, w.2.1, w.2.2]
  grind
theorem en_2 (g : Gd K r) (c : ¬ v_count r n 0 = 99) (eR : R = n_endYear r) : v_total R 0 3 = v_total r 0 3 - v_lapse r 0 := by
  have c9 : ¬ r 14 0 = 99 := by rw [vc_0] at c; exact c
  rw [eR, vt_free (gd_endYear g c9).1, vt_free g.1, lapse_md g.1, en_md g.1, ← sumI_sub]
  refine sumI_congr (fun j hj => ?_)
  show p_free (n_endYear r) (nI j) = p_free r (nI j) - (p_free r (nI j) - p_part (p_free r (nI j)) (r 14 3))
  rw [en_free g.1 hj]
  grind
theorem en_3 (g : Gd K r) (c : ¬ v_count r n 0 = 99) (eR : R = n_endYear r) : v_total R 0 1 = v_total r 0 1 := by
  have c9 : ¬ r 14 0 = 99 := by rw [vc_0] at c; exact c
  rw [eR, vt_1 (gd_endYear g c9).1, vt_1 g.1, en_md g.1]
  exact sumI_congr (fun j hj => (en_3j g.1 hj).2.1)
theorem en_4 (g : Gd K r) (c : ¬ v_count r n 0 = 99) (eR : R = n_endYear r) : v_total R 0 2 = 0 := by
  have c9 : ¬ r 14 0 = 99 := by rw [vc_0] at c; exact c
  rw [eR, vt_2 (gd_endYear g c9).1, en_md g.1]
  exact sumI_0 (fun j hj => (en_3j g.1 hj).2.2)
theorem en_5 (g : Gd K r) (c : ¬ v_count r n 0 = 99) (eR : R = n_endYear r) : v_total R 0 0 = v_total r 0 1 + v_total r 0 3 - v_lapse r 0 := by
  have c9 : ¬ r 14 0 = 99 := by rw [vc_0] at c; exact c
  rw [eR, vt_0 (gd_endYear g c9).1, vt_1 g.1, vt_free g.1, lapse_md g.1, en_md g.1, ← sumI_add, ← sumI_sub]
  refine sumI_congr (fun j hj => ?_)
  show n_endYear r 3 j = r 4 j + p_free r (nI j) - (p_free r (nI j) - p_part (p_free r (nI j)) (r 14 3))
  rw [(en_3j g.1 hj).1]
  grind
theorem en_6 (o : Ok K r) (eR : R = n_endYear r) : v_count R m 7 = v_count r n 7 + v_lapse r 0 := by
  rw [eR, vc_7, vc_7, ey_E o, if_neg (by omega), if_pos ⟨rfl, rfl⟩, lapse_e o]
end
