/-! WHAT THE LAW's isSound LOOKS AT: sums over heads and commitments, the tree of the heads -/
theorem sumI_add {f g : Nat → Int32} : ∀ {n : Nat}, sumI (fun k => f k + g k) n = sumI f n + sumI g n := by
  intro n
  induction n with
  | zero => rfl
  | succ n ih =>
    show sumI (fun k => f k + g k) n + (f n + g n) = sumI f n + f n + (sumI g n + g n)
    rw [ih]
    grind
theorem sumI_0 {f : Nat → Int32} : ∀ {n : Nat}, (∀ k, k < n → f k = 0) → sumI f n = 0 := by
  intro n
  induction n with
  | zero => exact fun _ => rfl
  | succ n ih =>
    intro h
    show sumI f n + f n = 0
    rw [ih (fun k hk => h k (by omega)), h n (by omega)]
    rfl
theorem sumI_swap {F : Nat → Nat → Int32} {m : Nat} : ∀ {n : Nat}, sumI (fun j => sumI (fun i => F i j) m) n = sumI (fun i => sumI (fun j => F i j) n) m := by
  intro n
  induction n with
  | zero => exact (sumI_0 (fun _ _ => rfl)).symm
  | succ n ih =>
    show sumI (fun j => sumI (fun i => F i j) m) n + sumI (fun i => F i n) m = sumI (fun i => sumI (fun j => F i j) n + F i n) m
    rw [ih, sumI_add]
theorem sumI_cio {P : Prop} {f : Nat → Int32} {n : Nat} : sumI (fun j => ci P (f j) 0) n = ci P (sumI f n) 0 := by
  by_cases c : P
  · rw [ci_t c]
    exact sumI_congr (fun k _ => ci_t c)
  · rw [ci_f c]
    exact sumI_0 (fun k _ => ci_f c)
theorem sumI_one {f : Nat → Int32} {i : Nat} : ∀ {n : Nat}, i < n → sumI (fun j => ci (j = i) (f j) 0) n = f i := by
  intro n hn
  have h := sumI_upd (f := fun _ => 0) (g := fun j => ci (j = i) (f j) 0) hn (fun k _ ne => ci_f ne)
  rw [sumI_0 (f := fun _ => 0) (fun _ _ => rfl)] at h
  rw [h]
  show 0 - 0 + ci (i = i) (f i) 0 = f i
  rw [ci_t rfl]
  grind
theorem sumI_le {f g : Nat → Int32} {M : Int} : ∀ {n : Nat}, (n : Int) * M ≤ 2000000000 → 0 ≤ M → (∀ k, k < n → 0 ≤ (f k).toInt ∧ (f k).toInt ≤ (g k).toInt ∧ (g k).toInt ≤ M) → (sumI f n).toInt ≤ (sumI g n).toInt := by
  intro n
  induction n with
  | zero => exact fun _ _ _ => Int.le_refl _
  | succ n ih =>
    intro h1 h2 h
    have e : ((n + 1 : Nat) : Int) * M = n * M + M := by rw [Int.natCast_succ, Int.add_mul, Int.one_mul]
    rw [e] at h1
    have w := ih (by omega) h2 (fun k hk => h k (by omega))
    have a1 := sumI_t (f := f) (n := n) (by omega) h2 (fun k hk => ⟨(h k (by omega)).1, by have := h k (by omega); omega⟩)
    have a2 := sumI_t (f := g) (n := n) (by omega) h2 (fun k hk => ⟨by have := h k (by omega); omega, (h k (by omega)).2.2⟩)
    have q := h n (by omega)
    show (sumI f n + f n).toInt ≤ (sumI g n + g n).toInt
    rw [ad_t (by omega), ad_t (by omega)]
    omega
section
variable {K : Int} {n : Nat} {r : Bk} {h c w : Int32}
theorem vc_0 {x : Int32} : v_count r x 0 = r 14 0 := by unfold v_count; rw [ci_t rfl]
theorem vc_1 {x : Int32} : v_count r x 1 = r 14 1 := by unfold v_count; rw [ci_f (by decide), ci_t rfl]
theorem vc_2 {x : Int32} : v_count r x 2 = r 14 2 := by unfold v_count; rw [ci_f (by decide), ci_f (by decide), ci_t rfl]
theorem vc_3 {x : Int32} : v_count r x 3 = p_open r 40 := by unfold v_count; rw [ci_f (by decide), ci_f (by decide), ci_f (by decide), ci_t rfl]
theorem vc_4 {x : Int32} : v_count r x 4 = p_cntb r 20 := by unfold v_count; rw [ci_f (by decide), ci_f (by decide), ci_f (by decide), ci_f (by decide), ci_t rfl]
theorem vc_5 {x : Int32} : v_count r x 5 = r 14 3 := by unfold v_count; rw [ci_f (by decide), ci_f (by decide), ci_f (by decide), ci_f (by decide), ci_f (by decide), ci_t rfl]
theorem vc_6 {x : Int32} : v_count r x 6 = p_sum r 0 0 20 := by unfold v_count; rw [ci_f (by decide), ci_f (by decide), ci_f (by decide), ci_f (by decide), ci_f (by decide), ci_f (by decide), ci_t rfl]
theorem vc_7 {x : Int32} : v_count r x 7 = r 14 4 := by unfold v_count; rw [ci_f (by decide), ci_f (by decide), ci_f (by decide), ci_f (by decide), ci_f (by decide), ci_f (by decide), ci_f (by decide), ci_t rfl]
theorem vc_8 {x : Int32} : v_count r x 8 = r 14 5 := by unfold v_count; rw [ci_f (by decide), ci_f (by decide), ci_f (by decide), ci_f (by decide), ci_f (by decide), ci_f (by decide), ci_f (by decide), ci_f (by decide), ci_t rfl]
theorem vc_9 {x : Int32} : v_count r x 9 = x := by unfold v_count; rw [ci_f (by decide), ci_f (by decide), ci_f (by decide), ci_f (by decide), ci_f (by decide), ci_f (by decide), ci_f (by decide), ci_f (by decide), ci_f (by decide), ci_t rfl]
theorem vc_10 {x : Int32} : v_count r x 10 = -1 := by unfold v_count; rw [ci_f (by decide), ci_f (by decide), ci_f (by decide), ci_f (by decide), ci_f (by decide), ci_f (by decide), ci_f (by decide), ci_f (by decide), ci_f (by decide), ci_f (by decide)]
/-- what is told of the number x, but for how many deeds are remembered -/
theorem vc_x {x y : Int32} {k : Nat} (hk : k < 9) : v_count r x (nI k) = v_count r y (nI k) := by
  rcases (show k = 0 ∨ k = 1 ∨ k = 2 ∨ k = 3 ∨ k = 4 ∨ k = 5 ∨ k = 6 ∨ k = 7 ∨ k = 8 by omega) with rfl | rfl | rfl | rfl | rfl | rfl | rfl | rfl | rfl
  · exact vc_0.trans vc_0.symm
  · exact vc_1.trans vc_1.symm
  · exact vc_2.trans vc_2.symm
  · exact vc_3.trans vc_3.symm
  · exact vc_4.trans vc_4.symm
  · exact vc_5.trans vc_5.symm
  · exact vc_6.trans vc_6.symm
  · exact vc_7.trans vc_7.symm
  · exact vc_8.trans vc_8.symm
theorem vh_0 (p : p_has r h) : v_head r h 0 = qv r 0 h := by unfold v_head; rw [ci_t p, ci_t rfl]
theorem vh_1 (p : p_has r h) : v_head r h 1 = qv r 9 h := by unfold v_head; rw [ci_t p, ci_f (by decide), ci_t rfl]
theorem vh_3 (p : p_has r h) : v_head r h 3 = qv r 2 h := by unfold v_head; rw [ci_t p, ci_f (by decide), ci_f (by decide), ci_f (by decide), ci_t rfl]
theorem vh_4 (p : p_has r h) : v_head r h 4 = ci (p_bar r 5 h) 1 0 := by unfold v_head; rw [ci_t p, ci_f (by decide), ci_f (by decide), ci_f (by decide), ci_f (by decide), ci_t rfl]
theorem vh_5 (p : p_has r h) : v_head r h 5 = qv r 3 h := by unfold v_head; rw [ci_t p, ci_f (by decide), ci_f (by decide), ci_f (by decide), ci_f (by decide), ci_f (by decide), ci_t rfl]
theorem vh_6 (p : p_has r h) : v_head r h 6 = qv r 4 h := by unfold v_head; rw [ci_t p, ci_f (by decide), ci_f (by decide), ci_f (by decide), ci_f (by decide), ci_f (by decide), ci_f (by decide), ci_t rfl]
theorem vh_7 (p : p_has r h) : v_head r h 7 = qv r 5 h := by unfold v_head; rw [ci_t p, ci_f (by decide), ci_f (by decide), ci_f (by decide), ci_f (by decide), ci_f (by decide), ci_f (by decide), ci_f (by decide), ci_t rfl]
theorem vh_8 (p : p_has r h) : v_head r h 8 = p_free r h := by unfold v_head; rw [ci_t p, ci_f (by decide), ci_f (by decide), ci_f (by decide), ci_f (by decide), ci_f (by decide), ci_f (by decide), ci_f (by decide), ci_f (by decide), ci_t rfl]
theorem vt_w (p : p_has r h) (h0 : 0 ≤ w.toInt) (h4 : w.toInt ≤ 4) : v_total r h w = p_sum r h w 20 := by
  unfold v_total
  rw [ci_t p, ci_f (by rw [i3_lt, t_0]; omega), ci_t (by rw [i3_le, t_4]; omega)]
theorem vm_0 (p : p_hasC r c) : v_comm r c 0 = qv r 10 c := by unfold v_comm; rw [ci_t p, ci_t rfl]
theorem vm_1 (p : p_hasC r c) : v_comm r c 1 = qv r 11 c := by unfold v_comm; rw [ci_t p, ci_f (by decide), ci_t rfl]
theorem vm_2 (p : p_hasC r c) : v_comm r c 2 = qv r 12 c := by unfold v_comm; rw [ci_t p, ci_f (by decide), ci_f (by decide), ci_t rfl]
theorem hasC_nI (o : Ok K r) {n : Nat} (hn : n < mc r) : p_hasC r (nI n) := by
  have h1 := mc_40 o
  have h2 : (nI n).toInt = n := nI_t (by omega)
  exact ⟨by omega, by omega, by omega⟩
theorem qv_nI {b k : Nat} (h : k ≤ 40) : qv r b (nI k) = r b k := by
  unfold qv
  rw [nI_c h]
theorem root_has (o : Ok K r) : p_has r 0 := by
  have h1 := o.S.1
  exact ⟨by rw [t_0]; omega, by rw [t_0]; omega, by rw [t_0]; omega⟩
-- a head's own numbers
theorem up_k (o : Ok K r) {k : Nat} (hk : k < md r) : (k = 0 ∧ qv r 0 (nI k) = -9) ∨ ∃ a : Nat, a < k ∧ a < md r ∧ qv r 0 (nI k) = nI a := by
  have h9 := md_20 o
  rw [qv_nI (by omega)]
  by_cases e : k = 0
  · subst e
    exact Or.inl ⟨rfl, o.S.2.1⟩
  · have s := o.S.2.2.2.1 k (by omega) (by omega)
    refine Or.inr ⟨(r 0 k).toInt.toNat, by omega, by omega, ?_⟩
    rw [i3_eq, nI_toInt (by omega)]
    omega
section
variable {k : Nat} {xk : Int32}
theorem sd_d0 (o : Ok K r) (hk : k < md r) (ek : xk = nI k) (c : ¬ 0 ≤ v_head r xk 0) : 0 = v_head r xk 1 := by
  subst ek
  have p := has_nI o hk
  have h9 := md_20 o
  rw [vh_0 p] at c
  rw [vh_1 p]
  rcases ok_up o p with u | u
  · rw [i3_eq, u.2, t_0]
  · exact absurd u.1.1 (by rw [i3_le, t_0] at c; exact c)
theorem sd_d1 (o : Ok K r) (hk : k < md r) (ek : xk = nI k) (c : 0 ≤ v_head r xk 0) : v_head r (v_head r xk 0) 1 + 1 = v_head r xk 1 := by
  subst ek
  have p := has_nI o hk
  have h9 := md_20 o
  rw [vh_0 p] at c ⊢
  rw [vh_1 p]
  rcases ok_up o p with u | u
  · rw [u.1] at c
    exact absurd c (by decide)
  · have d := ok_dep o u.1
    rw [vh_1 u.1, i3_eq, ad_t (by rw [t_1]; omega), t_1]
    omega
theorem sd_d4 (o : Ok K r) (hk : k < md r) (ek : xk = nI k) : ¬ 4 < v_head r xk 1 := by
  subst ek
  have p := has_nI o hk
  have d := ok_dep o p
  rw [vh_1 p, i3_lt, t_4]
  omega
theorem sd_b1 (o : Ok K r) (hk : k < md r) (ek : xk = nI k) (c : v_head r xk 3 = 1) : 1 = v_head r xk 4 := by
  subst ek
  have p := has_nI o hk
  rw [vh_3 p] at c
  rw [vh_4 p, ci_t ((bar_up o p).mpr (Or.inl c))]
theorem sd_b2 (o : Ok K r) (hk : k < md r) (ek : xk = nI k) (c : ¬ v_head r xk 3 = 1) (c2 : v_head r xk 0 < 0) : 0 = v_head r xk 4 := by
  subst ek
  have p := has_nI o hk
  rw [vh_3 p] at c
  rw [vh_0 p] at c2
  rw [vh_4 p, ci_f]
  intro z
  rcases (bar_up o p).mp z with z | z
  · exact c z
  · have q := (bar_has z).1
    rw [i3_lt, t_0] at c2
    omega
theorem sd_b3 (o : Ok K r) (hk : k < md r) (ek : xk = nI k) (c : ¬ v_head r xk 3 = 1) (c2 : ¬ v_head r xk 0 < 0) (c3 : ¬ v_head r (v_head r xk 0) 4 = 1) : 0 = v_head r xk 4 := by
  subst ek
  have p := has_nI o hk
  rw [vh_3 p] at c
  rw [vh_0 p] at c3
  rw [vh_4 p, ci_f]
  intro z
  rcases (bar_up o p).mp z with z | z
  · exact c z
  · exact c3 (by rw [vh_4 (bar_has z), ci_t z])
theorem sd_b4 (o : Ok K r) (hk : k < md r) (ek : xk = nI k) (c3 : v_head r (v_head r xk 0) 4 = 1) : 1 = v_head r xk 4 := by
  subst ek
  have p := has_nI o hk
  rw [vh_0 p] at c3
  have z : p_bar r 5 (qv r 0 (nI k)) := by
    by_cases y : p_bar r 5 (qv r 0 (nI k))
    · exact y
    · exfalso
      by_cases u : p_has r (qv r 0 (nI k))
      · rw [vh_4 u, ci_f y] at c3
        exact absurd c3 (by decide)
      · unfold v_head at c3
        rw [ci_f u] at c3
        exact absurd c3 (by decide)
  rw [vh_4 p, ci_t ((bar_up o p).mpr (Or.inr z))]
theorem sd_f (o : Ok K r) (hk : k < md r) (ek : xk = nI k) : v_head r xk 8 = v_head r xk 5 - v_head r xk 6 - v_head r xk 7 := by
  subst ek
  have p := has_nI o hk
  rw [vh_8 p, vh_5 p, vh_6 p, vh_7 p, free_fr p]
  rfl
theorem sd_nn (o : Ok K r) (hk : k < md r) (ek : xk = nI k) : ¬ v_head r xk 8 < 0 := by
  subst ek
  have p := has_nI o hk
  have f := free_t o (h := nI k)
  rw [vh_8 p, i3_lt, t_0]
  omega
theorem sd_lt (o : Ok K r) (hk : k < md r) (ek : xk = nI k) : v_head r xk 0 < xk := by
  subst ek
  have p := has_nI o hk
  have h9 := md_20 o
  rw [vh_0 p, i3_lt, nI_toInt (by omega)]
  rcases up_k o hk with u | ⟨a, u1, u2, u3⟩
  · rw [u.2, t_m9]
    omega
  · rw [u3, nI_toInt (by omega)]
    omega
theorem sd_s1 (o : Ok K r) (hk : k < md r) (ek : xk = nI k) {w : Nat} {xw : Int32} (ew : xw = nI w) (hw : w < 4) (c : ¬ 3 ≤ xw) : v_head r xk (5 + xw) = p_smd r xk xw := by
  subst ek ew
  have p := has_nI o hk
  rw [i3_le, nI_toInt (by omega), show (3 : Int32).toInt = 3 by decide] at c
  unfold p_smd
  rw [ci_t p]
  rcases (show w = 0 ∨ w = 1 ∨ w = 2 by omega) with rfl | rfl | rfl
  · rw [show (5 : Int32) + nI 0 = 5 from rfl, vh_5 p, ci_t (P := nI 0 = 0) rfl]
  · rw [show (5 : Int32) + nI 1 = 6 from rfl, vh_6 p, ci_f (by decide), ci_t (P := nI 1 = 1) rfl]
  · rw [show (5 : Int32) + nI 2 = 7 from rfl, vh_7 p, ci_f (by decide), ci_f (by decide), ci_t (P := nI 2 = 2) rfl]
theorem sd_s2 (o : Ok K r) (hk : k < md r) (ek : xk = nI k) {w : Nat} {xw : Int32} (ew : xw = nI w) (hw : w < 4) (c : 3 ≤ xw) : v_head r xk 8 = p_smd r xk xw := by
  subst ek ew
  have p := has_nI o hk
  rw [i3_le, nI_toInt (by omega), show (3 : Int32).toInt = 3 by decide] at c
  have e : w = 3 := by omega
  subst e
  unfold p_smd
  rw [ci_t p, vh_8 p, ci_f (by decide), ci_f (by decide), ci_f (by decide), ci_t (P := nI 3 = 3) rfl]
end
-- the tree
theorem wit_k (o : Ok K r) {j i : Nat} (hj : j < md r) : p_wit r 5 (nI j) (nI i) ↔ nI j = nI i ∨ p_wit r 5 (qv r 0 (nI j)) (nI i) := wit_mb o (has_nI o hj)
theorem nI_20 {j i : Nat} (hj : j < 40) (hi : i < 40) : nI j = nI i ↔ j = i := nI_eq (by omega) (by omega)
def kid (r : Bk) (k i : Nat) : Prop := k < i ∧ qv r 0 (nI i) = nI k
theorem tree (o : Ok K r) {k : Nat} (hk : k < md r) (f : Int32) : ∀ j : Nat, j < md r → ci (p_wit r 5 (nI j) (nI k)) f 0 = ci (j = k) f 0 + sumI (fun i => ci (kid r k i) (ci (p_wit r 5 (nI j) (nI i)) f 0) 0) (md r) := by
  have h9 := md_20 o
  intro j
  induction j using Nat.strongRecOn with
  | _ j ih =>
    intro hj
    rcases up_k o hj with ⟨e, u⟩ | ⟨a, u1, u2, u3⟩
    · have W : ∀ i : Nat, i < 20 → (p_wit r 5 (nI j) (nI i) ↔ j = i) := fun i hi => by
        rw [wit_k o hj, u, nI_20 (by omega) (by omega)]
        exact ⟨fun z => z.elim id (fun z => absurd z wit_no9), Or.inl⟩
      rw [sumI_0 (fun i hi => ?_)]
      · rw [show p_wit r 5 (nI j) (nI k) = (j = k) from propext (W k (by omega))]
        grind
      · by_cases y : kid r k i
        · rw [ci_t y, ci_f (fun z => ?_)]
          have q := (W i (by omega)).mp z
          have := y.1
          omega
        · rw [ci_f y]
    · have ne : ∀ i : Nat, i < md r → nI j = nI i → ¬ p_wit r 5 (nI a) (nI i) := fun i hi z1 z2 => by
        rw [← z1, ← u3] at z2
        exact mb_ne o (has_nI o hj) (has_nI o hj) z2 rfl
      have S : ∀ i : Nat, i < md r → ci (p_wit r 5 (nI j) (nI i)) f 0 = ci (j = i) f 0 + ci (p_wit r 5 (nI a) (nI i)) f 0 := fun i hi => by
        by_cases y : j = i
        · subst y
          rw [ci_t ((wit_k o hj).mpr (Or.inl rfl)), ci_t (P := j = j) rfl, ci_f (ne j hj rfl)]
          grind
        · rw [ci_f y]
          have e : p_wit r 5 (nI j) (nI i) = p_wit r 5 (nI a) (nI i) := propext (by
            rw [wit_k o hj, u3]
            exact ⟨fun z => z.elim (fun z => absurd ((nI_20 (by omega) (by omega)).mp z) y) id, Or.inr⟩)
          rw [e]
          grind
      have A := ih a u1 u2
      have T : sumI (fun i => ci (kid r k i) (ci (p_wit r 5 (nI j) (nI i)) f 0) 0) (md r) = ci (a = k) f 0 + sumI (fun i => ci (kid r k i) (ci (p_wit r 5 (nI a) (nI i)) f 0) 0) (md r) := by
        rw [sumI_congr (g := fun i => ci (i = j) (ci (kid r k i) f 0) 0 + ci (kid r k i) (ci (p_wit r 5 (nI a) (nI i)) f 0) 0) (fun i hi => by
          show ci (kid r k i) (ci (p_wit r 5 (nI j) (nI i)) f 0) 0 = ci (i = j) (ci (kid r k i) f 0) 0 + ci (kid r k i) (ci (p_wit r 5 (nI a) (nI i)) f 0) 0
          rw [S i hi]
          by_cases y : kid r k i
          · rw [ci_t y, ci_t y, ci_t y, show (j = i) = (i = j) from propext ⟨Eq.symm, Eq.symm⟩]
          · rw [ci_f y, ci_f y, ci_f y]
            by_cases x : i = j
            · rw [ci_t x]
              rfl
            · rw [ci_f x]
              rfl), sumI_add, sumI_one hj]
        have e : kid r k j = (a = k) := propext (by
          unfold kid
          rw [u3, nI_20 (by omega) (by omega)]
          exact ⟨fun z => z.2, fun z => ⟨by omega, z⟩⟩)
        rw [e]
      rw [S k hk, A, T]
theorem sum_tree (o : Ok K r) {k : Nat} (hk : k < md r) : p_sum r (nI k) w 20 = p_smd r (nI k) w + sumI (fun i => ci (kid r k i) (p_sum r (nI i) w 20) 0) (md r) := by
  have h9 := md_20 o
  have C : ∀ t : Int32, p_sum r t w 20 = sumI (fun j => ci (p_wit r 5 (nI j) t) (p_smd r (nI j) w) 0) (md r) := fun t =>
    sumI_cut h9.2.1 (fun j h1 h2 => ci_f (fun z => has_no o h1 (by omega) (wit_has z)))
  rw [C (nI k), sumI_congr (fun j hj => tree o hk (p_smd r (nI j) w) j hj), sumI_add, sumI_one (f := fun j => p_smd r (nI j) w) hk, sumI_swap (F := fun i j => ci (kid r k i) (ci (p_wit r 5 (nI j) (nI i)) (p_smd r (nI j) w) 0) 0)]
  rw [sumI_congr (g := fun i => ci (kid r k i) (p_sum r (nI i) w 20) 0) (fun i hi => by
    show sumI (fun j => ci (kid r k i) (ci (p_wit r 5 (nI j) (nI i)) (p_smd r (nI j) w) 0) 0) (md r) = ci (kid r k i) (p_sum r (nI i) w 20) 0
    rw [sumI_cio, C (nI i)])]
end
