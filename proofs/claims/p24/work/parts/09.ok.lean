/-! WHAT HOLDS OF A BOOK in every run (Ok K r; K: a bound of all money), and what the reference's loops rest on. -/
def OkS (r : Bk) : Prop := (1 ≤ (r 14 1).toInt ∧ (r 14 1).toInt ≤ 20) ∧ r 0 0 = -9 ∧ (r 9 0).toInt = 0 ∧ (∀ h : Nat, 1 ≤ h → (h : Int) < (r 14 1).toInt → 0 ≤ (r 0 h).toInt ∧ (r 0 h).toInt < h ∧ (r 9 h).toInt = (r 9 (r 0 h).toNatClampNeg).toInt + 1) ∧ (∀ h : Nat, (h : Int) < (r 14 1).toInt → 0 ≤ (r 9 h).toInt ∧ (r 9 h).toInt ≤ 4)
def OkF (r : Bk) : Prop := ∀ h : Nat, h < 20 → r 2 h = 0 ∨ r 2 h = 1
def OkN (r : Bk) : Prop := (0 ≤ (r 14 2).toInt ∧ (r 14 2).toInt ≤ 40) ∧ (0 ≤ (r 14 0).toInt ∧ (r 14 0).toInt ≤ 99) ∧ (0 ≤ (r 14 3).toInt ∧ (r 14 3).toInt ≤ 100)
def OkM (K : Int) (r : Bk) : Prop := ∀ h : Nat, h < 20 → (-K ≤ (r 4 h).toInt ∧ (r 4 h).toInt ≤ K) ∧ (0 ≤ (r 5 h).toInt ∧ (r 5 h).toInt ≤ K) ∧ (r 3 h).toInt ≤ K ∧ 0 ≤ (r 3 h).toInt - (r 4 h).toInt - (r 5 h).toInt
def OkR (r : Bk) : Prop := ∀ h : Nat, h < 20 → 0 ≤ (r 1 h).toInt ∧ (r 1 h).toInt ≤ 9
def OkU (r : Bk) : Prop := ∀ h : Nat, h < 20 → (r 14 1).toInt ≤ h → r 3 h = 0 ∧ r 4 h = 0 ∧ r 5 h = 0 ∧ r 6 h = 0 ∧ r 7 h = 0
def OkC (r : Bk) : Prop := ∀ k : Nat, k < 40 → ((k : Int) < (r 14 2).toInt → (0 ≤ (r 10 k).toInt ∧ (r 10 k).toInt < (r 14 1).toInt) ∧ 0 ≤ (r 11 k).toInt ∧ (r 11 k).toInt ≤ 100000) ∧ ((r 14 2).toInt ≤ k → r 11 k = 0 ∧ r 12 k = 0)
def Ok (K : Int) (r : Bk) : Prop := (0 ≤ K ∧ K ≤ 60000000) ∧ OkS r ∧ OkF r ∧ OkN r ∧ OkM K r ∧ OkR r ∧ OkU r ∧ OkC r
section
variable {K : Int} {r : Bk} {h t k q : Int32}
theorem Ok.B (o : Ok K r) : 0 ≤ K ∧ K ≤ 60000000 := o.1
theorem Ok.S (o : Ok K r) : OkS r := o.2.1
theorem Ok.F (o : Ok K r) : OkF r := o.2.2.1
theorem Ok.N (o : Ok K r) : OkN r := o.2.2.2.1
theorem Ok.M (o : Ok K r) : OkM K r := o.2.2.2.2.1
theorem Ok.R (o : Ok K r) : OkR r := o.2.2.2.2.2.1
theorem Ok.U (o : Ok K r) : OkU r := o.2.2.2.2.2.2.1
theorem Ok.C (o : Ok K r) : OkC r := o.2.2.2.2.2.2.2
/-- an index by its number -/
theorem ix_t (x : Int32) : x.toNatClampNeg = x.toInt.toNat := rfl
theorem hin_nI (p : hin h) : ∃ n : Nat, n < 20 ∧ h = nI n ∧ h.toNatClampNeg = n ∧ h.toInt = n := by
  have h1 := p.1
  have h2 := p.2
  refine ⟨h.toInt.toNat, by omega, ?_, rfl, by omega⟩
  rw [i3_eq, nI_toInt (by omega)]
  omega
theorem cin_nI (p : cin h) : ∃ n : Nat, n < 40 ∧ h = nI n ∧ h.toNatClampNeg = n ∧ h.toInt = n := by
  have h1 := p.1
  have h2 := p.2
  refine ⟨h.toInt.toNat, by omega, ?_, rfl, by omega⟩
  rw [i3_eq, nI_toInt (by omega)]
  omega
def md (r : Bk) : Nat := (r 14 1).toInt.toNat
theorem md_20 (o : Ok K r) : 1 ≤ md r ∧ md r ≤ 20 ∧ ((md r : Nat) : Int) = (r 14 1).toInt := by
  have h1 := o.S.1
  unfold md
  omega
theorem has_nI (o : Ok K r) {n : Nat} (hn : n < md r) : p_has r (nI n) := by
  have h1 := md_20 o
  have h2 : (nI n).toInt = n := nI_t (by omega)
  exact ⟨by omega, by omega, by omega⟩
theorem has_no (o : Ok K r) {n : Nat} (hn : md r ≤ n) (h40 : n ≤ 40) : ¬ p_has r (nI n) := by
  intro p
  have h1 := md_20 o
  have h2 : (nI n).toInt = n := nI_t (by omega)
  have := p.2.1
  omega
theorem has_at (o : Ok K r) (p : p_has r h) : ∃ n : Nat, n < md r ∧ n < 20 ∧ h = nI n ∧ h.toNatClampNeg = n ∧ h.toInt = n := by
  obtain ⟨n, h1, h2, h3, h4⟩ := hin_nI (hin_has p)
  have := md_20 o
  have := p.2.1
  exact ⟨n, by omega, h1, h2, h3, h4⟩
theorem md_ge (o : Ok K r) {n : Nat} (hn : n ≤ md r) (c : r 14 1 ≤ nI n) : n = md r := by
  have h1 := md_20 o
  rw [i3_le, nI_t (by omega)] at c
  omega
theorem md_lt (o : Ok K r) {n : Nat} (hn : n ≤ md r) (c : ¬ r 14 1 ≤ nI n) : n < md r ∧ n < 20 := by
  have h1 := md_20 o
  rw [i3_le, nI_t (by omega)] at c
  omega
def mc (r : Bk) : Nat := (r 14 2).toInt.toNat
theorem mc_40 (o : Ok K r) : mc r ≤ 40 ∧ ((mc r : Nat) : Int) = (r 14 2).toInt := by
  have h1 := o.N.1
  unfold mc
  omega
theorem mc_ge (o : Ok K r) {n : Nat} (hn : n ≤ mc r) (c : r 14 2 ≤ nI n) : n = mc r := by
  have h1 := mc_40 o
  rw [i3_le, nI_t (by omega)] at c
  omega
theorem mc_lt (o : Ok K r) {n : Nat} (hn : n ≤ mc r) (c : ¬ r 14 2 ≤ nI n) : n < mc r ∧ n < 40 := by
  have h1 := mc_40 o
  rw [i3_le, nI_t (by omega)] at c
  omega
theorem hasC_at (o : Ok K r) (p : p_hasC r h) : ∃ n : Nat, n < mc r ∧ n < 40 ∧ h = nI n ∧ h.toNatClampNeg = n ∧ h.toInt = n := by
  obtain ⟨n, h1, h2, h3, h4⟩ := cin_nI (cin_has p)
  have := mc_40 o
  have := p.2.1
  exact ⟨n, by omega, h1, h2, h3, h4⟩
/-- a commitment's head is a head -/
theorem hasC_head (o : Ok K r) (p : p_hasC r q) : p_has r (qv r 10 q) := by
  obtain ⟨n, h1, h2, h3, h4, h5⟩ := hasC_at o p
  have h6 := (o.C n h2).1 (by have := mc_40 o; omega)
  have h7 := md_20 o
  unfold qv
  rw [h4]
  exact ⟨h6.1.1, h6.1.2, by omega⟩
theorem has_ne9 (p : p_has r h) : h ≠ -9 := by
  intro e
  have := p.1
  rw [e, t_m9] at this
  omega
theorem ok_up (o : Ok K r) (p : p_has r h) : (qv r 0 h = -9 ∧ (qv r 9 h).toInt = 0) ∨ (p_has r (qv r 0 h) ∧ (qv r 9 h).toInt = (qv r 9 (qv r 0 h)).toInt + 1) := by
  obtain ⟨n, h1, h2, h3, h4, h5⟩ := has_at o p
  have h6 := md_20 o
  unfold qv
  rw [h4]
  by_cases e : n = 0
  · subst e
    exact Or.inl ⟨o.S.2.1, o.S.2.2.1⟩
  · have h7 := o.S.2.2.2.1 n (by omega) (by omega)
    exact Or.inr ⟨⟨h7.1, by omega, by omega⟩, h7.2.2⟩
theorem ok_dep (o : Ok K r) (p : p_has r h) : 0 ≤ (qv r 9 h).toInt ∧ (qv r 9 h).toInt ≤ 4 := by
  obtain ⟨n, h1, h2, h3, h4, h5⟩ := has_at o p
  have h6 := md_20 o
  unfold qv
  rw [h4]
  exact o.S.2.2.2.2 n (by omega)
/-- a walk upwards that still has n steps -/
def up_ok (r : Bk) (x : Int32) (n : Nat) : Prop := (x = -9 ∧ 1 ≤ n) ∨ (p_has r x ∧ (qv r 9 x).toInt + 1 < n)
theorem up_0 (o : Ok K r) : ¬ up_ok r h 0 := by
  intro u
  rcases u with ⟨_, u⟩ | ⟨p, u⟩
  · omega
  · have := ok_dep o p
    omega
theorem up_has {n : Nat} (u : up_ok r h n) (e : ¬ h = -9) : p_has r h := u.elim (fun z => absurd z.1 e) (fun z => z.1)
theorem up_next (o : Ok K r) {n : Nat} (u : up_ok r h (n + 1)) (e : ¬ h = -9) : up_ok r (qv r 0 h) n := by
  rcases u with ⟨u, _⟩ | ⟨p, u⟩
  · exact absurd u e
  · have h0 := ok_dep o p
    rcases ok_up o p with ⟨h1, h2⟩ | ⟨h1, h2⟩
    · exact Or.inl ⟨h1, by omega⟩
    · exact Or.inr ⟨h1, by omega⟩
theorem up_start (o : Ok K r) (p : p_has r h) : up_ok r h 6 := Or.inr ⟨p, by have := ok_dep o p; omega⟩
theorem up_start1 (o : Ok K r) (p : p_has r h) : up_ok r (qv r 0 h) 6 := by
  have h0 := ok_dep o p
  rcases ok_up o p with ⟨h1, h2⟩ | ⟨h1, h2⟩
  · exact Or.inl ⟨h1, by omega⟩
  · exact Or.inr ⟨h1, by omega⟩
theorem no9 : ¬ p_has r (-9) := fun p => has_ne9 p rfl
theorem wit_no9 {n : Nat} : ¬ p_wit r n (-9) t := by
  cases n with
  | zero => exact fun z => z
  | succ n => exact fun z => no9 z.1
theorem bar_no9 {n : Nat} : ¬ p_bar r n (-9) := by
  cases n with
  | zero => exact fun z => z
  | succ n => exact fun z => no9 z.1
theorem wit_fuel (o : Ok K r) : ∀ (n : Nat) (h : Int32), p_has r h → (qv r 9 h).toInt < n → (p_wit r n h t ↔ p_wit r (n + 1) h t) := by
  intro n
  induction n with
  | zero =>
    intro h p hd
    have := ok_dep o p
    omega
  | succ n ih =>
    intro h p hd
    show (p_has r h ∧ (h = t ∨ p_wit r n (qv r 0 h) t)) ↔ (p_has r h ∧ (h = t ∨ p_wit r (n + 1) (qv r 0 h) t))
    rcases ok_up o p with ⟨h1, h2⟩ | ⟨h1, h2⟩
    · rw [h1]
      simp only [wit_no9]
    · rw [ih _ h1 (by omega)]
theorem bar_fuel (o : Ok K r) : ∀ (n : Nat) (h : Int32), p_has r h → (qv r 9 h).toInt < n → (p_bar r n h ↔ p_bar r (n + 1) h) := by
  intro n
  induction n with
  | zero =>
    intro h p hd
    have := ok_dep o p
    omega
  | succ n ih =>
    intro h p hd
    show (p_has r h ∧ (qv r 2 h = 1 ∨ p_bar r n (qv r 0 h))) ↔ (p_has r h ∧ (qv r 2 h = 1 ∨ p_bar r (n + 1) (qv r 0 h)))
    rcases ok_up o p with ⟨h1, h2⟩ | ⟨h1, h2⟩
    · rw [h1]
      simp only [bar_no9]
    · rw [ih _ h1 (by omega)]
/-- h is below t, as the reference walks -/
def mb (r : Bk) (h t : Int32) : Prop := p_wit r 5 (qv r 0 h) t
theorem wit_mb (o : Ok K r) (p : p_has r h) : p_wit r 5 h t ↔ h = t ∨ mb r h t := by
  have h0 := ok_dep o p
  have e : p_wit r 4 (qv r 0 h) t ↔ p_wit r 5 (qv r 0 h) t := by
    rcases ok_up o p with ⟨h1, h2⟩ | ⟨h1, h2⟩
    · rw [h1]
      simp only [wit_no9]
    · exact wit_fuel o 4 _ h1 (by omega)
  show (p_has r h ∧ (h = t ∨ p_wit r 4 (qv r 0 h) t)) ↔ _
  rw [e]
  exact ⟨fun z => z.2, fun z => ⟨p, z⟩⟩
theorem wit_step (o : Ok K r) (p : p_has r h) (n : ¬ h = t) : p_wit r 5 h t ↔ p_wit r 5 (qv r 0 h) t := by
  rw [wit_mb o p]
  exact ⟨fun z => z.elim (fun z => absurd z n) id, Or.inr⟩
theorem bar_up (o : Ok K r) (p : p_has r h) : p_bar r 5 h ↔ qv r 2 h = 1 ∨ p_bar r 5 (qv r 0 h) := by
  have h0 := ok_dep o p
  have e : p_bar r 4 (qv r 0 h) ↔ p_bar r 5 (qv r 0 h) := by
    rcases ok_up o p with ⟨h1, h2⟩ | ⟨h1, h2⟩
    · rw [h1]
      simp only [bar_no9]
    · exact bar_fuel o 4 _ h1 (by omega)
  show (p_has r h ∧ (qv r 2 h = 1 ∨ p_bar r 4 (qv r 0 h))) ↔ _
  rw [e]
  exact ⟨fun z => z.2, fun z => ⟨p, z⟩⟩
theorem frz (o : Ok K r) (p : p_has r h) : qv r 2 h = 0 ∨ qv r 2 h = 1 := by
  obtain ⟨n, h1, h2, h3, h4, h5⟩ := has_at o p
  unfold qv
  rw [h4]
  exact o.F n h2
theorem bar_step (o : Ok K r) (p : p_has r h) (z : qv r 2 h = 0) : p_bar r 5 h ↔ p_bar r 5 (qv r 0 h) := by
  rw [bar_up o p, z]
  exact ⟨fun q => q.elim (fun e => absurd e (by decide)) id, Or.inr⟩
theorem bar_top (o : Ok K r) (p : p_has r h) (z : ¬ qv r 2 h = 0) : p_bar r 5 h := by
  rw [bar_up o p]
  exact Or.inl ((frz o p).resolve_left z)
theorem wit_dep (o : Ok K r) (pt : p_has r t) : ∀ (n : Nat) (x : Int32), p_has r x → p_wit r n x t → (qv r 9 t).toInt ≤ (qv r 9 x).toInt := by
  intro n
  induction n with
  | zero => exact fun x _ z => z.elim
  | succ n ih =>
    intro x p z
    rcases z.2 with e | z
    · rw [e]
      exact Int.le_refl _
    · rcases ok_up o p with ⟨h1, h2⟩ | ⟨h1, h2⟩
      · rw [h1] at z
        exact absurd z wit_no9
      · have := ih _ h1 z
        omega
theorem mb_ne (o : Ok K r) (p : p_has r h) (pt : p_has r t) (z : mb r h t) : h ≠ t := by
  intro e
  rcases ok_up o p with ⟨h1, h2⟩ | ⟨h1, h2⟩
  · unfold mb at z
    rw [h1] at z
    exact wit_no9 z
  · have := wit_dep o pt 5 _ h1 z
    rw [e] at this h2
    omega
theorem mb_iff (o : Ok K r) (p : p_has r h) (pt : p_has r t) : mb r h t ↔ h ≠ t ∧ p_wit r 5 h t := by
  rw [wit_mb o p]
  exact ⟨fun z => ⟨mb_ne o p pt z, Or.inr z⟩, fun z => z.2.resolve_left z.1⟩
/-- free money, without a look whether the head is there -/
def fr (r : Bk) (h : Int32) : Int32 := qv r 3 h - qv r 4 h - qv r 5 h
theorem free_fr (p : p_has r h) : p_free r h = fr r h := ci_t p
def lp (r : Bk) (h : Int32) : Int32 := fr r h - p_part (fr r h) (r 14 3)
theorem fr_t (o : Ok K r) (p : p_has r h) : (fr r h).toInt = (qv r 3 h).toInt - (qv r 4 h).toInt - (qv r 5 h).toInt ∧ 0 ≤ (fr r h).toInt ∧ (fr r h).toInt ≤ 2 * K := by
  obtain ⟨n, h1, h2, h3, h4, h5⟩ := has_at o p
  have h6 := o.M n h2
  have h7 := o.B
  unfold fr qv
  rw [h4, Int32.toInt_sub, Int32.toInt_sub, Int.bmod_eq_of_le (n := (r 3 n).toInt - (r 4 n).toInt) (by omega) (by omega), Int.bmod_eq_of_le (by omega) (by omega)]
  omega
theorem sumI_cut {f : Nat → Int32} {n m : Nat} (hnm : n ≤ m) (h : ∀ k, n ≤ k → k < m → f k = 0) : sumI f m = sumI f n := by
  induction m with
  | zero =>
    have : n = 0 := by omega
    rw [this]
  | succ m ih =>
    by_cases e : n = m + 1
    · rw [e]
    · show sumI f m + f m = _
      rw [h m (by omega) (by omega), Int32.add_zero]
      exact ih (by omega) (fun k h1 h2 => h k h1 (by omega))
theorem sumI_congr {f g : Nat → Int32} : ∀ {n : Nat}, (∀ k, k < n → f k = g k) → sumI f n = sumI g n := by
  intro n
  induction n with
  | zero => exact fun _ => rfl
  | succ n ih =>
    intro h
    show sumI f n + f n = sumI g n + g n
    rw [ih (fun k hk => h k (by omega)), h n (by omega)]
theorem bar_has {n : Nat} (z : p_bar r n h) : p_has r h := by
  cases n with
  | zero => exact z.elim
  | succ n => exact z.1
theorem wit_has {n : Nat} (z : p_wit r n h t) : p_has r h := by
  cases n with
  | zero => exact z.elim
  | succ n => exact z.1
theorem cntb_md (o : Ok K r) : p_cntb r 20 = p_cntb r (md r) :=
  sumI_cut (md_20 o).2.1 (fun k h1 h2 => ci_f (fun z => has_no o h1 (by omega) (bar_has z)))
theorem open_mc (o : Ok K r) : p_open r 40 = p_open r (mc r) :=
  sumI_cut (mc_40 o).1 (fun k h1 h2 => ci_f (by
    rw [((o.C k h2).2 (by have := mc_40 o; omega)).1]
    decide))
/-- what the reference's totals add for a head -/
noncomputable def p_val (r : Bk) (h w : Int32) : Int32 := ci (w = 0) (qv r 3 h) (ci (w = 1) (qv r 4 h) (ci (w = 2) (qv r 5 h) (ci (w = 3) (fr r h) (ci (w = 4) 1 (lp r h)))))
noncomputable def p_tot (r : Bk) (t w : Int32) (n : Nat) : Int32 := sumI (fun k => ci (nI k = t ∨ mb r (nI k) t) (p_val r (nI k) w) 0) n
theorem tot_gen (o : Ok K r) {f : Int32 → Int32} {g : Int32 → Int32} (hf : ∀ k, k < md r → f (nI k) = g (nI k)) : sumI (fun k => ci (nI k = t ∨ mb r (nI k) t) (f (nI k)) 0) (md r) = sumI (fun k => ci (p_wit r 5 (nI k) t) (g (nI k)) 0) 20 := by
  rw [sumI_cut (f := fun k => ci (p_wit r 5 (nI k) t) (g (nI k)) 0) (md_20 o).2.1 (fun k h1 h2 => ci_f (fun z => has_no o h1 (by omega) (wit_has z)))]
  refine sumI_congr (fun k hk => ?_)
  show ci _ _ _ = ci _ _ _
  rw [hf k hk]
  exact congrArg (fun P => ci P (g (nI k)) 0) (propext (wit_mb o (has_nI o hk)).symm)
theorem tot_sum (o : Ok K r) {w : Int32} (h0 : 0 ≤ w.toInt) (h4 : w.toInt ≤ 4) : p_tot r t w (md r) = p_sum r t w 20 := by
  refine tot_gen o (f := fun h => p_val r h w) (g := fun h => p_smd r h w) (fun k hk => ?_)
  show p_val r (nI k) w = p_smd r (nI k) w
  unfold p_val p_smd
  rw [ci_t (has_nI o hk), free_fr (has_nI o hk)]
  by_cases e0 : w = 0
  · rw [ci_t e0, ci_t e0]
  · by_cases e1 : w = 1
    · rw [ci_f e0, ci_f e0, ci_t e1, ci_t e1]
    · by_cases e2 : w = 2
      · rw [ci_f e0, ci_f e0, ci_f e1, ci_f e1, ci_t e2, ci_t e2]
      · by_cases e3 : w = 3
        · rw [ci_f e0, ci_f e0, ci_f e1, ci_f e1, ci_f e2, ci_f e2, ci_t e3, ci_t e3]
        · have e4 : w = 4 := by
            rw [i3_eq, t_4]
            rw [i3_eq, t_0] at e0
            rw [i3_eq, t_1] at e1
            rw [i3_eq, t_2] at e2
            rw [i3_eq, show (3 : Int32).toInt = 3 by decide] at e3
            omega
          rw [ci_f e0, ci_f e0, ci_f e1, ci_f e1, ci_f e2, ci_f e2, ci_f e3, ci_f e3, ci_t e4]
theorem tot_lapse (o : Ok K r) : p_tot r t 5 (md r) = p_lapse r t (r 14 3) 20 := by
  refine tot_gen o (f := fun h => p_val r h 5) (g := fun h => p_free r h - p_part (p_free r h) (r 14 3)) (fun k hk => ?_)
  show p_val r (nI k) 5 = _
  unfold p_val
  rw [ci_f (by decide), ci_f (by decide), ci_f (by decide), ci_f (by decide), ci_f (by decide), free_fr (has_nI o hk)]
  rfl
theorem sum_all (o : Ok K r) : sumI (fun k => qv r 3 (nI k)) (md r) = p_sum r 0 0 20 := by
  rw [← tot_sum o (by decide) (by decide)]
  refine sumI_congr (fun k hk => ?_)
  show _ = ci _ _ _
  have root : ∀ n : Nat, n < md r → nI n = 0 ∨ mb r (nI n) 0 := by
    have h6 := md_20 o
    intro n
    induction n using Nat.strongRecOn with
    | _ n ih =>
      intro hn
      by_cases e : n = 0
      · exact Or.inl (by rw [e]; rfl)
      · refine Or.inr ?_
        have h7 := o.S.2.2.2.1 n (by omega) (by omega)
        have e1 : qv r 0 (nI n) = nI (r 0 n).toInt.toNat := by
          unfold qv
          rw [nI_c (by omega), i3_eq, nI_toInt (by omega)]
          omega
        unfold mb
        rw [e1, wit_mb o (has_nI o (by omega))]
        exact ih _ (by omega) (by omega)
  rw [ci_t (root k hk)]
  unfold p_val
  rw [ci_t rfl]
/-- no place, no giver among the heads that are not made -/
theorem place_cut (o : Ok K r) {w : Int32} (e : p_place r t w (md r) = -9) : p_place r t w 20 = -9 := by
  have h6 := md_20 o
  have h2 : ∀ j, md r + j ≤ 20 → p_place r t w (md r + j) = -9 := by
    intro j
    induction j with
    | zero => exact fun _ => e
    | succ j ih =>
      intro hj
      show p_place r t w (md r + j + 1) = -9
      exact place_no (k := md r + j) (ih (by omega)) (fun z => has_no o (by omega) (by omega) (wit_has z.2.1))
  have := h2 (20 - md r) (by omega)
  rwa [show md r + (20 - md r) = 20 by omega] at this
theorem mov_no (n : ¬ p_has r h) : p_mov r h t = 0 := ci_f (fun z => n z.1)
theorem mov_self : p_mov r h h = 0 := ci_f (fun z => z.2.2.1 rfl)
theorem i3max_nn (x : Int32) : ¬ i3max 0 x < 0 := by
  unfold i3max
  by_cases c : 0 < x
  · rw [if_pos c]
    rw [i3_lt, t_0] at c ⊢
    omega
  · rw [if_neg c]
    decide
theorem mov_nn : ¬ p_mov r h t < 0 := by
  unfold p_mov
  by_cases c : p_may r h t
  · rw [ci_t c]
    exact i3max_nn _
  · rw [ci_f c]
    decide
theorem best_inv (n : Nat) : ((p_best r t n).1 = -9 ∧ (p_best r t n).2 = 0) ∨ (p_has r (p_best r t n).1 ∧ 0 < (p_best r t n).2) := by
  induction n with
  | zero => exact Or.inl ⟨rfl, rfl⟩
  | succ n ih =>
    by_cases c : (p_best r t n).2 < p_mov r (nI n) t ∨ (p_mov r (nI n) t = (p_best r t n).2 ∧ p_has r (p_best r t n).1 ∧ qv r 1 (p_best r t n).1 < qv r 1 (nI n))
    · have e : p_best r t (n + 1) = (nI n, p_mov r (nI n) t) := ci_t c
      rw [e]
      refine Or.inr ?_
      have hp : 0 < p_mov r (nI n) t := by
        rw [i3_lt, t_0]
        rcases c with c | c
        · rw [i3_lt] at c
          rcases ih with i | i
          · rw [i.2, t_0] at c
            exact c
          · have := i.2
            rw [i3_lt, t_0] at this
            omega
        · rcases ih with i | i
          · exact absurd c.2.1 (by rw [i.1]; exact no9)
          · have := i.2
            rw [← c.1, i3_lt, t_0] at this
            exact this
      refine ⟨?_, hp⟩
      refine Classical.byContradiction (fun z => ?_)
      rw [mov_no z] at hp
      exact absurd hp (by decide)
    · have e : p_best r t (n + 1) = p_best r t n := ci_f c
      rw [e]
      exact ih
theorem best_cut (o : Ok K r) : p_best r t 20 = p_best r t (md r) := by
  have h6 := md_20 o
  have h2 : ∀ j, md r + j ≤ 20 → p_best r t (md r + j) = p_best r t (md r) := by
    intro j
    induction j with
    | zero => exact fun _ => rfl
    | succ j ih =>
      intro hj
      have e : p_best r t (md r + j + 1) = p_best r t (md r + j) := by
        refine ci_f (fun z => ?_)
        rw [mov_no (has_no o (by omega) (by omega))] at z
        rcases best_inv (r := r) (t := t) (md r + j) with i | i
        · rcases z with z | z
          · rw [i.2] at z
            exact absurd z (by decide)
          · exact absurd z.2.1 (by rw [i.1]; exact no9)
        · have i2 := i.2
          rcases z with z | z
          · rw [i3_lt, t_0] at z i2
            omega
          · rw [← z.1] at i2
            exact absurd i2 (by decide)
      exact e.trans (ih (by omega))
  have := h2 (20 - md r) (by omega)
  rwa [show md r + (20 - md r) = 20 by omega] at this
end
