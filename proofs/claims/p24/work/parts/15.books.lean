/-! THE DEEDS' BOOKS: the reference's are the class's, and each keeps the books in order -/
theorem part_t {a b : Int32} (h : 0 ≤ a.toInt) (h2 : 0 ≤ b.toInt ∧ b.toInt ≤ 100) : 0 ≤ (p_part a b).toInt ∧ (p_part a b).toInt ≤ a.toInt := by
  unfold p_part
  have ha : a.toInt < 2147483648 := Int32.toInt_lt a
  have h3 : a.toInt * b.toInt ≤ a.toInt * 100 := Int.mul_le_mul_of_nonneg_left h2.2 h
  have h4 : 0 ≤ a.toInt * b.toInt := Int.mul_nonneg h h2.1
  have e1 : (a.toInt64 * b.toInt64).toInt = a.toInt * b.toInt := by
    rw [Int64.toInt_mul, Int32.toInt_toInt64, Int32.toInt_toInt64]
    exact Int.bmod_eq_of_le (by omega) (by omega)
  have e2 : (a.toInt64 * b.toInt64 / 100).toInt = a.toInt * b.toInt / 100 := by
    rw [Int64.toInt_div, e1, show (100 : Int64).toInt = 100 by decide, Int.tdiv_eq_ediv_of_nonneg h4]
    exact Int.bmod_eq_of_le (by omega) (by omega)
  rw [Int64.toInt_toInt32, e2, Int.bmod_eq_of_le (by omega) (by omega)]
  omega
theorem ad_t {x y : Int32} (h : -2000000000 ≤ x.toInt + y.toInt ∧ x.toInt + y.toInt ≤ 2000000000) : (x + y).toInt = x.toInt + y.toInt := by
  rw [Int32.toInt_add]
  exact Int.bmod_eq_of_le (by omega) (by omega)
theorem su_t {x y : Int32} (h : -2000000000 ≤ x.toInt - y.toInt ∧ x.toInt - y.toInt ≤ 2000000000) : (x - y).toInt = x.toInt - y.toInt := by
  rw [Int32.toInt_sub]
  exact Int.bmod_eq_of_le (by omega) (by omega)
section
variable {K : Int} {r r' : Bk} {h a q f t k x : Int32}
theorem OkS_c (e : r' 14 1 = r 14 1) (e0 : r' 0 = r 0) (e9 : r' 9 = r 9) (o : OkS r) : OkS r' := by
  unfold OkS at o ⊢
  rw [e, e0, e9]
  exact o
theorem OkF_c (e : r' 2 = r 2) (o : OkF r) : OkF r' := by
  unfold OkF at o ⊢
  rw [e]
  exact o
theorem OkN_c (e2 : r' 14 2 = r 14 2) (e0 : r' 14 0 = r 14 0) (e3 : r' 14 3 = r 14 3) (o : OkN r) : OkN r' := by
  unfold OkN at o ⊢
  rw [e0, e2, e3]
  exact o
theorem OkR_c (e : r' 1 = r 1) (o : OkR r) : OkR r' := by
  unfold OkR at o ⊢
  rw [e]
  exact o
theorem OkC_c (e2 : r' 14 2 = r 14 2) (e1 : r' 14 1 = r 14 1) (e10 : r' 10 = r 10) (e11 : r' 11 = r 11) (e12 : r' 12 = r 12) (o : OkC r) : OkC r' := by
  unfold OkC at o ⊢
  rw [e1, e2, e10, e11, e12]
  exact o
theorem OkU_c (e1 : r' 14 1 = r 14 1) (e3 : ∀ n : Nat, n < 20 → (r 14 1).toInt ≤ n → r' 3 n = r 3 n ∧ r' 4 n = r 4 n ∧ r' 5 n = r 5 n ∧ r' 6 n = r 6 n ∧ r' 7 n = r 7 n) (o : OkU r) : OkU r' := by
  intro n hn hm
  rw [e1] at hm
  have h1 := e3 n hn hm
  rw [h1.1, h1.2.1, h1.2.2.1, h1.2.2.2.1, h1.2.2.2.2]
  exact o n hn hm
theorem OkM_mono {K' : Int} (hK : K ≤ K') (o : OkM K r) : OkM K' r := by
  intro n hn
  have := o n hn
  omega
theorem Ok_mono {K' : Int} (hK : K ≤ K') (hB : K' ≤ 60000000) (o : Ok K r) : Ok K' r := by
  have h0 := o.B
  exact ⟨⟨by omega, hB⟩, o.S, o.F, o.N, OkM_mono hK o.M, o.R, o.U, o.C⟩
-- more heads, more commitments
def le_bk (r r' : Bk) : Prop := (r 14 1).toInt ≤ (r' 14 1).toInt ∧ (r 14 2).toInt ≤ (r' 14 2).toInt
theorem le_has (l : le_bk r r') (p : p_has r h) : p_has r' h := ⟨p.1, by have := p.2.1; have := l.1; omega, p.2.2⟩
theorem le_hasC (l : le_bk r r') (p : p_hasC r h) : p_hasC r' h := ⟨p.1, by have := p.2.1; have := l.2; omega, p.2.2⟩
theorem le_of (e1 : r' 14 1 = r 14 1) (e2 : r' 14 2 = r 14 2) : le_bk r r' := by
  unfold le_bk
  rw [e1, e2]
  omega
/-- one head's numbers changed, the rest kept -/
theorem OkM_1 {K' : Int} {n : Nat} (hK : K ≤ K') (o : OkM K r) (e : ∀ k : Nat, k ≠ n → r' 3 k = r 3 k ∧ r' 4 k = r 4 k ∧ r' 5 k = r 5 k)
  (w : (-K' ≤ (r' 4 n).toInt ∧ (r' 4 n).toInt ≤ K') ∧ (0 ≤ (r' 5 n).toInt ∧ (r' 5 n).toInt ≤ K') ∧ (r' 3 n).toInt ≤ K' ∧ 0 ≤ (r' 3 n).toInt - (r' 4 n).toInt - (r' 5 n).toInt) : OkM K' r' := by
  intro k hk
  by_cases z : k = n
  · rw [z]
    exact w
  · have h1 := e k z
    rw [h1.1, h1.2.1, h1.2.2]
    have := o k hk
    omega
theorem ok_allot (o : Ok K r) (p : p_has r h) (am : p_amt a) (hB : K + 100000 ≤ 60000000) : Ok (K + 100000) (n_allot r h a) ∧ le_bk r (n_allot r h a) := by
  obtain ⟨n, h1, h2, h3, h4, h5⟩ := has_at o p
  have h6 := o.B
  have h7 := o.M n h2
  have h8 := am
  unfold p_amt at h8
  have h9 := md_20 o
  have E : ∀ b c : Nat, b ≠ 3 → b ≠ 6 → n_allot r h a b c = r b c := fun b c y z => by simp [n_allot, b2, y, z]
  have E3 : ∀ c : Nat, c ≠ n → n_allot r h a 3 c = r 3 c := fun c z => by simp [n_allot, b2, h4, z]
  have E6 : ∀ c : Nat, c ≠ n → n_allot r h a 6 c = r 6 c := fun c z => by simp [n_allot, b2, h4, z]
  have En : n_allot r h a 3 n = r 3 n + a := by simp [n_allot, b2, h4, qv]
  refine ⟨⟨⟨by omega, hB⟩, OkS_c (E _ _ (by omega) (by omega)) (funext fun c => E _ _ (by omega) (by omega)) (funext fun c => E _ _ (by omega) (by omega)) o.S, OkF_c (funext fun c => E _ _ (by omega) (by omega)) o.F,
    OkN_c (E _ _ (by omega) (by omega)) (E _ _ (by omega) (by omega)) (E _ _ (by omega) (by omega)) o.N, OkM_1 (n := n) (by omega) o.M (fun k z => ⟨E3 k z, E _ _ (by omega) (by omega), E _ _ (by omega) (by omega)⟩) ?_,
    OkR_c (funext fun c => E _ _ (by omega) (by omega)) o.R, OkU_c (E _ _ (by omega) (by omega)) (fun k hk hm => ⟨E3 k (by omega), E _ _ (by omega) (by omega), E _ _ (by omega) (by omega), E6 k (by omega), E _ _ (by omega) (by omega)⟩) o.U,
    OkC_c (E _ _ (by omega) (by omega)) (E _ _ (by omega) (by omega)) (funext fun c => E _ _ (by omega) (by omega)) (funext fun c => E _ _ (by omega) (by omega)) (funext fun c => E _ _ (by omega) (by omega)) o.C⟩, le_of (E _ _ (by omega) (by omega)) (E _ _ (by omega) (by omega))⟩
  rw [En, E 4 n (by omega) (by omega), E 5 n (by omega) (by omega), ad_t (by omega)]
  omega
theorem ok_share (o : Ok K r) (n : Nat) (x : Int32) : Ok K (b2 r 8 n x) ∧ le_bk r (b2 r 8 n x) := by
  have E : ∀ b c : Nat, b ≠ 8 → b2 r 8 n x b c = r b c := fun b c y => b2_nf _ _ _ _ y
  exact ⟨⟨o.B, OkS_c (E _ _ (by omega)) (funext fun c => E _ _ (by omega)) (funext fun c => E _ _ (by omega)) o.S, OkF_c (funext fun c => E _ _ (by omega)) o.F, OkN_c (E _ _ (by omega)) (E _ _ (by omega)) (E _ _ (by omega)) o.N,
    (fun k hk => by rw [E 3 k (by omega), E 4 k (by omega), E 5 k (by omega)]; exact o.M k hk), OkR_c (funext fun c => E _ _ (by omega)) o.R, OkU_c (E _ _ (by omega)) (fun k hk hm => ⟨E _ _ (by omega), E _ _ (by omega), E _ _ (by omega), E _ _ (by omega), E _ _ (by omega)⟩) o.U,
    OkC_c (E _ _ (by omega)) (E _ _ (by omega)) (funext fun c => E _ _ (by omega)) (funext fun c => E _ _ (by omega)) (funext fun c => E _ _ (by omega)) o.C⟩, le_of (E _ _ (by omega)) (E _ _ (by omega))⟩
theorem ok_frz (o : Ok K r) (p : p_in x 0 1) : Ok K (n_freeze r h x) ∧ le_bk r (n_freeze r h x) :=
  ⟨ok_freeze o p, le_of (b2_nf _ _ _ _ (by omega)) (b2_nf _ _ _ _ (by omega))⟩
/-- a number of the book's own: not the heads', not the commitments' -/
theorem ok_num (o : Ok K r) {i : Nat} {v : Int32} (h1 : i ≠ 1) (h2 : i ≠ 2) (h0 : i = 0 → 0 ≤ v.toInt ∧ v.toInt ≤ 99) (h3 : i = 3 → 0 ≤ v.toInt ∧ v.toInt ≤ 100) : Ok K (b2 r 14 i v) ∧ le_bk r (b2 r 14 i v) := by
  have E : ∀ b c : Nat, b ≠ 14 → b2 r 14 i v b c = r b c := fun b c y => b2_nf _ _ _ _ y
  have e1 : b2 r 14 i v 14 1 = r 14 1 := b2_ni _ _ _ _ (fun z => h1 z.symm)
  have e2 : b2 r 14 i v 14 2 = r 14 2 := b2_ni _ _ _ _ (fun z => h2 z.symm)
  refine ⟨⟨o.B, OkS_c e1 (funext fun c => E _ _ (by omega)) (funext fun c => E _ _ (by omega)) o.S, OkF_c (funext fun c => E _ _ (by omega)) o.F, ?_,
    (fun k hk => by rw [E 3 k (by omega), E 4 k (by omega), E 5 k (by omega)]; exact o.M k hk), OkR_c (funext fun c => E _ _ (by omega)) o.R, OkU_c e1 (fun k hk hm => ⟨E _ _ (by omega), E _ _ (by omega), E _ _ (by omega), E _ _ (by omega), E _ _ (by omega)⟩) o.U,
    OkC_c e2 e1 (funext fun c => E _ _ (by omega)) (funext fun c => E _ _ (by omega)) (funext fun c => E _ _ (by omega)) o.C⟩, le_of e1 e2⟩
  have h4 := o.N
  unfold OkN at h4 ⊢
  rw [e2]
  refine ⟨h4.1, ?_, ?_⟩
  · by_cases z : i = 0
    · rw [z, b2_s]
      exact h0 z
    · rw [b2_ni _ _ _ _ (fun y => z y.symm)]
      exact h4.2.1
  · by_cases z : i = 3
    · rw [z, b2_s]
      exact h3 z
    · rw [b2_ni _ _ _ _ (fun y => z y.symm)]
      exact h4.2.2
theorem ok_mv (o : Ok K r) (p : p_has r f) (p2 : p_has r t) (ne : f ≠ t) (hB : K + 100000 ≤ 60000000) (am : -100000 ≤ a.toInt ∧ a.toInt ≤ 100000) (h1 : a.toInt ≤ (fr r f).toInt) (h2 : -a.toInt ≤ (fr r t).toInt) : Ok (K + 100000) (n_mv r f t a) ∧ le_bk r (n_mv r f t a) := by
  have f1 := fr_t o p
  have f2 := fr_t o p2
  obtain ⟨n, hn1, hn2, hn3, hn4, hn5⟩ := has_at o p
  obtain ⟨m, hm1, hm2, hm3, hm4, hm5⟩ := has_at o p2
  have nm : n ≠ m := fun z => ne (by rw [hn3, hm3, z])
  have h6 := o.B
  have h7 := o.M n hn2
  have h8 := o.M m hm2
  have h9 := md_20 o
  unfold qv at f1 f2
  rw [hn4] at f1
  rw [hm4] at f2
  have E : ∀ b c : Nat, b ≠ 3 → b ≠ 7 → n_mv r f t a b c = r b c := fun b c y z => by simp [n_mv, b2, y, z]
  have E3 : ∀ c : Nat, c ≠ n → c ≠ m → n_mv r f t a 3 c = r 3 c := fun c y z => by simp [n_mv, b2, hn4, hm4, y, z]
  have E7 : ∀ c : Nat, c ≠ n → n_mv r f t a 7 c = r 7 c := fun c y => by simp [n_mv, b2, hn4, hm4, y]
  have En : n_mv r f t a 3 n = r 3 n - a := by simp [n_mv, b2, hn4, hm4, qv, nm]
  have Em : n_mv r f t a 3 m = r 3 m + a := by simp [n_mv, b2, hn4, hm4, qv, nm.symm]
  refine ⟨⟨⟨by omega, hB⟩, OkS_c (E _ _ (by omega) (by omega)) (funext fun c => E _ _ (by omega) (by omega)) (funext fun c => E _ _ (by omega) (by omega)) o.S, OkF_c (funext fun c => E _ _ (by omega) (by omega)) o.F,
    OkN_c (E _ _ (by omega) (by omega)) (E _ _ (by omega) (by omega)) (E _ _ (by omega) (by omega)) o.N, ?_,
    OkR_c (funext fun c => E _ _ (by omega) (by omega)) o.R, OkU_c (E _ _ (by omega) (by omega)) (fun k hk hm => ⟨E3 k (by omega) (by omega), E _ _ (by omega) (by omega), E _ _ (by omega) (by omega), E _ _ (by omega) (by omega), E7 k (by omega)⟩) o.U,
    OkC_c (E _ _ (by omega) (by omega)) (E _ _ (by omega) (by omega)) (funext fun c => E _ _ (by omega) (by omega)) (funext fun c => E _ _ (by omega) (by omega)) (funext fun c => E _ _ (by omega) (by omega)) o.C⟩, le_of (E _ _ (by omega) (by omega)) (E _ _ (by omega) (by omega))⟩
  intro k hk
  rw [E 4 k (by omega) (by omega), E 5 k (by omega) (by omega)]
  by_cases y : k = n
  · rw [y, En, su_t (by omega)]
    omega
  · by_cases z : k = m
    · rw [z, Em, ad_t (by omega)]
      omega
    · rw [E3 k y z]
      have := o.M k hk
      omega
end
