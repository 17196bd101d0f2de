/-! THE FIRST STATE is in order -/
theorem X0_at (f i : Nat) : X0c 0 f i = if f = 14 ∧ i = 1 then 1 else if f = 14 ∧ i = 3 then 10 else if f = 0 ∧ i = 0 then -9 else if f = 8 ∧ i = 0 then 50 else 0 := by
  have e0 : XZ 0 = B00 := rfl
  have c1 : ¬ B00 14 1 < 0 := by decide
  have c2 : B00 14 1 < 20 := by decide
  have ei : (B00 14 1).toNatClampNeg = 0 := by decide
  have c3 : ¬ p_has (b2 B00 0 0 (-9)) (-9) := no9
  unfold X0c
  rw [sg_g, e0]
  unfold b_add
  rw [ci_f c1, ci_t c2]
  unfold n_add
  rw [ei]
  try dsimp only
  rw [ci_f c3]
  simp only [b2, B00]
  grind
theorem Ok_0 : Ok 0 (X0c 0) := by
  refine ⟨⟨by omega, by omega⟩, ⟨?_, ?_, ?_, ?_, ?_⟩, ?_, ⟨?_, ?_, ?_⟩, ?_, ?_, ?_, ?_⟩
  · rw [X0_at]; decide
  · rw [X0_at]; rfl
  · rw [X0_at]; rfl
  · intro h h1 h2
    rw [X0_at] at h2
    simp at h2
    have : (1 : Int32).toInt = 1 := rfl
    omega
  · intro h h1
    rw [X0_at] at h1 ⊢
    simp at h1 ⊢
  · intro h hh
    refine Or.inl ?_
    rw [X0_at]
    simp
  · rw [X0_at]; decide
  · rw [X0_at]; decide
  · rw [X0_at]; decide
  · intro h hh
    simp only [X0_at]
    simp
  · intro h hh
    simp only [X0_at]
    simp
  · intro h hh _
    simp only [X0_at]
    simp
  · intro k hk
    simp only [X0_at]
    simp
theorem Iv_0 : Iv (X0c 0) := by
  refine ⟨fun h hh => ?_, ?_, fun h hh => ?_⟩
  · unfold s_com
    rw [sumI_0 (fun k hk => by
      have e : X0c 0 11 k = 0 := by
        rw [X0_at]
        simp
      show ci (X0c 0 10 k = nI h) (X0c 0 11 k) 0 = 0
      rw [e]
      by_cases z : X0c 0 10 k = nI h
      · exact ci_t z
      · exact ci_f z), X0_at]
    simp
  · unfold s_paid
    rw [sumI_0 (fun k hk => by
      show X0c 0 12 k = 0
      rw [X0_at]
      simp), X0_at]
    simp
  · rw [X0_at]
    by_cases z : h = 0
    · subst z
      decide
    · simp [z]
theorem gx_0 : GX 0 X0c := by
  have x : ∀ f i : Nat, X0c 14 f i = 0 := fun f i => by
    unfold X0c
    rw [sg_n _ _ _ (by omega)]
    rfl
  exact ⟨0, GXn.mk1 (o := 0) (L := 0) (B := fun _ => X0c 0) (F := fun _ _ => 0) (r := X0c 0) (LX.mk1 rfl (by omega) (by omega) (x 0 0) (x 0 1) (x 0 2) (fun i h => by omega) (fun i h => by omega) (fun i h => by omega) (fun i h => by omega) (fun i h => by omega)) ⟨Ok_0, Iv_0⟩ (fun i h => by omega)⟩
theorem GXn.gd {n : Nat} {K : Int} {X : St} (v : GXn n K X) : Gd K (X 0) := GX.gd ⟨n, v⟩
/-! the law's own numbers -/
theorem c1_nn {t : Nat} {x : Int32} (e : x = nI t) (h : t < 24) : 0 ≤ (1 + x).toInt := by
  have z : (1 : Int32) + nI t = nI (1 + t) := by
    show nI 1 + nI t = _
    rw [nI_add]
  rw [e, z, nI_toInt (by omega)]
  omega
theorem kp_1 {k : Nat} {x : Int32} (e : x = nI k) (h : k < 3) : 0 < (x + 1).toInt := by
  rw [e, nI_1, nI_toInt (by omega)]
  omega
theorem lp_3 {i : Nat} {xi : Int32} (ei : xi = nI i) (hi : i ≤ 3) (h : ¬ 3 ≤ xi) : i < 3 := by
  rw [ei, i3_le, nI_toInt (by omega), show (3 : Int32).toInt = 3 by decide] at h
  omega
theorem lp_24 {i : Nat} {xi : Int32} (ei : xi = nI i) (hi : i ≤ 24) (h : ¬ 24 ≤ xi) : i < 24 := by
  rw [ei, i3_le, nI_toInt (by omega), show (24 : Int32).toInt = 24 by decide] at h
  omega
theorem lp_N {i N : Nat} {xi x : Int32} (ei : xi = nI i) (e : x = nI N) (hN : N ≤ 12) (hi : i ≤ N) (h : ¬ x ≤ xi) : i < N := by
  rw [ei, e, i3_le, nI_toInt (by omega), nI_toInt (by omega)] at h
  omega
theorem lp_Ne {i N : Nat} {xi x : Int32} (ei : xi = nI i) (e : x = nI N) (hN : N ≤ 12) (hi : i ≤ N) (h : x ≤ xi) : i = N := by
  rw [ei, e, i3_le, nI_toInt (by omega), nI_toInt (by omega)] at h
  omega
theorem n_sub {N k M : Nat} {x xk : Int32} (e : x = nI N) (ek : xk = nI k) (h : N - k = M + 1) (hN : N ≤ 12) : nI M = x - 1 - xk := by
  rw [e, ek, i3_eq, nI_toInt (by omega), su_t ?_, su_t ?_, nI_toInt (by omega), nI_toInt (by omega), t_1]
  · omega
  · rw [nI_toInt (by omega), t_1]
    omega
  · rw [su_t ?_, nI_toInt (by omega), nI_toInt (by omega), t_1]
    · omega
    · rw [nI_toInt (by omega), t_1]
      omega
theorem vm_no {r : Bk} : v_comm r 40 0 = -1 := ci_f (fun z => by have h := z.2.2; rw [t_40] at h; omega)
theorem vh_no {r : Bk} : v_head r 20 0 = -1 := ci_f (fun z => by have h := z.2.2; rw [t_20] at h; omega)
theorem dd_10 {x : Int32} (h : x.toInt ≤ 10) : ¬ 10 < x := by
  rw [i3_lt, show (10 : Int32).toInt = 10 by decide]
  omega
theorem nn_0 {x : Int32} (h : 0 ≤ x.toInt) : ¬ x < 0 := by
  rw [i3_lt, t_0]
  omega
theorem ng_t {x : Int32} (h : ¬ 0 ≤ x) : x.toInt < 0 := by
  rw [i3_le, t_0] at h
  omega
theorem ps_t {x : Int32} (h : ¬ x < 0) : 0 ≤ x.toInt := by
  rw [i3_lt, t_0] at h
  omega
