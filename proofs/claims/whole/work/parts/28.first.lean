/-! BOTH FIRST STATES -/
theorem Y0_at (f i : Nat) : Y0c 0 f i = if f = 14 ∧ i = 1 then 1 else if f = 14 ∧ i = 3 then 10 else if f = 0 ∧ i = 0 then -9 else if f = 8 ∧ i = 0 then 50 else 0 := by
  have e : (0 : Int32).toNatClampNeg = 0 := rfl
  unfold Y0c
  rw [e]
  simp only [u3_g, b2, YZ]
  grind
theorem X0_Y0 : X0c 0 = Y0c 0 := by
  have e0 : XZ 0 = B00 := rfl
  have c1 : ¬ B00 14 1 < 0 := by decide
  have c2 : B00 14 1 < 20 := by decide
  have ei : (B00 14 1).toNatClampNeg = 0 := by decide
  have c3 : ¬ p_has (b2 B00 0 0 (-9)) (-9) := no9
  unfold X0c
  rw [sg_g, e0]
  unfold b_add
  rw [ci_f c1, ci_t c2]
  unfold n_add
  rw [ei]
  dsimp only
  rw [ci_f c3]
  funext f i
  rw [Y0_at]
  simp only [b2, B00]
  grind
theorem Ok_0 : Ok 0 (Y0c 0) := by
  refine ⟨⟨by omega, by omega⟩, ⟨?_, ?_, ?_, ?_, ?_⟩, ?_, ⟨?_, ?_, ?_⟩, ?_, ?_, ?_, ?_⟩
  · rw [Y0_at]; decide
  · rw [Y0_at]; rfl
  · rw [Y0_at]; rfl
  · intro h h1 h2
    rw [Y0_at] at h2
    simp at h2
    have : (1 : Int32).toInt = 1 := rfl
    omega
  · intro h h1
    rw [Y0_at] at h1 ⊢
    simp at h1 ⊢
  · intro h hh
    refine Or.inl ?_
    rw [Y0_at]
    simp
  · rw [Y0_at]; decide
  · rw [Y0_at]; decide
  · rw [Y0_at]; decide
  · intro h hh
    simp only [Y0_at]
    simp
  · intro h hh
    simp only [Y0_at]
    simp
  · intro h hh _
    simp only [Y0_at]
    simp
  · intro k hk
    simp only [Y0_at]
    simp
theorem rel_0 : Rel 0 X0c Y0c := by
  have z : ∀ g f i : Nat, g ≠ 0 → Y0c g f i = 0 := fun g f i h => by
    unfold Y0c
    rw [u3_n _ _ _ _ _ h, u3_n _ _ _ _ _ h, u3_n _ _ _ _ _ h, u3_n _ _ _ _ _ h]
    rfl
  have x : ∀ f i : Nat, X0c 14 f i = 0 := fun f i => by
    unfold X0c
    rw [sg_n _ _ _ (by omega)]
    rfl
  refine ⟨Y0c 0, 0, 0, 0, fun _ => Y0c 0, fun _ _ => 0, fun _ => 0, MemOk.mk1 (by omega) Ok_0 (fun i h => by omega) (fun i h => by omega) (fun i h => by omega) (fun i j h1 h2 => by omega) (fun j h => by omega) (fun i j h1 h2 => by omega) (fun i h => by omega) (fun i h => by omega) (fun i h => by omega),
    LX.mk1 X0_Y0 (by omega) (by omega) (x 0 0) (x 0 1) (x 0 2) (fun i h => by omega) (fun i h => by omega) (fun i h => by omega) (fun i h => by omega) (fun i h => by omega),
    LY.mk1 rfl (by omega) (z 14 0 0 (by omega)) (z 14 0 1 (by omega)) (fun i h => by omega) (fun f i _ h => by omega), by omega⟩
/-- the reference's book has no depths: its world is the same -/
theorem sg_d (Z : St) (r : Bk) (i : Nat) (v : Int32) : sg Z 0 (b2 r 9 i v) = u3 (sg Z 0 r) 0 9 i v := by
  rw [u3_sg, sg_sg, sg_g]
theorem wM_make {cI : ClassId} {am : Nat → Nat} {K : Int} {Y : St} {n : Nat} {a k : Int32} (o : Ok K (Y 0)) : wM cI am (opY Y n (g_make (Y 0) a k) 0 a k 0 (m_make (Y 0) a k)) = wM cI am (opY Y n (g_make (Y 0) a k) 0 a k 0 (n_make (Y 0) a k)) := by
  by_cases e : g_make (Y 0) a k = 0
  · have e2 := e
    rw [gm_make o] at e2
    obtain ⟨z1, e2⟩ := ci0 e2 n1
    obtain ⟨z2, e2⟩ := ci0 e2 n1
    obtain ⟨z3, e2⟩ := ci0n e2 n2
    obtain ⟨z4, e2⟩ := ci0n e2 n3
    have h1 := o.S.1
    have c2 : Y 0 14 1 < 20 := by rw [i3_lt, t_20]; rw [i3_eq, t_20] at z4; omega
    rw [opY_0 e, opY_0 e, mk_eq o z1 c2, sg_d, wM_d]
  · rw [opY_e rfl e, opY_e rfl e]
