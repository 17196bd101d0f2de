/-! THE LINKS: the class's state and the reference's state show that memory -/
abbrev LY (n L : Nat) (Y : St) (r : Bk) (B : Nat → Bk) (F : Nat → Nat → Int32) : Prop :=
  (Y 0 = r) ∧
  (n ≤ 12) ∧
  (Y 14 0 0 = nI n) ∧
  (Y 14 0 1 = nI L) ∧
  (∀ i, i < n → Y (i + 1) = B i) ∧
  (∀ f i, f < 7 → i < n → Y 13 f i = F f i)
theorem LY.y0 {n L : Nat} {Y : St} {r : Bk} {B : Nat → Bk} {F : Nat → Nat → Int32} (v : LY n L Y r B F) : Y 0 = r := v.1
theorem LY.hn {n L : Nat} {Y : St} {r : Bk} {B : Nat → Bk} {F : Nat → Nat → Int32} (v : LY n L Y r B F) : n ≤ 12 := v.2.1
theorem LY.yn {n L : Nat} {Y : St} {r : Bk} {B : Nat → Bk} {F : Nat → Nat → Int32} (v : LY n L Y r B F) : Y 14 0 0 = nI n := v.2.2.1
theorem LY.yl {n L : Nat} {Y : St} {r : Bk} {B : Nat → Bk} {F : Nat → Nat → Int32} (v : LY n L Y r B F) : Y 14 0 1 = nI L := v.2.2.2.1
theorem LY.yb {n L : Nat} {Y : St} {r : Bk} {B : Nat → Bk} {F : Nat → Nat → Int32} (v : LY n L Y r B F) : ∀ i, i < n → Y (i + 1) = B i := v.2.2.2.2.1
theorem LY.yf {n L : Nat} {Y : St} {r : Bk} {B : Nat → Bk} {F : Nat → Nat → Int32} (v : LY n L Y r B F) : ∀ f i, f < 7 → i < n → Y 13 f i = F f i := v.2.2.2.2.2
theorem LY.mk1 {n L : Nat} {Y : St} {r : Bk} {B : Nat → Bk} {F : Nat → Nat → Int32} (y00 : Y 0 = r) (hn0 : n ≤ 12) (yn0 : Y 14 0 0 = nI n) (yl0 : Y 14 0 1 = nI L) (yb0 : ∀ i, i < n → Y (i + 1) = B i) (yf0 : ∀ f i, f < 7 → i < n → Y 13 f i = F f i) : LY n L Y r B F := ⟨y00, hn0, yn0, yl0, yb0, yf0⟩
abbrev LX (n o L : Nat) (X : St) (r : Bk) (B : Nat → Bk) (F : Nat → Nat → Int32) : Prop :=
  (X 0 = r) ∧
  (n ≤ 12) ∧
  (o < 12) ∧
  (X 14 0 0 = nI o) ∧
  (X 14 0 1 = nI n) ∧
  (X 14 0 2 = nI L) ∧
  (∀ i, i < n → X ((o + i) % 12 + 1) = B i) ∧
  (∀ i, i < n → X 13 0 ((o + i) % 12) = F 6 i + 1 ∧ X 13 1 ((o + i) % 12) = F 0 i) ∧
  (∀ i, i < n → F 0 i = 8 → X 13 2 ((o + i) % 12) = F 1 i ∧ X 13 3 ((o + i) % 12) = F 2 i ∧ X 13 4 ((o + i) % 12) = F 3 i) ∧
  (∀ i, i < n → F 0 i = 5 → X 13 2 ((o + i) % 12) = F 1 i) ∧
  (∀ i, i < n → F 0 i = 10 → X 13 2 ((o + i) % 12) = F 1 i + 1)
theorem LX.x0 {n o L : Nat} {X : St} {r : Bk} {B : Nat → Bk} {F : Nat → Nat → Int32} (v : LX n o L X r B F) : X 0 = r := v.1
theorem LX.hn {n o L : Nat} {X : St} {r : Bk} {B : Nat → Bk} {F : Nat → Nat → Int32} (v : LX n o L X r B F) : n ≤ 12 := v.2.1
theorem LX.ho {n o L : Nat} {X : St} {r : Bk} {B : Nat → Bk} {F : Nat → Nat → Int32} (v : LX n o L X r B F) : o < 12 := v.2.2.1
theorem LX.xo {n o L : Nat} {X : St} {r : Bk} {B : Nat → Bk} {F : Nat → Nat → Int32} (v : LX n o L X r B F) : X 14 0 0 = nI o := v.2.2.2.1
theorem LX.xn {n o L : Nat} {X : St} {r : Bk} {B : Nat → Bk} {F : Nat → Nat → Int32} (v : LX n o L X r B F) : X 14 0 1 = nI n := v.2.2.2.2.1
theorem LX.xl {n o L : Nat} {X : St} {r : Bk} {B : Nat → Bk} {F : Nat → Nat → Int32} (v : LX n o L X r B F) : X 14 0 2 = nI L := v.2.2.2.2.2.1
theorem LX.xb {n o L : Nat} {X : St} {r : Bk} {B : Nat → Bk} {F : Nat → Nat → Int32} (v : LX n o L X r B F) : ∀ i, i < n → X ((o + i) % 12 + 1) = B i := v.2.2.2.2.2.2.1
theorem LX.xd {n o L : Nat} {X : St} {r : Bk} {B : Nat → Bk} {F : Nat → Nat → Int32} (v : LX n o L X r B F) : ∀ i, i < n → X 13 0 ((o + i) % 12) = F 6 i + 1 ∧ X 13 1 ((o + i) % 12) = F 0 i := v.2.2.2.2.2.2.2.1
theorem LX.x8 {n o L : Nat} {X : St} {r : Bk} {B : Nat → Bk} {F : Nat → Nat → Int32} (v : LX n o L X r B F) : ∀ i, i < n → F 0 i = 8 → X 13 2 ((o + i) % 12) = F 1 i ∧ X 13 3 ((o + i) % 12) = F 2 i ∧ X 13 4 ((o + i) % 12) = F 3 i := v.2.2.2.2.2.2.2.2.1
theorem LX.x5 {n o L : Nat} {X : St} {r : Bk} {B : Nat → Bk} {F : Nat → Nat → Int32} (v : LX n o L X r B F) : ∀ i, i < n → F 0 i = 5 → X 13 2 ((o + i) % 12) = F 1 i := v.2.2.2.2.2.2.2.2.2.1
theorem LX.x10 {n o L : Nat} {X : St} {r : Bk} {B : Nat → Bk} {F : Nat → Nat → Int32} (v : LX n o L X r B F) : ∀ i, i < n → F 0 i = 10 → X 13 2 ((o + i) % 12) = F 1 i + 1 := v.2.2.2.2.2.2.2.2.2.2
theorem LX.mk1 {n o L : Nat} {X : St} {r : Bk} {B : Nat → Bk} {F : Nat → Nat → Int32} (x00 : X 0 = r) (hn0 : n ≤ 12) (ho0 : o < 12) (xo0 : X 14 0 0 = nI o) (xn0 : X 14 0 1 = nI n) (xl0 : X 14 0 2 = nI L) (xb0 : ∀ i, i < n → X ((o + i) % 12 + 1) = B i) (xd0 : ∀ i, i < n → X 13 0 ((o + i) % 12) = F 6 i + 1 ∧ X 13 1 ((o + i) % 12) = F 0 i) (x80 : ∀ i, i < n → F 0 i = 8 → X 13 2 ((o + i) % 12) = F 1 i ∧ X 13 3 ((o + i) % 12) = F 2 i ∧ X 13 4 ((o + i) % 12) = F 3 i) (x50 : ∀ i, i < n → F 0 i = 5 → X 13 2 ((o + i) % 12) = F 1 i) (x100 : ∀ i, i < n → F 0 i = 10 → X 13 2 ((o + i) % 12) = F 1 i + 1) : LX n o L X r B F := ⟨x00, hn0, ho0, xo0, xn0, xl0, xb0, xd0, x80, x50, x100⟩
section
variable {n o L : Nat} {X Y : St} {r r' : Bk} {B : Nat → Bk} {F : Nat → Nat → Int32} {k o1 o2 a s u b : Int32}
-- the reference
theorem fgt1_b (Z : St) {k i : Nat} (hk : k < 11) (hi : i < 12) : fgt1 Z k (i + 1) = if i = k then Z (k + 2) else Z (i + 1) := by
  unfold fgt1
  try dsimp only
  rw [u3_n _ _ _ _ _ (by omega), u3_n _ _ _ _ _ (by omega), u3_n _ _ _ _ _ (by omega), u3_n _ _ _ _ _ (by omega), u3_n _ _ _ _ _ (by omega), u3_n _ _ _ _ _ (by omega), u3_n _ _ _ _ _ (by omega)]
  by_cases z : i = k
  · rw [if_pos z, z, sg_g]
  · rw [if_neg z, sg_n _ _ _ (by omega)]
theorem fgt1_f (Z : St) {k i f : Nat} (hk : k < 11) (hf : f < 7) : fgt1 Z k 13 f i = if i = k then Z 13 f (k + 1) else Z 13 f i := by
  unfold fgt1
  try dsimp only
  have e : (13 : Nat) ≠ k + 1 := by omega
  by_cases z : i = k
  · subst z
    rw [if_pos rfl]
    rcases (show f = 0 ∨ f = 1 ∨ f = 2 ∨ f = 3 ∨ f = 4 ∨ f = 5 ∨ f = 6 by omega) with rfl | rfl | rfl | rfl | rfl | rfl | rfl <;> simp [u3, b2, sg, e]
  · rw [if_neg z]
    simp [u3, b2, sg, e, z]
theorem fgt_b (Y : St) : ∀ k : Nat, k ≤ 11 → ∀ i : Nat, i < 12 → fgt Y k (i + 1) = if i < k then Y (i + 2) else Y (i + 1) := by
  intro k
  induction k with
  | zero => exact fun _ i _ => (if_neg (by omega)).symm
  | succ k ih =>
    intro hk i hi
    show fgt1 (fgt Y k) k (i + 1) = _
    rw [fgt1_b _ (by omega) hi]
    by_cases z : i = k
    · subst z
      rw [if_pos rfl, if_pos (by omega), ih (by omega) (i + 1) (by omega), if_neg (by omega)]
    · rw [if_neg z, ih (by omega) i hi]
      by_cases y : i < k
      · rw [if_pos y, if_pos (by omega)]
      · rw [if_neg y, if_neg (by omega)]
theorem fgt_f (Y : St) : ∀ k : Nat, k ≤ 11 → ∀ f i : Nat, f < 7 → fgt Y k 13 f i = if i < k then Y 13 f (i + 1) else Y 13 f i := by
  intro k
  induction k with
  | zero => exact fun _ f i _ => (if_neg (by omega)).symm
  | succ k ih =>
    intro hk f i hf
    show fgt1 (fgt Y k) k 13 f i = _
    rw [fgt1_f _ (by omega) hf]
    by_cases z : i = k
    · subst z
      rw [if_pos rfl, if_pos (by omega), ih (by omega) f (i + 1) hf, if_neg (by omega)]
    · rw [if_neg z, ih (by omega) f i hf]
      by_cases y : i < k
      · rw [if_pos y, if_pos (by omega)]
      · rw [if_neg y, if_neg (by omega)]
theorem LY.drop (v : LY 12 L Y r B F) : LY 11 L (N_fgt Y) r (fun i => B (i + 1)) (fun f i => F f (i + 1)) := LY.mk1
  (y00 := by rw [N_fgt_0, v.y0])
  (hn0 := by omega)
  (yn0 := N_fgt_d Y v.yn)
  (yl0 := by
    unfold N_fgt
    rw [u3_g, b2_ni _ _ _ _ (by omega), fgt_14 Y 11 (by omega)]
    exact v.yl)
  (yb0 := fun i h => by
    unfold N_fgt
    rw [u3_n _ _ _ _ _ (by omega), fgt_b Y 11 (by omega) i (by omega), if_pos h]
    exact v.yb (i + 1) (by omega))
  (yf0 := fun f i hf h => by
    unfold N_fgt
    rw [u3_n _ _ _ _ _ (by omega), fgt_f Y 11 (by omega) f i hf, if_pos h]
    exact v.yf f (i + 1) hf (by omega))
theorem LY.push (v : LY n L Y r B F) (hn : n < 12) : LY (n + 1) (L + 1) (sg (R_put Y n k o1 o2 a) 0 r') r' (pB B n r) (pF F n (vF k o1 o2 a (r 14 0) (nI L))) := LY.mk1
  (y00 := sg_g _ _ _)
  (hn0 := by omega)
  (yn0 := by
    unfold R_put
    try dsimp only
    rw [sg_n _ _ _ (by omega), u3_g, b2_s, nI_1])
  (yl0 := by
    unfold R_put
    try dsimp only
    rw [sg_n _ _ _ (by omega), u3_g, b2_ni _ _ _ _ (by omega), u3_g, b2_s, u3_n _ _ _ _ _ (by omega), u3_n _ _ _ _ _ (by omega), u3_n _ _ _ _ _ (by omega), u3_n _ _ _ _ _ (by omega), u3_n _ _ _ _ _ (by omega), u3_n _ _ _ _ _ (by omega), u3_n _ _ _ _ _ (by omega), sg_n _ _ _ (by omega), v.yl, nI_1])
  (yb0 := fun i h => by
    unfold R_put
    try dsimp only
    rw [sg_n _ _ _ (by omega), u3_n _ _ _ _ _ (by omega), u3_n _ _ _ _ _ (by omega), u3_n _ _ _ _ _ (by omega), u3_n _ _ _ _ _ (by omega), u3_n _ _ _ _ _ (by omega), u3_n _ _ _ _ _ (by omega), u3_n _ _ _ _ _ (by omega), u3_n _ _ _ _ _ (by omega), u3_n _ _ _ _ _ (by omega)]
    by_cases z : i = n
    · subst z
      rw [sg_g, pB_n, v.y0]
    · rw [sg_n _ _ _ (by omega), pB_o z]
      exact v.yb i (by omega))
  (yf0 := fun f i hf h => by
    unfold R_put
    try dsimp only
    have e : (13 : Nat) ≠ n + 1 := by omega
    have e2 : ¬ (0 : Nat) = n + 1 := by omega
    have e3 : ¬ (14 : Nat) = n + 1 := by omega
    have en : (nI n).toNatClampNeg = n := nI_c (by omega)
    rw [sg_n _ _ _ (by omega), u3_n _ _ _ _ _ (by omega), u3_n _ _ _ _ _ (by omega), en]
    by_cases z : i = n
    · subst z
      rw [pF_n]
      rcases (show f = 0 ∨ f = 1 ∨ f = 2 ∨ f = 3 ∨ f = 4 ∨ f = 5 ∨ f = 6 by omega) with rfl | rfl | rfl | rfl | rfl | rfl | rfl <;> simp [u3, b2, sg, e, e2, e3, vF, v.yl, v.y0]
    · rw [pF_o z, ← v.yf f i hf (by omega)]
      simp [u3, b2, sg, e, z])
theorem LY.mark (v : LY n L Y r B F) {z : Nat} (hz : z < n) : LY n L (u3 Y 13 5 z 1) r B (mF F z) := LY.mk1
  (y00 := by rw [u3_n _ _ _ _ _ (by omega)]; exact v.y0)
  (hn0 := v.hn)
  (yn0 := by rw [u3_n _ _ _ _ _ (by omega)]; exact v.yn)
  (yl0 := by rw [u3_n _ _ _ _ _ (by omega)]; exact v.yl)
  (yb0 := fun i h => by have := v.hn; rw [u3_n _ _ _ _ _ (by omega)]; exact v.yb i h)
  (yf0 := fun f i hf h => by
    rw [u3_g]
    unfold mF b2
    by_cases c : f = 5 ∧ i = z
    · rw [if_pos c, if_pos c]
    · rw [if_neg c, if_neg c]
      exact v.yf f i hf h)
theorem unrev_v (Z : St) (m : Nat) : ∀ k i : Nat, unrev Z m k 13 5 i = if i < k ∧ Z 13 6 i = Z 13 1 m then 0 else Z 13 5 i := by
  intro k
  induction k with
  | zero => exact fun i => (if_neg (by omega)).symm
  | succ k ih =>
    intro i
    show u3 (unrev Z m k) 13 5 k (ci (unrev Z m k 13 6 k = unrev Z m k 13 1 m) 0 (unrev Z m k 13 5 k)) 13 5 i = _
    rw [u3_g, unrev_f Z m (show (6 : Nat) ≠ 5 by omega), unrev_f Z m (show (1 : Nat) ≠ 5 by omega)]
    by_cases z : i = k
    · subst z
      rw [b2_s]
      by_cases c : Z 13 6 i = Z 13 1 m
      · rw [ci_t c, if_pos ⟨by omega, c⟩]
      · rw [ci_f c, ih i, if_neg (fun w => c w.2), if_neg (fun w => c w.2)]
    · rw [b2_ni _ _ _ _ z, ih i]
      by_cases c : Z 13 6 i = Z 13 1 m
      · by_cases y : i < k
        · rw [if_pos ⟨y, c⟩, if_pos ⟨by omega, c⟩]
        · rw [if_neg (fun w => y w.1), if_neg (fun w => y (by have := w.1; omega))]
      · rw [if_neg (fun w => c w.2), if_neg (fun w => c w.2)]
theorem LY.undo (v : LY (n + 1) L Y r B F) : LY n L (N_undoM Y n) (B n) B (uF F n) := by
  have hn := v.hn
  have u0 : undo0 Y n 0 = B n := by
    unfold undo0
    rw [sg_g]
    exact v.yb n (by omega)
  have u14 : undo0 Y n 14 = b2 (Y 14) 0 0 (nI n) := by
    unfold undo0
    rw [sg_n _ _ _ (by omega), u3_g]
  have ub : ∀ i, i < n → undo0 Y n (i + 1) = B i := fun i h => by
    unfold undo0
    rw [sg_n _ _ _ (by omega), u3_n _ _ _ _ _ (by omega)]
    exact v.yb i (by omega)
  have u13 : undo0 Y n 13 = Y 13 := by
    unfold undo0
    rw [sg_n _ _ _ (by omega), u3_n _ _ _ _ _ (by omega)]
  have k0 : Y 13 0 n = F 0 n := v.yf 0 n (by omega) (by omega)
  have k1 : Y 13 1 n = F 1 n := v.yf 1 n (by omega) (by omega)
  unfold N_undoM
  by_cases c : Y 13 0 n = 10
  · rw [ci_t c]
    have cF := c
    rw [k0] at cF
    refine ⟨by rw [unrev_n _ _ (by omega)]; exact u0, by omega, by rw [unrev_14, u14, b2_s], by rw [unrev_14, u14, b2_ni _ _ _ _ (by omega)]; exact v.yl, fun i h => by rw [unrev_n _ _ (by omega)]; exact ub i h, fun f i hf h => ?_⟩
    by_cases f5 : f = 5
    · subst f5
      rw [unrev_v, u13]
      have k6 : Y 13 6 i = F 6 i := v.yf 6 i (by omega) (by omega)
      rw [k6, k1]
      unfold uF
      by_cases w : F 6 i = F 1 n
      · rw [if_pos ⟨h, w⟩, if_pos ⟨rfl, cF, w⟩]
      · rw [if_neg (fun y => w y.2), if_neg (fun y => w y.2.2)]
        exact v.yf 5 i hf (by omega)
    · rw [unrev_f _ _ f5, u13, uF_o f5]
      exact v.yf f i hf (by omega)
  · rw [ci_f c]
    have cF := c
    rw [k0] at cF
    refine ⟨u0, by omega, by rw [u14, b2_s], by rw [u14, b2_ni _ _ _ _ (by omega)]; exact v.yl, ub, fun f i hf h => ?_⟩
    rw [u13]
    unfold uF
    rw [if_neg (fun y => cF y.2.1)]
    exact v.yf f i hf (by omega)
-- the class
theorem LX.slot (v : LX n o L X r B F) {i : Nat} (h : i < n) : p_slot X (nI i) = nI ((o + (n - 1 - i)) % 12) := by
  have := v.hn
  have := v.ho
  unfold p_slot
  rw [v.xo, v.xn, show nI o + nI n - 1 - nI i = nI (o + (n - 1 - i)) from ?_, fm12n (by omega)]
  rw [nI_add, i3_eq, nI_toInt (by omega), su_t ?_, su_t ?_, nI_toInt (by omega), nI_toInt (by omega), t_1]
  · omega
  · rw [nI_toInt (by omega), t_1]
    omega
  · rw [su_t ?_, nI_toInt (by omega), nI_toInt (by omega), t_1]
    · omega
    · rw [nI_toInt (by omega), t_1]
      omega
theorem LX.recl (v : LX n o L X r B F) {i : Nat} (h : i < n) : ¬ p_norec X (nI i) := by
  have := v.hn
  unfold p_norec
  rw [v.xn, i3_lt, i3_lt, t_0, nI_toInt (by omega), nI_toInt (by omega)]
  omega
theorem LX.norec (v : LX n o L X r B F) {i : Int32} (h0 : 0 ≤ i) : p_norec X i ↔ nI n ≤ i := by
  have := v.hn
  unfold p_norec
  rw [v.xn]
  rw [i3_le, t_0] at h0
  rw [i3_lt, i3_lt, i3_le, t_0, nI_toInt (by omega)]
  omega
/-- the oldest deed forgotten, before the new one is held -/
def X_drop (X : St) (o : Nat) : St := u3 (u3 X 14 0 0 (nI ((o + 1) % 12))) 14 0 1 (nI 11)
theorem LX.drop (v : LX 12 o L X r B F) : LX 11 ((o + 1) % 12) L (X_drop X o) r (fun i => B (i + 1)) (fun f i => F f (i + 1)) := by
  have ho := v.ho
  have e : ∀ g : Nat, g ≠ 14 → X_drop X o g = X g := fun g h => by
    unfold X_drop
    rw [u3_n _ _ _ _ _ h, u3_n _ _ _ _ _ h]
  have m : ∀ i : Nat, ((o + 1) % 12 + i) % 12 = (o + (i + 1)) % 12 := fun i => by omega
  refine ⟨by rw [e _ (by omega)]; exact v.x0, by omega, by omega, ?_, ?_, ?_, fun i h => ?_, fun i h => ?_, fun i h => ?_, fun i h => ?_, fun i h => ?_⟩
  · unfold X_drop
    rw [u3_g, b2_ni _ _ _ _ (by omega), u3_g, b2_s]
  · unfold X_drop
    rw [u3_g, b2_s]
  · unfold X_drop
    rw [u3_g, b2_ni _ _ _ _ (by omega), u3_g, b2_ni _ _ _ _ (by omega)]
    exact v.xl
  · rw [m, e _ (by omega)]
    exact v.xb (i + 1) (by omega)
  · rw [m, e _ (by omega)]
    exact v.xd (i + 1) (by omega)
  · rw [m, e _ (by omega)]
    exact v.x8 (i + 1) (by omega)
  · rw [m, e _ (by omega)]
    exact v.x5 (i + 1) (by omega)
  · rw [m, e _ (by omega)]
    exact v.x10 (i + 1) (by omega)
theorem LX.remD (v : LX 12 o L X r B F) : N_rem X k s u b = N_rem (X_drop X o) k s u b := by
  have ho := v.ho
  have d := v.drop
  have e : m_held X = m_held (X_drop X o) := by
    unfold m_held
    rw [ci_t (by rw [v.xn]; decide), ci_f (by rw [d.xn]; decide), v.xo, nI_1, fm12n (by omega), d.xn]
    unfold X_drop
    funext g f i
    have h12 : X 14 0 1 = nI 11 + 1 := by rw [v.xn]; rfl
    by_cases g14 : g = 14
    · subst g14
      by_cases f0 : f = 0
      · subst f0
        by_cases i0 : i = 0
        · subst i0
          simp [u3, b2]
        · by_cases i1 : i = 1
          · subst i1
            simp [u3, b2, h12]
          · simp [u3, b2, i0, i1]
      · simp [u3, b2, f0]
    · simp [u3, g14]
  unfold N_rem m_num
  rw [e]
theorem LX.push (v : LX n o L X r B F) (hn : n < 12) (yr : Int32) (c8 : k = 8 → s = o1 ∧ u = o2 ∧ b = a) (c5 : k = 5 → s = o1) (c10 : k = 10 → s = o1 + 1) :
  LX (n + 1) o (L + 1) (sg (N_rem X k s u b) 0 r') r' (pB B n r) (pF F n (vF k o1 o2 a yr (nI L))) := by
  have ho := v.ho
  obtain ⟨M, eM⟩ : ∃ M : St, M = m_num X := ⟨_, rfl⟩
  have hM : M = u3 (u3 X 14 0 1 (nI (n + 1))) 14 0 2 (nI (L + 1)) := by
    rw [eM]
    unfold m_num m_held
    rw [ci_f (by rw [v.xn, i3_le, t_12, nI_toInt (by omega)]; omega), v.xn, nI_1]
    rw [u3_g X, b2_ni _ _ _ _ (by omega), v.xl, nI_1]
  have M0 : M 14 0 0 = nI o := by rw [hM, u3_g, b2_ni _ _ _ _ (by omega), u3_g, b2_ni _ _ _ _ (by omega)]; exact v.xo
  have M1 : M 14 0 1 = nI (n + 1) := by rw [hM, u3_g, b2_ni _ _ _ _ (by omega), u3_g, b2_s]
  have M2 : M 14 0 2 = nI (L + 1) := by rw [hM, u3_g, b2_s]
  have Mg : ∀ g : Nat, g ≠ 14 → M g = X g := fun g h => by rw [hM, u3_n _ _ _ _ _ h, u3_n _ _ _ _ _ h]
  have c0 : ¬ p_norec M 0 := by
    unfold p_norec
    rw [M1, i3_lt, i3_lt, t_0, nI_toInt (by omega)]
    omega
  obtain ⟨z, ez⟩ : ∃ z : Nat, z = (o + n) % 12 := ⟨_, rfl⟩
  have hz : z < 12 := by omega
  have sl : (p_slot M 0).toNatClampNeg = z := by
    have e1 : nI o + nI (n + 1) - 1 - 0 = nI (o + n) := by
      rw [nI_add, i3_eq, nI_toInt (by omega), su_t ?_, su_t ?_, nI_toInt (by omega), t_1, t_0]
      · omega
      · rw [nI_toInt (by omega), t_1]
        omega
      · rw [su_t ?_, nI_toInt (by omega), t_1, t_0]
        · omega
        · rw [nI_toInt (by omega), t_1]
          omega
    unfold p_slot
    rw [M0, M1, e1, fm12n (by omega), nI_c (by omega), ez]
  have R : N_rem X k s u b = m_put M z k s u b := by
    unfold N_rem
    rw [← eM, ci_f c0, sl]
  rw [R]
  have z13 : ¬ (13 : Nat) = z + 1 := by omega
  have z14 : ¬ (14 : Nat) = z + 1 := by omega
  have P14 : m_put M z k s u b 14 = M 14 := by
    unfold m_put
    rw [u3_n _ _ _ _ _ (by omega), u3_n _ _ _ _ _ (by omega), u3_n _ _ _ _ _ (by omega), u3_n _ _ _ _ _ (by omega), u3_n _ _ _ _ _ (by omega), sg_n _ _ _ (by omega)]
  have Pb : ∀ g : Nat, g ≠ 13 → m_put M z k s u b g = if g = z + 1 then M 0 else M g := fun g h => by
    unfold m_put
    rw [u3_n _ _ _ _ _ h, u3_n _ _ _ _ _ h, u3_n _ _ _ _ _ h, u3_n _ _ _ _ _ h, u3_n _ _ _ _ _ h]
    rfl
  have Po : ∀ f i : Nat, i ≠ z → m_put M z k s u b 13 f i = X 13 f i := fun f i h => by
    rw [← Mg 13 (by omega)]
    simp [m_put, u3, b2, sg, z13, h]
  have Pz : m_put M z k s u b 13 0 z = nI (L + 1) ∧ m_put M z k s u b 13 1 z = k ∧ m_put M z k s u b 13 2 z = s ∧ m_put M z k s u b 13 3 z = u ∧ m_put M z k s u b 13 4 z = b := by
    simp [m_put, u3, b2, sg, z13, z14, M2]
  refine ⟨sg_g _ _ _, by omega, ho, by rw [sg_n _ _ _ (by omega), P14]; exact M0, by rw [sg_n _ _ _ (by omega), P14]; exact M1, by rw [sg_n _ _ _ (by omega), P14]; exact M2, fun i h => ?_, fun i h => ?_, fun i h => ?_, fun i h => ?_, fun i h => ?_⟩
  · rw [sg_n _ _ _ (by omega), Pb _ (by omega)]
    by_cases y : i = n
    · subst y
      rw [if_pos (by omega), pB_n, Mg 0 (by omega), v.x0]
    · rw [if_neg (by omega), pB_o y, Mg _ (by omega)]
      exact v.xb i (by omega)
  · rw [sg_n _ _ _ (by omega)]
    by_cases y : i = n
    · subst y
      rw [← ez, pF_n, pF_n, Pz.1, Pz.2.1]
      exact ⟨(nI_1 L).symm, rfl⟩
    · rw [Po _ _ (by omega), Po _ _ (by omega), pF_o y, pF_o y]
      exact v.xd i (by omega)
  · rw [sg_n _ _ _ (by omega)]
    by_cases y : i = n
    · subst y
      rw [← ez, pF_n, pF_n, pF_n, pF_n, Pz.2.2.1, Pz.2.2.2.1, Pz.2.2.2.2]
      exact c8
    · rw [Po _ _ (by omega), Po _ _ (by omega), Po _ _ (by omega), pF_o y, pF_o y, pF_o y, pF_o y]
      exact v.x8 i (by omega)
  · rw [sg_n _ _ _ (by omega)]
    by_cases y : i = n
    · subst y
      rw [← ez, pF_n, pF_n, Pz.2.2.1]
      exact c5
    · rw [Po _ _ (by omega), pF_o y, pF_o y]
      exact v.x5 i (by omega)
  · rw [sg_n _ _ _ (by omega)]
    by_cases y : i = n
    · subst y
      rw [← ez, pF_n, pF_n, Pz.2.2.1]
      exact c10
    · rw [Po _ _ (by omega), pF_o y, pF_o y]
      exact v.x10 i (by omega)
theorem LX.undo (v : LX (n + 1) o L X r B F) : LX n o L (N_undo X) (B n) B (uF F n) ∧ R_undo X = nI n := by
  have hn := v.hn
  have ho := v.ho
  have c0 : ¬ p_norec X 0 := v.recl (i := 0) (by omega)
  have sl : (p_slot X 0).toNatClampNeg = (o + n) % 12 := by
    rw [show p_slot X 0 = p_slot X (nI 0) from rfl, v.slot (by omega), nI_c (by omega)]
    omega
  have b := v.xb n (by omega)
  unfold N_undo R_undo N_fl a_fl
  rw [ci_f c0, ci_f c0, sl, b]
  have h14 : sg X 0 (B n) 14 = X 14 := sg_n _ _ _ (by omega)
  have cn : ¬ X 14 0 1 ≤ 0 := by
    rw [v.xn, i3_le, t_0, nI_toInt (by omega)]
    omega
  rw [h14, ci_f cn, ci_f cn, v.xn, nI_pred]
  refine ⟨?_, rfl⟩
  have e : ∀ g : Nat, g ≠ 14 → g ≠ 0 → u3 (sg X 0 (B n)) 14 0 1 (nI n) g = X g := fun g h1 h2 => by rw [u3_n _ _ _ _ _ h1, sg_n _ _ _ h2]
  refine ⟨by rw [u3_n _ _ _ _ _ (by omega), sg_g], by omega, ho, ?_, ?_, ?_, fun i h => ?_, fun i h => ?_, fun i h => ?_, fun i h => ?_, fun i h => ?_⟩
  · rw [u3_g, b2_ni _ _ _ _ (by omega), h14]
    exact v.xo
  · rw [u3_g, b2_s]
  · rw [u3_g, b2_ni _ _ _ _ (by omega), h14]
    exact v.xl
  · rw [e _ (by omega) (by omega)]
    exact v.xb i (by omega)
  · rw [e _ (by omega) (by omega), uF_o (by omega), uF_o (by omega)]
    exact v.xd i (by omega)
  · rw [e _ (by omega) (by omega), uF_o (by omega), uF_o (by omega), uF_o (by omega), uF_o (by omega)]
    exact v.x8 i (by omega)
  · rw [e _ (by omega) (by omega), uF_o (by omega), uF_o (by omega)]
    exact v.x5 i (by omega)
  · rw [e _ (by omega) (by omega), uF_o (by omega), uF_o (by omega)]
    exact v.x10 i (by omega)
end
