/-! THE MEMORY, as the class keeps it: n deeds, the i-th with the books before it (B i) and its numbers (F f i) -/
def pB (B : Nat → Bk) (n : Nat) (r : Bk) : Nat → Bk := fun i => if i = n then r else B i
def pF (F : Nat → Nat → Int32) (n : Nat) (v : Nat → Int32) : Nat → Nat → Int32 := fun f i => if i = n then v f else F f i
def pN (N : Nat → Nat) (n L : Nat) : Nat → Nat := fun i => if i = n then L else N i
def vF (k o1 o2 a yr num : Int32) : Nat → Int32 := fun f => if f = 0 then k else if f = 1 then o1 else if f = 2 then o2 else if f = 3 then a else if f = 4 then yr else if f = 5 then 0 else num
section
variable {K : Int} {n L : Nat} {r : Bk} {B : Nat → Bk} {F : Nat → Nat → Int32} {N : Nat → Nat}
theorem pB_n : pB B n r n = r := if_pos rfl
theorem pB_o {i : Nat} (h : i ≠ n) : pB B n r i = B i := if_neg h
theorem pF_n {v : Nat → Int32} {f : Nat} : pF F n v f n = v f := if_pos rfl
theorem pF_o {v : Nat → Int32} {f i : Nat} (h : i ≠ n) : pF F n v f i = F f i := if_neg h
def uF (F : Nat → Nat → Int32) (n : Nat) : Nat → Nat → Int32 := fun f i => if f = 5 ∧ F 0 n = 10 ∧ F 6 i = F 1 n then 0 else F f i
theorem uF_o {f i : Nat} (h : f ≠ 5) : uF F n f i = F f i := if_neg (fun w => h w.1)
end
abbrev LX (n o L : Nat) (X : St) (r : Bk) (B : Nat → Bk) (F : Nat → Nat → Int32) : Prop :=
  (X 0 = r) ∧
  (n ≤ 12) ∧
  (o < 12) ∧
  (X 14 0 0 = nI o) ∧
  (X 14 0 1 = nI n) ∧
  (X 14 0 2 = nI L) ∧
  (∀ i, i < n → X ((o + i) % 12 + 1) = B i) ∧
  (∀ i, i < n → X 13 0 ((o + i) % 12) = F 6 i + 1 ∧ X 13 1 ((o + i) % 12) = F 0 i) ∧
  (∀ i, i < n → F 0 i = 8 → X 13 2 ((o + i) % 12) = F 1 i ∧ X 13 3 ((o + i) % 12) = F 2 i ∧ X 13 4 ((o + i) % 12) = F 3 i) ∧
  (∀ i, i < n → F 0 i = 5 → X 13 2 ((o + i) % 12) = F 1 i) ∧
  (∀ i, i < n → F 0 i = 10 → X 13 2 ((o + i) % 12) = F 1 i + 1)
theorem LX.x0 {n o L : Nat} {X : St} {r : Bk} {B : Nat → Bk} {F : Nat → Nat → Int32} (v : LX n o L X r B F) : X 0 = r := v.1
theorem LX.hn {n o L : Nat} {X : St} {r : Bk} {B : Nat → Bk} {F : Nat → Nat → Int32} (v : LX n o L X r B F) : n ≤ 12 := v.2.1
theorem LX.ho {n o L : Nat} {X : St} {r : Bk} {B : Nat → Bk} {F : Nat → Nat → Int32} (v : LX n o L X r B F) : o < 12 := v.2.2.1
theorem LX.xo {n o L : Nat} {X : St} {r : Bk} {B : Nat → Bk} {F : Nat → Nat → Int32} (v : LX n o L X r B F) : X 14 0 0 = nI o := v.2.2.2.1
theorem LX.xn {n o L : Nat} {X : St} {r : Bk} {B : Nat → Bk} {F : Nat → Nat → Int32} (v : LX n o L X r B F) : X 14 0 1 = nI n := v.2.2.2.2.1
theorem LX.xl {n o L : Nat} {X : St} {r : Bk} {B : Nat → Bk} {F : Nat → Nat → Int32} (v : LX n o L X r B F) : X 14 0 2 = nI L := v.2.2.2.2.2.1
theorem LX.xb {n o L : Nat} {X : St} {r : Bk} {B : Nat → Bk} {F : Nat → Nat → Int32} (v : LX n o L X r B F) : ∀ i, i < n → X ((o + i) % 12 + 1) = B i := v.2.2.2.2.2.2.1
theorem LX.xd {n o L : Nat} {X : St} {r : Bk} {B : Nat → Bk} {F : Nat → Nat → Int32} (v : LX n o L X r B F) : ∀ i, i < n → X 13 0 ((o + i) % 12) = F 6 i + 1 ∧ X 13 1 ((o + i) % 12) = F 0 i := v.2.2.2.2.2.2.2.1
theorem LX.x8 {n o L : Nat} {X : St} {r : Bk} {B : Nat → Bk} {F : Nat → Nat → Int32} (v : LX n o L X r B F) : ∀ i, i < n → F 0 i = 8 → X 13 2 ((o + i) % 12) = F 1 i ∧ X 13 3 ((o + i) % 12) = F 2 i ∧ X 13 4 ((o + i) % 12) = F 3 i := v.2.2.2.2.2.2.2.2.1
theorem LX.x5 {n o L : Nat} {X : St} {r : Bk} {B : Nat → Bk} {F : Nat → Nat → Int32} (v : LX n o L X r B F) : ∀ i, i < n → F 0 i = 5 → X 13 2 ((o + i) % 12) = F 1 i := v.2.2.2.2.2.2.2.2.2.1
theorem LX.x10 {n o L : Nat} {X : St} {r : Bk} {B : Nat → Bk} {F : Nat → Nat → Int32} (v : LX n o L X r B F) : ∀ i, i < n → F 0 i = 10 → X 13 2 ((o + i) % 12) = F 1 i + 1 := v.2.2.2.2.2.2.2.2.2.2
theorem LX.mk1 {n o L : Nat} {X : St} {r : Bk} {B : Nat → Bk} {F : Nat → Nat → Int32} (x00 : X 0 = r) (hn0 : n ≤ 12) (ho0 : o < 12) (xo0 : X 14 0 0 = nI o) (xn0 : X 14 0 1 = nI n) (xl0 : X 14 0 2 = nI L) (xb0 : ∀ i, i < n → X ((o + i) % 12 + 1) = B i) (xd0 : ∀ i, i < n → X 13 0 ((o + i) % 12) = F 6 i + 1 ∧ X 13 1 ((o + i) % 12) = F 0 i) (x80 : ∀ i, i < n → F 0 i = 8 → X 13 2 ((o + i) % 12) = F 1 i ∧ X 13 3 ((o + i) % 12) = F 2 i ∧ X 13 4 ((o + i) % 12) = F 3 i) (x50 : ∀ i, i < n → F 0 i = 5 → X 13 2 ((o + i) % 12) = F 1 i) (x100 : ∀ i, i < n → F 0 i = 10 → X 13 2 ((o + i) % 12) = F 1 i + 1) : LX n o L X r B F := ⟨x00, hn0, ho0, xo0, xn0, xl0, xb0, xd0, x80, x50, x100⟩
section
variable {n o L : Nat} {X Y : St} {r r' : Bk} {B : Nat → Bk} {F : Nat → Nat → Int32} {k o1 o2 a s u b : Int32}
-- the class
theorem LX.slot (v : LX n o L X r B F) {i : Nat} (h : i < n) : p_slot X (nI i) = nI ((o + (n - 1 - i)) % 12) := by
  have := v.hn
  have := v.ho
  unfold p_slot
  rw [v.xo, v.xn, show nI o + nI n - 1 - nI i = nI (o + (n - 1 - i)) from ?_, fm12n (by omega)]
  rw [nI_add, i3_eq, nI_toInt (by omega), su_t ?_, su_t ?_, nI_toInt (by omega), nI_toInt (by omega), t_1]
  · omega
  · rw [nI_toInt (by omega), t_1]
    omega
  · rw [su_t ?_, nI_toInt (by omega), nI_toInt (by omega), t_1]
    · omega
    · rw [nI_toInt (by omega), t_1]
      omega
theorem LX.recl (v : LX n o L X r B F) {i : Nat} (h : i < n) : ¬ p_norec X (nI i) := by
  have := v.hn
  unfold p_norec
  rw [v.xn, i3_lt, i3_lt, t_0, nI_toInt (by omega), nI_toInt (by omega)]
  omega
theorem LX.norec (v : LX n o L X r B F) {i : Int32} (h0 : 0 ≤ i) : p_norec X i ↔ nI n ≤ i := by
  have := v.hn
  unfold p_norec
  rw [v.xn]
  rw [i3_le, t_0] at h0
  rw [i3_lt, i3_lt, i3_le, t_0, nI_toInt (by omega)]
  omega
/-- the oldest deed forgotten, before the new one is held -/
def X_drop (X : St) (o : Nat) : St := u3 (u3 X 14 0 0 (nI ((o + 1) % 12))) 14 0 1 (nI 11)
theorem LX.drop (v : LX 12 o L X r B F) : LX 11 ((o + 1) % 12) L (X_drop X o) r (fun i => B (i + 1)) (fun f i => F f (i + 1)) := by
  have ho := v.ho
  have e : ∀ g : Nat, g ≠ 14 → X_drop X o g = X g := fun g h => by
    unfold X_drop
    rw [u3_n _ _ _ _ _ h, u3_n _ _ _ _ _ h]
  have m : ∀ i : Nat, ((o + 1) % 12 + i) % 12 = (o + (i + 1)) % 12 := fun i => by omega
  refine ⟨by rw [e _ (by omega)]; exact v.x0, by omega, by omega, ?_, ?_, ?_, fun i h => ?_, fun i h => ?_, fun i h => ?_, fun i h => ?_, fun i h => ?_⟩
  · unfold X_drop
    rw [u3_g, b2_ni _ _ _ _ (by omega), u3_g, b2_s]
  · unfold X_drop
    rw [u3_g, b2_s]
  · unfold X_drop
    rw [u3_g, b2_ni _ _ _ _ (by omega), u3_g, b2_ni _ _ _ _ (by omega)]
    exact v.xl
  · rw [m, e _ (by omega)]
    exact v.xb (i + 1) (by omega)
  · rw [m, e _ (by omega)]
    exact v.xd (i + 1) (by omega)
  · rw [m, e _ (by omega)]
    exact v.x8 (i + 1) (by omega)
  · rw [m, e _ (by omega)]
    exact v.x5 (i + 1) (by omega)
  · rw [m, e _ (by omega)]
    exact v.x10 (i + 1) (by omega)
theorem LX.remD (v : LX 12 o L X r B F) : N_rem X k s u b = N_rem (X_drop X o) k s u b := by
  have ho := v.ho
  have d := v.drop
  have e : m_held X = m_held (X_drop X o) := by
    unfold m_held
    rw [ci_t (by rw [v.xn]; decide), ci_f (by rw [d.xn]; decide), v.xo, nI_1, fm12n (by omega), d.xn]
    unfold X_drop
    funext g f i
    have h12 : X 14 0 1 = nI 11 + 1 := by rw [v.xn]; rfl
    by_cases g14 : g = 14
    · subst g14
      by_cases f0 : f = 0
      · subst f0
        by_cases i0 : i = 0
        · subst i0
          simp [u3, b2]
        · by_cases i1 : i = 1
          · subst i1
            simp [u3, b2, h12]
          · simp [u3, b2, i0, i1]
      · simp [u3, b2, f0]
    · simp [u3, g14]
  unfold N_rem m_num
  rw [e]
theorem LX.push (v : LX n o L X r B F) (hn : n < 12) (yr : Int32) (c8 : k = 8 → s = o1 ∧ u = o2 ∧ b = a) (c5 : k = 5 → s = o1) (c10 : k = 10 → s = o1 + 1) :
  LX (n + 1) o (L + 1) (sg (N_rem X k s u b) 0 r') r' (pB B n r) (pF F n (vF k o1 o2 a yr (nI L))) := by
  have ho := v.ho
  obtain ⟨M, eM⟩ : ∃ M : St, M = m_num X := ⟨_, rfl⟩
  have hM : M = u3 (u3 X 14 0 1 (nI (n + 1))) 14 0 2 (nI (L + 1)) := by
    rw [eM]
    unfold m_num m_held
    rw [ci_f (by rw [v.xn, i3_le, t_12, nI_toInt (by omega)]; omega), v.xn, nI_1]
    rw [u3_g X, b2_ni _ _ _ _ (by omega), v.xl, nI_1]
  have M0 : M 14 0 0 = nI o := by rw [hM, u3_g, b2_ni _ _ _ _ (by omega), u3_g, b2_ni _ _ _ _ (by omega)]; exact v.xo
  have M1 : M 14 0 1 = nI (n + 1) := by rw [hM, u3_g, b2_ni _ _ _ _ (by omega), u3_g, b2_s]
  have M2 : M 14 0 2 = nI (L + 1) := by rw [hM, u3_g, b2_s]
  have Mg : ∀ g : Nat, g ≠ 14 → M g = X g := fun g h => by rw [hM, u3_n _ _ _ _ _ h, u3_n _ _ _ _ _ h]
  have c0 : ¬ p_norec M 0 := by
    unfold p_norec
    rw [M1, i3_lt, i3_lt, t_0, nI_toInt (by omega)]
    omega
  obtain ⟨z, ez⟩ : ∃ z : Nat, z = (o + n) % 12 := ⟨_, rfl⟩
  have hz : z < 12 := by omega
  have sl : (p_slot M 0).toNatClampNeg = z := by
    have e1 : nI o + nI (n + 1) - 1 - 0 = nI (o + n) := by
      rw [nI_add, i3_eq, nI_toInt (by omega), su_t ?_, su_t ?_, nI_toInt (by omega), t_1, t_0]
      · omega
      · rw [nI_toInt (by omega), t_1]
        omega
      · rw [su_t ?_, nI_toInt (by omega), t_1, t_0]
        · omega
        · rw [nI_toInt (by omega), t_1]
          omega
    unfold p_slot
    rw [M0, M1, e1, fm12n (by omega), nI_c (by omega), ez]
  have R : N_rem X k s u b = m_put M z k s u b := by
    unfold N_rem
    rw [← eM, ci_f c0, sl]
  rw [R]
  have z13 : ¬ (13 : Nat) = z + 1 := by omega
  have z14 : ¬ (14 : Nat) = z + 1 := by omega
  have P14 : m_put M z k s u b 14 = M 14 := by
    unfold m_put
    rw [u3_n _ _ _ _ _ (by omega), u3_n _ _ _ _ _ (by omega), u3_n _ _ _ _ _ (by omega), u3_n _ _ _ _ _ (by omega), u3_n _ _ _ _ _ (by omega), sg_n _ _ _ (by omega)]
  have Pb : ∀ g : Nat, g ≠ 13 → m_put M z k s u b g = if g = z + 1 then M 0 else M g := fun g h => by
    unfold m_put
    rw [u3_n _ _ _ _ _ h, u3_n _ _ _ _ _ h, u3_n _ _ _ _ _ h, u3_n _ _ _ _ _ h, u3_n _ _ _ _ _ h]
    rfl
  have Po : ∀ f i : Nat, i ≠ z → m_put M z k s u b 13 f i = X 13 f i := fun f i h => by
    rw [← Mg 13 (by omega)]
    simp [m_put, u3, b2, sg, z13, h]
  have Pz : m_put M z k s u b 13 0 z = nI (L + 1) ∧ m_put M z k s u b 13 1 z = k ∧ m_put M z k s u b 13 2 z = s ∧ m_put M z k s u b 13 3 z = u ∧ m_put M z k s u b 13 4 z = b := by
    simp [m_put, u3, b2, sg, z13, z14, M2]
  refine ⟨sg_g _ _ _, by omega, ho, by rw [sg_n _ _ _ (by omega), P14]; exact M0, by rw [sg_n _ _ _ (by omega), P14]; exact M1, by rw [sg_n _ _ _ (by omega), P14]; exact M2, fun i h => ?_, fun i h => ?_, fun i h => ?_, fun i h => ?_, fun i h => ?_⟩
  · rw [sg_n _ _ _ (by omega), Pb _ (by omega)]
    by_cases y : i = n
    · subst y
      rw [if_pos (by omega), pB_n, Mg 0 (by omega), v.x0]
    · rw [if_neg (by omega), pB_o y, Mg _ (by omega)]
      exact v.xb i (by omega)
  · rw [sg_n _ _ _ (by omega)]
    by_cases y : i = n
    · subst y
      rw [← ez, pF_n, pF_n, Pz.1, Pz.2.1]
      exact ⟨(nI_1 L).symm, rfl⟩
    · rw [Po _ _ (by omega), Po _ _ (by omega), pF_o y, pF_o y]
      exact v.xd i (by omega)
  · rw [sg_n _ _ _ (by omega)]
    by_cases y : i = n
    · subst y
      rw [← ez, pF_n, pF_n, pF_n, pF_n, Pz.2.2.1, Pz.2.2.2.1, Pz.2.2.2.2]
      exact c8
    · rw [Po _ _ (by omega), Po _ _ (by omega), Po _ _ (by omega), pF_o y, pF_o y, pF_o y, pF_o y]
      exact v.x8 i (by omega)
  · rw [sg_n _ _ _ (by omega)]
    by_cases y : i = n
    · subst y
      rw [← ez, pF_n, pF_n, Pz.2.2.1]
      exact c5
    · rw [Po _ _ (by omega), pF_o y, pF_o y]
      exact v.x5 i (by omega)
  · rw [sg_n _ _ _ (by omega)]
    by_cases y : i = n
    · subst y
      rw [← ez, pF_n, pF_n, Pz.2.2.1]
      exact c10
    · rw [Po _ _ (by omega), pF_o y, pF_o y]
      exact v.x10 i (by omega)
theorem LX.undo (v : LX (n + 1) o L X r B F) : LX n o L (N_undo X) (B n) B (uF F n) ∧ R_undo X = nI n := by
  have hn := v.hn
  have ho := v.ho
  have c0 : ¬ p_norec X 0 := v.recl (i := 0) (by omega)
  have sl : (p_slot X 0).toNatClampNeg = (o + n) % 12 := by
    rw [show p_slot X 0 = p_slot X (nI 0) from rfl, v.slot (by omega), nI_c (by omega)]
    omega
  have b := v.xb n (by omega)
  unfold N_undo R_undo N_fl a_fl
  rw [ci_f c0, ci_f c0, sl, b]
  have h14 : sg X 0 (B n) 14 = X 14 := sg_n _ _ _ (by omega)
  have cn : ¬ X 14 0 1 ≤ 0 := by
    rw [v.xn, i3_le, t_0, nI_toInt (by omega)]
    omega
  rw [h14, ci_f cn, ci_f cn, v.xn, nI_pred]
  refine ⟨?_, rfl⟩
  have e : ∀ g : Nat, g ≠ 14 → g ≠ 0 → u3 (sg X 0 (B n)) 14 0 1 (nI n) g = X g := fun g h1 h2 => by rw [u3_n _ _ _ _ _ h1, sg_n _ _ _ h2]
  refine ⟨by rw [u3_n _ _ _ _ _ (by omega), sg_g], by omega, ho, ?_, ?_, ?_, fun i h => ?_, fun i h => ?_, fun i h => ?_, fun i h => ?_, fun i h => ?_⟩
  · rw [u3_g, b2_ni _ _ _ _ (by omega), h14]
    exact v.xo
  · rw [u3_g, b2_s]
  · rw [u3_g, b2_ni _ _ _ _ (by omega), h14]
    exact v.xl
  · rw [e _ (by omega) (by omega)]
    exact v.xb i (by omega)
  · rw [e _ (by omega) (by omega), uF_o (by omega), uF_o (by omega)]
    exact v.xd i (by omega)
  · rw [e _ (by omega) (by omega), uF_o (by omega), uF_o (by omega), uF_o (by omega), uF_o (by omega)]
    exact v.x8 i (by omega)
  · rw [e _ (by omega) (by omega), uF_o (by omega), uF_o (by omega)]
    exact v.x5 i (by omega)
  · rw [e _ (by omega) (by omega), uF_o (by omega), uF_o (by omega)]
    exact v.x10 i (by omega)
end

