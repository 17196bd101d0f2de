/-! THE MEMORY, as both see it: n deeds, the i-th with the books before it (B i) and its numbers (F f i: 0 kind, 1 one, 2 other, 3 amount, 4 year, 5 revoked, 6 number) -/
def pB (B : Nat → Bk) (n : Nat) (r : Bk) : Nat → Bk := fun i => if i = n then r else B i
def pF (F : Nat → Nat → Int32) (n : Nat) (v : Nat → Int32) : Nat → Nat → Int32 := fun f i => if i = n then v f else F f i
def pN (N : Nat → Nat) (n L : Nat) : Nat → Nat := fun i => if i = n then L else N i
def vF (k o1 o2 a yr num : Int32) : Nat → Int32 := fun f => if f = 0 then k else if f = 1 then o1 else if f = 2 then o2 else if f = 3 then a else if f = 4 then yr else if f = 5 then 0 else num
def has2 (F : Nat → Nat → Int32) (i : Nat) (r : Bk) : Prop := p_has r (F 1 i) ∧ p_has r (F 2 i)
abbrev MemOk (K : Int) (n L : Nat) (P : Int32 → Prop) (r : Bk) (B : Nat → Bk) (F : Nat → Nat → Int32) (N : Nat → Nat) : Prop :=
  (L ≤ 1000) ∧
  (Ok K r) ∧
  (∀ i, i < n → Ok K (B i)) ∧
  (∀ i, i < n → F 4 i = B i 14 0) ∧
  (∀ i, i < n → F 6 i = nI (N i) ∧ N i < L) ∧
  (∀ i j, i < j → j < n → N i < N j) ∧
  (∀ j, j < n → F 0 j = 10 → ∃ M, M < N j ∧ F 1 j = nI M) ∧
  (∀ i j, i < n → j < n → F 0 i = 10 → F 0 j = 10 → F 1 i = F 1 j → i = j) ∧
  (∀ i, i < n → (F 5 i = 1 ↔ ((∃ j, j < n ∧ F 0 j = 10 ∧ F 1 j = F 6 i) ∨ P (F 6 i)))) ∧
  (∀ i, i < n → F 0 i = 8 → F 1 i ≠ F 2 i ∧ p_amt (F 3 i) ∧ has2 F i r ∧ ∀ j, i < j → j < n → has2 F i (B j)) ∧
  (∀ i, i < n → F 0 i = 5 → p_hasC r (F 1 i) ∧ ∀ j, i < j → j < n → p_hasC (B j) (F 1 i))
theorem MemOk.hL {K : Int} {n L : Nat} {P : Int32 → Prop} {r : Bk} {B : Nat → Bk} {F : Nat → Nat → Int32} {N : Nat → Nat} (v : MemOk K n L P r B F N) : L ≤ 1000 := v.1
theorem MemOk.ok {K : Int} {n L : Nat} {P : Int32 → Prop} {r : Bk} {B : Nat → Bk} {F : Nat → Nat → Int32} {N : Nat → Nat} (v : MemOk K n L P r B F N) : Ok K r := v.2.1
theorem MemOk.okB {K : Int} {n L : Nat} {P : Int32 → Prop} {r : Bk} {B : Nat → Bk} {F : Nat → Nat → Int32} {N : Nat → Nat} (v : MemOk K n L P r B F N) : ∀ i, i < n → Ok K (B i) := v.2.2.1
theorem MemOk.yr {K : Int} {n L : Nat} {P : Int32 → Prop} {r : Bk} {B : Nat → Bk} {F : Nat → Nat → Int32} {N : Nat → Nat} (v : MemOk K n L P r B F N) : ∀ i, i < n → F 4 i = B i 14 0 := v.2.2.2.1
theorem MemOk.num {K : Int} {n L : Nat} {P : Int32 → Prop} {r : Bk} {B : Nat → Bk} {F : Nat → Nat → Int32} {N : Nat → Nat} (v : MemOk K n L P r B F N) : ∀ i, i < n → F 6 i = nI (N i) ∧ N i < L := v.2.2.2.2.1
theorem MemOk.inc {K : Int} {n L : Nat} {P : Int32 → Prop} {r : Bk} {B : Nat → Bk} {F : Nat → Nat → Int32} {N : Nat → Nat} (v : MemOk K n L P r B F N) : ∀ i j, i < j → j < n → N i < N j := v.2.2.2.2.2.1
theorem MemOk.k10 {K : Int} {n L : Nat} {P : Int32 → Prop} {r : Bk} {B : Nat → Bk} {F : Nat → Nat → Int32} {N : Nat → Nat} (v : MemOk K n L P r B F N) : ∀ j, j < n → F 0 j = 10 → ∃ M, M < N j ∧ F 1 j = nI M := v.2.2.2.2.2.2.1
theorem MemOk.unq {K : Int} {n L : Nat} {P : Int32 → Prop} {r : Bk} {B : Nat → Bk} {F : Nat → Nat → Int32} {N : Nat → Nat} (v : MemOk K n L P r B F N) : ∀ i j, i < n → j < n → F 0 i = 10 → F 0 j = 10 → F 1 i = F 1 j → i = j := v.2.2.2.2.2.2.2.1
theorem MemOk.rev {K : Int} {n L : Nat} {P : Int32 → Prop} {r : Bk} {B : Nat → Bk} {F : Nat → Nat → Int32} {N : Nat → Nat} (v : MemOk K n L P r B F N) : ∀ i, i < n → (F 5 i = 1 ↔ ((∃ j, j < n ∧ F 0 j = 10 ∧ F 1 j = F 6 i) ∨ P (F 6 i))) := v.2.2.2.2.2.2.2.2.1
theorem MemOk.k8 {K : Int} {n L : Nat} {P : Int32 → Prop} {r : Bk} {B : Nat → Bk} {F : Nat → Nat → Int32} {N : Nat → Nat} (v : MemOk K n L P r B F N) : ∀ i, i < n → F 0 i = 8 → F 1 i ≠ F 2 i ∧ p_amt (F 3 i) ∧ has2 F i r ∧ ∀ j, i < j → j < n → has2 F i (B j) := v.2.2.2.2.2.2.2.2.2.1
theorem MemOk.k5 {K : Int} {n L : Nat} {P : Int32 → Prop} {r : Bk} {B : Nat → Bk} {F : Nat → Nat → Int32} {N : Nat → Nat} (v : MemOk K n L P r B F N) : ∀ i, i < n → F 0 i = 5 → p_hasC r (F 1 i) ∧ ∀ j, i < j → j < n → p_hasC (B j) (F 1 i) := v.2.2.2.2.2.2.2.2.2.2
theorem MemOk.mk1 {K : Int} {n L : Nat} {P : Int32 → Prop} {r : Bk} {B : Nat → Bk} {F : Nat → Nat → Int32} {N : Nat → Nat} (hL0 : L ≤ 1000) (ok0 : Ok K r) (okB0 : ∀ i, i < n → Ok K (B i)) (yr0 : ∀ i, i < n → F 4 i = B i 14 0) (num0 : ∀ i, i < n → F 6 i = nI (N i) ∧ N i < L) (inc0 : ∀ i j, i < j → j < n → N i < N j) (k100 : ∀ j, j < n → F 0 j = 10 → ∃ M, M < N j ∧ F 1 j = nI M) (unq0 : ∀ i j, i < n → j < n → F 0 i = 10 → F 0 j = 10 → F 1 i = F 1 j → i = j) (rev0 : ∀ i, i < n → (F 5 i = 1 ↔ ((∃ j, j < n ∧ F 0 j = 10 ∧ F 1 j = F 6 i) ∨ P (F 6 i)))) (k80 : ∀ i, i < n → F 0 i = 8 → F 1 i ≠ F 2 i ∧ p_amt (F 3 i) ∧ has2 F i r ∧ ∀ j, i < j → j < n → has2 F i (B j)) (k50 : ∀ i, i < n → F 0 i = 5 → p_hasC r (F 1 i) ∧ ∀ j, i < j → j < n → p_hasC (B j) (F 1 i)) : MemOk K n L P r B F N := ⟨hL0, ok0, okB0, yr0, num0, inc0, k100, unq0, rev0, k80, k50⟩
section
variable {K : Int} {n L : Nat} {P : Int32 → Prop} {r r' : Bk} {B : Nat → Bk} {F : Nat → Nat → Int32} {N : Nat → Nat}
theorem MemOk.drop (v : MemOk K (n + 1) L P r B F N) : MemOk K n L P r (fun i => B (i + 1)) (fun f i => F f (i + 1)) (fun i => N (i + 1)) := MemOk.mk1
  (hL0 := v.hL)
  (ok0 := v.ok)
  (okB0 := fun i h => v.okB (i + 1) (by omega))
  (yr0 := fun i h => v.yr (i + 1) (by omega))
  (num0 := fun i h => v.num (i + 1) (by omega))
  (inc0 := fun i j h1 h2 => v.inc (i + 1) (j + 1) (by omega) (by omega))
  (k100 := fun j h => v.k10 (j + 1) (by omega))
  (unq0 := fun i j h1 h2 h3 h4 h5 => by have := v.unq (i + 1) (j + 1) (by omega) (by omega) h3 h4 h5; omega)
  (rev0 := fun i h => by
    rw [v.rev (i + 1) (by omega)]
    constructor
    · rintro (⟨j, h1, h2, h3⟩ | h1)
      · refine Or.inl ?_
        obtain ⟨M, m1, m2⟩ := v.k10 j h1 h2
        have n1 := v.num (i + 1) (by omega)
        have n2 := v.num j h1
        have hl := v.hL
        have e : M = N (i + 1) := by
          rw [m2, n1.1] at h3
          exact (nI_eq (by omega) (by omega)).mp h3
        have j0 : j ≠ 0 := by
          intro z
          subst z
          have := v.inc 0 (i + 1) (by omega) (by omega)
          omega
        refine ⟨j - 1, by omega, ?_, ?_⟩
        · rw [show j - 1 + 1 = j by omega]
          exact h2
        · rw [show j - 1 + 1 = j by omega]
          exact h3
      · exact Or.inr h1
    · rintro (⟨j, h1, h2, h3⟩ | h1)
      · exact Or.inl ⟨j + 1, by omega, h2, h3⟩
      · exact Or.inr h1)
  (k80 := fun i h e => by
    have w := v.k8 (i + 1) (by omega) e
    exact ⟨w.1, w.2.1, w.2.2.1, fun j h1 h2 => w.2.2.2 (j + 1) (by omega) (by omega)⟩)
  (k50 := fun i h e => by
    have w := v.k5 (i + 1) (by omega) e
    exact ⟨w.1, fun j h1 h2 => w.2 (j + 1) (by omega) (by omega)⟩)
theorem pB_n : pB B n r n = r := if_pos rfl
theorem pB_o {i : Nat} (h : i ≠ n) : pB B n r i = B i := if_neg h
theorem pF_n {v : Nat → Int32} {f : Nat} : pF F n v f n = v f := if_pos rfl
theorem pF_o {v : Nat → Int32} {f i : Nat} (h : i ≠ n) : pF F n v f i = F f i := if_neg h
theorem pN_n : pN N n L n = L := if_pos rfl
theorem pN_o {i : Nat} (h : i ≠ n) : pN N n L i = N i := if_neg h
/-- one more deed -/
theorem MemOk.push (v : MemOk K n L P r B F N) {k o1 o2 a : Int32} (hL : L + 1 ≤ 1000) (ok : Ok (K + 100000) r') (le : le_bk r r')
  (c8 : k = 8 → o1 ≠ o2 ∧ p_amt a ∧ p_has r' o1 ∧ p_has r' o2) (c5 : k = 5 → p_hasC r' o1)
  (c10 : k = 10 → (∃ M, M < L ∧ o1 = nI M) ∧ (∀ j, j < n → F 0 j = 10 → F 1 j ≠ o1) ∧ ∀ x, P x ↔ x = o1) (cP : k ≠ 10 → ∀ x, ¬ P x) :
  MemOk (K + 100000) (n + 1) (L + 1) (fun _ => False) r' (pB B n r) (pF F n (vF k o1 o2 a (r 14 0) (nI L))) (pN N n L) := MemOk.mk1
  (hL0 := hL)
  (ok0 := ok)
  (okB0 := fun i h => by
    by_cases z : i = n
    · subst z
      rw [pB_n]
      exact Ok_mono (by omega) ok.B.2 v.ok
    · rw [pB_o z]
      exact Ok_mono (by omega) ok.B.2 (v.okB i (by omega)))
  (yr0 := fun i h => by
    by_cases z : i = n
    · subst z
      rw [pB_n, pF_n]
      rfl
    · rw [pB_o z, pF_o z]
      exact v.yr i (by omega))
  (num0 := fun i h => by
    by_cases z : i = n
    · subst z
      rw [pF_n, pN_n]
      exact ⟨rfl, by omega⟩
    · rw [pF_o z, pN_o z]
      have := v.num i (by omega)
      exact ⟨this.1, by omega⟩)
  (inc0 := fun i j h1 h2 => by
    rw [pN_o (show i ≠ n by omega)]
    by_cases z : j = n
    · subst z
      rw [pN_n]
      exact (v.num i (by omega)).2
    · rw [pN_o z]
      exact v.inc i j h1 (by omega))
  (k100 := fun j h e => by
    by_cases z : j = n
    · subst z
      rw [pF_n] at e ⊢
      rw [pN_n]
      exact (c10 e).1
    · rw [pF_o z] at e ⊢
      rw [pN_o z]
      exact v.k10 j (by omega) e)
  (unq0 := fun i j h1 h2 e1 e2 e3 => by
    by_cases z : i = n
    · by_cases y : j = n
      · omega
      · subst z
        rw [pF_n] at e1 e3
        rw [pF_o y] at e2 e3
        exact absurd e3.symm ((c10 e1).2.1 j (by omega) e2)
    · by_cases y : j = n
      · subst y
        rw [pF_n] at e2 e3
        rw [pF_o z] at e1 e3
        exact absurd e3 ((c10 e2).2.1 i (by omega) e1)
      · rw [pF_o z] at e1 e3
        rw [pF_o y] at e2 e3
        exact v.unq i j (by omega) (by omega) e1 e2 e3)
  (rev0 := fun i h => by
    by_cases z : i = n
    · subst z
      rw [pF_n, pF_n]
      refine ⟨fun y => absurd y (show ¬ (0 : Int32) = 1 by decide), ?_⟩
      rintro (⟨j, h1, h2, h3⟩ | h1)
      · exfalso
        have hl := v.hL
        by_cases y : j = i
        · subst y
          rw [pF_n] at h2 h3
          obtain ⟨M, m1, m2⟩ := (c10 h2).1
          have h4 : o1 = nI L := h3
          rw [m2] at h4
          have := (nI_eq (by omega) (by omega)).mp h4
          omega
        · rw [pF_o y] at h2 h3
          obtain ⟨M, m1, m2⟩ := v.k10 j (by omega) h2
          have h4 : F 1 j = nI L := h3
          rw [m2] at h4
          have h5 := v.num j (by omega)
          have := (nI_eq (by omega) (by omega)).mp h4
          omega
      · exact h1.elim
    · rw [pF_o z, pF_o z, v.rev i (by omega)]
      constructor
      · rintro (⟨j, h1, h2, h3⟩ | h1)
        · exact Or.inl ⟨j, by omega, by rw [pF_o (show j ≠ n by omega)]; exact h2, by rw [pF_o (show j ≠ n by omega)]; exact h3⟩
        · by_cases y : k = 10
          · exact Or.inl ⟨n, by omega, by rw [pF_n]; exact y, by rw [pF_n]; exact (((c10 y).2.2 _).mp h1).symm⟩
          · exact absurd h1 (cP y _)
      · rintro (⟨j, h1, h2, h3⟩ | h1)
        · by_cases y : j = n
          · subst y
            rw [pF_n] at h2 h3
            exact Or.inr (((c10 h2).2.2 _).mpr h3.symm)
          · rw [pF_o y] at h2 h3
            exact Or.inl ⟨j, by omega, h2, h3⟩
        · exact h1.elim)
  (k80 := fun i h e => by
    by_cases z : i = n
    · subst z
      rw [pF_n] at e
      have w := c8 e
      unfold has2
      simp only [pF_n]
      exact ⟨w.1, w.2.1, ⟨w.2.2.1, w.2.2.2⟩, fun j h1 h2 => by omega⟩
    · rw [pF_o z] at e
      have w := v.k8 i (by omega) e
      unfold has2 at w ⊢
      simp only [pF_o z]
      refine ⟨w.1, w.2.1, ⟨le_has le w.2.2.1.1, le_has le w.2.2.1.2⟩, fun j h1 h2 => ?_⟩
      by_cases y : j = n
      · subst y
        rw [pB_n]
        exact w.2.2.1
      · rw [pB_o y]
        exact w.2.2.2 j h1 (by omega))
  (k50 := fun i h e => by
    by_cases z : i = n
    · subst z
      rw [pF_n] at e
      rw [pF_n]
      exact ⟨c5 e, fun j h1 h2 => by omega⟩
    · rw [pF_o z] at e
      have w := v.k5 i (by omega) e
      rw [pF_o z]
      refine ⟨le_hasC le w.1, fun j h1 h2 => ?_⟩
      by_cases y : j = n
      · subst y
        rw [pB_n]
        exact w.1
      · rw [pB_o y]
        exact w.2 j h1 (by omega))
/-- a deed is marked as revoked -/
def mF (F : Nat → Nat → Int32) (z : Nat) : Nat → Nat → Int32 := fun f i => if f = 5 ∧ i = z then 1 else F f i
theorem mF_o {f i z : Nat} (h : f ≠ 5) : mF F z f i = F f i := if_neg (fun w => h w.1)
theorem mF_n {i z : Nat} (h : i ≠ z) : mF F z 5 i = F 5 i := if_neg (fun w => h w.2)
theorem mF_z {z : Nat} : mF F z 5 z = 1 := if_pos ⟨rfl, rfl⟩
theorem MemOk.mark (v : MemOk K n L (fun _ => False) r B F N) {z : Nat} (hz : z < n) : MemOk K n L (fun x => x = F 6 z) r B (mF F z) N := MemOk.mk1
  (hL0 := v.hL)
  (ok0 := v.ok)
  (okB0 := v.okB)
  (yr0 := fun i h => by rw [mF_o (by omega)]; exact v.yr i h)
  (num0 := fun i h => by rw [mF_o (by omega)]; exact v.num i h)
  (inc0 := v.inc)
  (k100 := fun j h e => by rw [mF_o (by omega)] at e ⊢; exact v.k10 j h e)
  (unq0 := fun i j h1 h2 e1 e2 e3 => by rw [mF_o (by omega)] at e1 e2 e3; rw [mF_o (by omega)] at e3; exact v.unq i j h1 h2 e1 e2 e3)
  (rev0 := fun i h => by
    have hl := v.hL
    simp only [mF_o (F := F) (z := z) (show (0 : Nat) ≠ 5 by omega), mF_o (F := F) (z := z) (show (1 : Nat) ≠ 5 by omega), mF_o (F := F) (z := z) (show (6 : Nat) ≠ 5 by omega)]
    by_cases y : i = z
    · subst y
      rw [mF_z]
      exact ⟨fun _ => Or.inr rfl, fun _ => rfl⟩
    · rw [mF_n y, v.rev i h]
      constructor
      · rintro (w | w)
        · exact Or.inl w
        · exact w.elim
      · rintro (w | w)
        · exact Or.inl w
        · exfalso
          have n1 := v.num i h
          have n2 := v.num z hz
          rw [n1.1, n2.1] at w
          have e := (nI_eq (by omega) (by omega)).mp w
          rcases Nat.lt_trichotomy i z with q | q | q
          · have := v.inc i z q hz
            omega
          · exact y q
          · have := v.inc z i q h
            omega)
  (k80 := fun i h e => by
    unfold has2
    simp only [mF_o (F := F) (z := z) (show (0 : Nat) ≠ 5 by omega), mF_o (F := F) (z := z) (show (1 : Nat) ≠ 5 by omega), mF_o (F := F) (z := z) (show (2 : Nat) ≠ 5 by omega), mF_o (F := F) (z := z) (show (3 : Nat) ≠ 5 by omega)] at e ⊢
    exact v.k8 i h e)
  (k50 := fun i h e => by
    simp only [mF_o (F := F) (z := z) (show (0 : Nat) ≠ 5 by omega), mF_o (F := F) (z := z) (show (1 : Nat) ≠ 5 by omega)] at e ⊢
    exact v.k5 i h e)
/-- the latest deed undone -/
def uF (F : Nat → Nat → Int32) (n : Nat) : Nat → Nat → Int32 := fun f i => if f = 5 ∧ F 0 n = 10 ∧ F 6 i = F 1 n then 0 else F f i
theorem uF_o {f i : Nat} (h : f ≠ 5) : uF F n f i = F f i := if_neg (fun w => h w.1)
theorem MemOk.undo (v : MemOk K (n + 1) L (fun _ => False) r B F N) : MemOk K n L (fun _ => False) (B n) B (uF F n) N := MemOk.mk1
  (hL0 := v.hL)
  (ok0 := v.okB n (by omega))
  (okB0 := fun i h => v.okB i (by omega))
  (yr0 := fun i h => by rw [uF_o (by omega)]; exact v.yr i (by omega))
  (num0 := fun i h => by rw [uF_o (by omega)]; exact v.num i (by omega))
  (inc0 := fun i j h1 h2 => v.inc i j h1 (by omega))
  (k100 := fun j h e => by rw [uF_o (by omega)] at e ⊢; exact v.k10 j (by omega) e)
  (unq0 := fun i j h1 h2 e1 e2 e3 => by rw [uF_o (by omega)] at e1 e2 e3; rw [uF_o (by omega)] at e3; exact v.unq i j (by omega) (by omega) e1 e2 e3)
  (rev0 := fun i h => by
    simp only [uF_o (F := F) (n := n) (show (0 : Nat) ≠ 5 by omega), uF_o (F := F) (n := n) (show (1 : Nat) ≠ 5 by omega), uF_o (F := F) (n := n) (show (6 : Nat) ≠ 5 by omega)]
    by_cases c : F 0 n = 10 ∧ F 6 i = F 1 n
    · rw [show uF F n 5 i = 0 from if_pos ⟨rfl, c⟩]
      refine ⟨fun y => absurd y (by decide), ?_⟩
      rintro (⟨j, h1, h2, h3⟩ | w)
      · exfalso
        have := v.unq j n (by omega) (by omega) h2 c.1 (by rw [h3, c.2])
        omega
      · exact w.elim
    · rw [show uF F n 5 i = F 5 i from if_neg (fun w => c w.2), v.rev i (by omega)]
      constructor
      · rintro (⟨j, h1, h2, h3⟩ | w)
        · by_cases y : j = n
          · subst y
            exact absurd ⟨h2, h3.symm⟩ c
          · exact Or.inl ⟨j, by omega, h2, h3⟩
        · exact w.elim
      · rintro (⟨j, h1, h2, h3⟩ | w)
        · exact Or.inl ⟨j, by omega, h2, h3⟩
        · exact w.elim)
  (k80 := fun i h e => by
    unfold has2
    simp only [uF_o (F := F) (n := n) (show (0 : Nat) ≠ 5 by omega), uF_o (F := F) (n := n) (show (1 : Nat) ≠ 5 by omega), uF_o (F := F) (n := n) (show (2 : Nat) ≠ 5 by omega), uF_o (F := F) (n := n) (show (3 : Nat) ≠ 5 by omega)] at e ⊢
    have w := v.k8 i (by omega) e
    exact ⟨w.1, w.2.1, w.2.2.2 n h (by omega), fun j h1 h2 => w.2.2.2 j h1 (by omega)⟩)
  (k50 := fun i h e => by
    simp only [uF_o (F := F) (n := n) (show (0 : Nat) ≠ 5 by omega), uF_o (F := F) (n := n) (show (1 : Nat) ≠ 5 by omega)] at e ⊢
    have w := v.k5 i (by omega) e
    exact ⟨w.2 n h (by omega), fun j h1 h2 => w.2 j h1 (by omega)⟩)
theorem MemOk.mono {K' : Int} (hK : K ≤ K') (hB : K' ≤ 60000000) (v : MemOk K n L P r B F N) : MemOk K' n L P r B F N :=
  ⟨v.hL, Ok_mono hK hB v.ok, fun i h => Ok_mono hK hB (v.okB i h), v.yr, v.num, v.inc, v.k10, v.unq, v.rev, v.k8, v.k5⟩
end
