/-! THE WORLDS. A state of the class: X g f i (g 0..12 the books, now and before each of the 12 places; f 0..8 the heads' columns as the reference numbers them, 9 depths, 10..13 the commitments' columns, 14 the numbers: 0 year, 1 heads, 2 commitments, 3 carried, 4 lapsed, 5 spent; group 13: the deeds (f: 0 number 1 kind 2 subject 3 taker 4 amount, i the place); group 14: X 14 0: 0 oldest 1 held 2 latestNumber). A state of the reference: the same groups 0..12 (its row's parts), 13: its seven arrays, 14: deeds, deedNumber. -/
abbrev St : Type := Nat → Nat → Nat → Int32
abbrev Bk : Type := Nat → Nat → Int32
def b2 (r : Bk) (f i : Nat) (v : Int32) : Bk := fun b c => if b = f ∧ c = i then v else r b c
def u3 (X : St) (g f i : Nat) (v : Int32) : St := fun a => if a = g then b2 (X a) f i v else X a
/-- the book g becomes r -/
def sg (X : St) (g : Nat) (r : Bk) : St := fun a => if a = g then r else X a
def qv (r : Bk) (f : Nat) (h : Int32) : Int32 := r f h.toNatClampNeg
theorem u3_g (X : St) (g f i : Nat) (v : Int32) : u3 X g f i v g = b2 (X g) f i v := by simp [u3]
theorem u3_n (X : St) (g f i : Nat) (v : Int32) {a : Nat} (h : a ≠ g) : u3 X g f i v a = X a := by simp [u3, h]
theorem u3_sg (X : St) (g f i : Nat) (v : Int32) : u3 X g f i v = sg X g (b2 (X g) f i v) := by funext a; unfold u3 sg; by_cases h : a = g <;> simp [h]
theorem sg_g (X : St) (g : Nat) (r : Bk) : sg X g r g = r := by simp [sg]
theorem sg_n (X : St) (g : Nat) (r : Bk) {a : Nat} (h : a ≠ g) : sg X g r a = X a := by simp [sg, h]
theorem sg_sg (X : St) (g : Nat) (r r2 : Bk) : sg (sg X g r) g r2 = sg X g r2 := by funext a; unfold sg; by_cases h : a = g <;> simp [h]
theorem sg_self (X : St) (g : Nat) : sg X g (X g) = X := by funext a; unfold sg; by_cases h : a = g <;> simp [h]
theorem b2_s (r : Bk) (f i : Nat) (v : Int32) : b2 r f i v f i = v := by simp [b2]
theorem b2_nf (r : Bk) (f i : Nat) (v : Int32) {b c : Nat} (h : b ≠ f) : b2 r f i v b c = r b c := by simp [b2, h]
theorem b2_ni (r : Bk) (f i : Nat) (v : Int32) {b c : Nat} (h : c ≠ i) : b2 r f i v b c = r b c := by simp [b2, h]
theorem b2_col (r : Bk) (f i : Nat) (v : Int32) : b2 r f i v f = upd (r f) i v := by funext c; simp [b2, upd]
theorem b2_coln (r : Bk) (f i : Nat) (v : Int32) {b : Nat} (h : b ≠ f) : b2 r f i v b = r b := by funext c; simp [b2, h]

def bkE (cI : ClassId) (ad : Nat → Nat) (g : Nat) (r : Bk) (j : Nat) : va_E := match j with
  | 0 => .inr (0, [.ref (ad (17 * g + 1)), .ref (ad (17 * g + 12)), .int (r 14 0), .int (r 14 3), .int (r 14 4), .int (r 14 5)])
  | 1 => .inr (3, [.ref (ad (17 * g + 2)), .ref (ad (17 * g + 3)), .ref (ad (17 * g + 4)), .ref (ad (17 * g + 5)), .ref (ad (17 * g + 6)), .ref (ad (17 * g + 7)), .ref (ad (17 * g + 8)), .ref (ad (17 * g + 9)), .ref (ad (17 * g + 10)), .ref (ad (17 * g + 11)), .int (r 14 1)])
  | 2 => .inl (cI, 20, .inl (r 0))
  | 3 => .inl (cI, 20, .inl (r 9))
  | 4 => .inl (cI, 20, .inl (r 1))
  | 5 => .inl (cI, 20, .inl (r 2))
  | 6 => .inl (cI, 20, .inl (r 3))
  | 7 => .inl (cI, 20, .inl (r 4))
  | 8 => .inl (cI, 20, .inl (r 5))
  | 9 => .inl (cI, 20, .inl (r 6))
  | 10 => .inl (cI, 20, .inl (r 7))
  | 11 => .inl (cI, 20, .inl (r 8))
  | 12 => .inr (1, [.ref (ad (17 * g + 13)), .ref (ad (17 * g + 14)), .ref (ad (17 * g + 15)), .ref (ad (17 * g + 16)), .int (r 14 2)])
  | 13 => .inl (cI, 40, .inl (r 10))
  | 14 => .inl (cI, 40, .inl (r 11))
  | 15 => .inl (cI, 40, .inl (r 12))
  | _ => .inl (cI, 40, .inl (r 13))
def deE (ad : Nat → Nat) (d : Bk) (i : Nat) : va_E := .inr (2, [.ref (ad (17 * (i + 1))), .int (d 0 i), .int (d 1 i), .int (d 2 i), .int (d 3 i), .int (d 4 i)])
def cellC (cI cR : ClassId) (ad : Nat → Nat) (X : St) (g j : Nat) : va_E := if g < 13 then bkE cI ad g (X g) j else if j = 12 then .inr (5, [.ref (ad 0), .ref (ad 234)]) else if j = 13 then .inr (4, [.ref (ad 235), .int (X 14 0 0), .int (X 14 0 1), .int (X 14 0 2)]) else if j = 14 then .inl (cR, 12, .inr (.inr (.inr (.inr (fun i => some (ad (221 + i))))))) else deE ad (X 13) j
def wC (cI cR : ClassId) (ad : Nat → Nat) (X : St) : va_W := (List.range 236).map (fun k => (ad k, cellC cI cR ad X (k / 17) (k % 17)))
section
variable {cI cR : ClassId} {ad : Nat → Nat} {X : St}
theorem wC_get {g j k : Nat} (hk : k = 17 * g + j) (hj : j < 17) (h : k < 236) : (wC cI cR ad X)[k]? = some (ad k, cellC cI cR ad X g j) := by
  subst hk
  unfold wC
  rw [List.getElem?_map, List.getElem?_range h]
  show some (ad (17 * g + j), cellC cI cR ad X ((17 * g + j) / 17) ((17 * g + j) % 17)) = _
  rw [show (17 * g + j) / 17 = g by omega, show (17 * g + j) % 17 = j by omega]
theorem wC_bk {g j k : Nat} (hg : g < 13) (hk : k = 17 * g + j) (hj : j < 17) : (wC cI cR ad X)[k]? = some (ad k, bkE cI ad g (X g) j) := by
  rw [wC_get hk hj (by omega)]
  unfold cellC
  rw [if_pos hg]
theorem wC_de {i k : Nat} (hi : i < 12) (hk : k = 221 + i) : (wC cI cR ad X)[k]? = some (ad k, deE ad (X 13) i) := by
  rw [wC_get (g := 13) (j := i) (by omega) (by omega) (by omega)]
  unfold cellC
  rw [if_neg (by omega), if_neg (by omega), if_neg (by omega), if_neg (by omega)]
theorem wC_len : (wC cI cR ad X).length = 236 := by simp [wC]
theorem wC_set {g j k : Nat} {X' : St} {e : va_E} (hk : k = 17 * g + j) (hj : j < 17) (h : k < 236) (he : cellC cI cR ad X' g j = e) (ho : ∀ a b : Nat, b < 17 → 17 * a + b < 236 → ¬ (a = g ∧ b = j) → cellC cI cR ad X' a b = cellC cI cR ad X a b) : (wC cI cR ad X).set k (ad k, e) = wC cI cR ad X' := by
  apply List.ext_getElem?
  intro n
  rw [List.getElem?_set]
  by_cases e1 : k = n
  · rw [if_pos e1, ← e1, if_pos (by rw [wC_len]; exact h), wC_get (X := X') hk hj h, he]
  · rw [if_neg e1]
    unfold wC
    rw [List.getElem?_map, List.getElem?_map]
    by_cases e2 : n < 236
    · rw [List.getElem?_range e2]
      show some (ad n, _) = some (ad n, _)
      rw [ho (n / 17) (n % 17) (by omega) (by omega) (fun z => e1 (by omega))]
    · rw [List.getElem?_eq_none (by simp; omega)]
      rfl
/-- which column of a book a cell shows -/
def jc (j : Nat) : Nat := match j with
  | 0 => 14 | 1 => 14 | 2 => 0 | 3 => 9 | 4 => 1 | 5 => 2 | 6 => 3 | 7 => 4 | 8 => 5 | 9 => 6 | 10 => 7 | 11 => 8 | 12 => 14 | 13 => 10 | 14 => 11 | 15 => 12 | _ => 13
theorem bkE_same {g : Nat} {r r' : Bk} {j : Nat} (hj : j < 17) (h : r' (jc j) = r (jc j)) : bkE cI ad g r' j = bkE cI ad g r j := by
  rcases (show j = 0 ∨ j = 1 ∨ j = 2 ∨ j = 3 ∨ j = 4 ∨ j = 5 ∨ j = 6 ∨ j = 7 ∨ j = 8 ∨ j = 9 ∨ j = 10 ∨ j = 11 ∨ j = 12 ∨ j = 13 ∨ j = 14 ∨ j = 15 ∨ j = 16 by omega) with rfl | rfl | rfl | rfl | rfl | rfl | rfl | rfl | rfl | rfl | rfl | rfl | rfl | rfl | rfl | rfl | rfl <;> (simp only [jc] at h; simp only [bkE, h])
/-- a write into a books' column -/
theorem wC_col {g j k f i : Nat} {v : Int32} {n : Nat} (hg : g < 13) (hk : k = 17 * g + j) (hj : j < 17) (he : ∀ r : Bk, bkE cI ad g r j = .inl (cI, n, .inl (r f))) (ho : ∀ r r' : Bk, (∀ b, b ≠ f → r' b = r b) → ∀ b : Nat, b < 17 → b ≠ j → bkE cI ad g r' b = bkE cI ad g r b) : (wC cI cR ad X).set k (ad k, .inl (cI, n, .inl (upd (X g f) i v))) = wC cI cR ad (u3 X g f i v) := by
  refine wC_set hk hj (by omega) ?_ ?_
  · unfold cellC
    rw [if_pos hg, he, u3_g, b2_col]
  · intro a b hb hab hne
    unfold cellC
    by_cases ha : a = g
    · subst ha
      rw [if_pos hg, if_pos hg, u3_g]
      exact ho _ _ (fun c hc => b2_coln _ _ _ _ hc) b hb (fun z => hne ⟨rfl, z⟩)
    · by_cases ha2 : a < 13
      · rw [if_pos ha2, if_pos ha2, u3_n _ _ _ _ _ ha]
      · rw [if_neg ha2, if_neg ha2, u3_n X g f i v (a := 14) (by omega), u3_n X g f i v (a := 13) (by omega)]
/-- a write of a books' number -/
theorem wC_num {g j k i : Nat} {v : Int32} {e : va_E} (hg : g < 13) (hk : k = 17 * g + j) (hj : j < 17) (he : bkE cI ad g (b2 (X g) 14 i v) j = e) (ho : ∀ b : Nat, b < 17 → b ≠ j → bkE cI ad g (b2 (X g) 14 i v) b = bkE cI ad g (X g) b) : (wC cI cR ad X).set k (ad k, e) = wC cI cR ad (u3 X g 14 i v) := by
  refine wC_set hk hj (by omega) ?_ ?_
  · unfold cellC
    rw [if_pos hg, u3_g, he]
  · intro a b hb hab hne
    unfold cellC
    by_cases ha : a = g
    · subst ha
      rw [if_pos hg, if_pos hg, u3_g]
      exact ho b hb (fun z => hne ⟨rfl, z⟩)
    · by_cases ha2 : a < 13
      · rw [if_pos ha2, if_pos ha2, u3_n _ _ _ _ _ ha]
      · rw [if_neg ha2, if_neg ha2, u3_n X g 14 i v (a := 14) (by omega), u3_n X g 14 i v (a := 13) (by omega)]

theorem g0_0 : (wC cI cR ad X)[0]? = some (ad 0, .inr (0, [.ref (ad 1), .ref (ad 12), .int (X 0 14 0), .int (X 0 14 3), .int (X 0 14 4), .int (X 0 14 5)])) := wC_bk (g := 0) (j := 0) (by omega) rfl (by omega)
theorem gg_0 {g : Nat} (hg : g < 13) : (wC cI cR ad X)[17 * g + 0]? = some (ad (17 * g + 0), .inr (0, [.ref (ad (17 * g + 1)), .ref (ad (17 * g + 12)), .int (X g 14 0), .int (X g 14 3), .int (X g 14 4), .int (X g 14 5)])) := wC_bk hg rfl (by omega)
theorem g0_1 : (wC cI cR ad X)[1]? = some (ad 1, .inr (3, [.ref (ad 2), .ref (ad 3), .ref (ad 4), .ref (ad 5), .ref (ad 6), .ref (ad 7), .ref (ad 8), .ref (ad 9), .ref (ad 10), .ref (ad 11), .int (X 0 14 1)])) := wC_bk (g := 0) (j := 1) (by omega) rfl (by omega)
theorem gg_1 {g : Nat} (hg : g < 13) : (wC cI cR ad X)[17 * g + 1]? = some (ad (17 * g + 1), .inr (3, [.ref (ad (17 * g + 2)), .ref (ad (17 * g + 3)), .ref (ad (17 * g + 4)), .ref (ad (17 * g + 5)), .ref (ad (17 * g + 6)), .ref (ad (17 * g + 7)), .ref (ad (17 * g + 8)), .ref (ad (17 * g + 9)), .ref (ad (17 * g + 10)), .ref (ad (17 * g + 11)), .int (X g 14 1)])) := wC_bk hg rfl (by omega)
theorem g0_2 : (wC cI cR ad X)[2]? = some (ad 2, .inl (cI, 20, .inl (X 0 0))) := wC_bk (g := 0) (j := 2) (by omega) rfl (by omega)
theorem gg_2 {g : Nat} (hg : g < 13) : (wC cI cR ad X)[17 * g + 2]? = some (ad (17 * g + 2), .inl (cI, 20, .inl (X g 0))) := wC_bk hg rfl (by omega)
theorem g0_3 : (wC cI cR ad X)[3]? = some (ad 3, .inl (cI, 20, .inl (X 0 9))) := wC_bk (g := 0) (j := 3) (by omega) rfl (by omega)
theorem gg_3 {g : Nat} (hg : g < 13) : (wC cI cR ad X)[17 * g + 3]? = some (ad (17 * g + 3), .inl (cI, 20, .inl (X g 9))) := wC_bk hg rfl (by omega)
theorem g0_4 : (wC cI cR ad X)[4]? = some (ad 4, .inl (cI, 20, .inl (X 0 1))) := wC_bk (g := 0) (j := 4) (by omega) rfl (by omega)
theorem gg_4 {g : Nat} (hg : g < 13) : (wC cI cR ad X)[17 * g + 4]? = some (ad (17 * g + 4), .inl (cI, 20, .inl (X g 1))) := wC_bk hg rfl (by omega)
theorem g0_5 : (wC cI cR ad X)[5]? = some (ad 5, .inl (cI, 20, .inl (X 0 2))) := wC_bk (g := 0) (j := 5) (by omega) rfl (by omega)
theorem gg_5 {g : Nat} (hg : g < 13) : (wC cI cR ad X)[17 * g + 5]? = some (ad (17 * g + 5), .inl (cI, 20, .inl (X g 2))) := wC_bk hg rfl (by omega)
theorem g0_6 : (wC cI cR ad X)[6]? = some (ad 6, .inl (cI, 20, .inl (X 0 3))) := wC_bk (g := 0) (j := 6) (by omega) rfl (by omega)
theorem gg_6 {g : Nat} (hg : g < 13) : (wC cI cR ad X)[17 * g + 6]? = some (ad (17 * g + 6), .inl (cI, 20, .inl (X g 3))) := wC_bk hg rfl (by omega)
theorem g0_7 : (wC cI cR ad X)[7]? = some (ad 7, .inl (cI, 20, .inl (X 0 4))) := wC_bk (g := 0) (j := 7) (by omega) rfl (by omega)
theorem gg_7 {g : Nat} (hg : g < 13) : (wC cI cR ad X)[17 * g + 7]? = some (ad (17 * g + 7), .inl (cI, 20, .inl (X g 4))) := wC_bk hg rfl (by omega)
theorem g0_8 : (wC cI cR ad X)[8]? = some (ad 8, .inl (cI, 20, .inl (X 0 5))) := wC_bk (g := 0) (j := 8) (by omega) rfl (by omega)
theorem gg_8 {g : Nat} (hg : g < 13) : (wC cI cR ad X)[17 * g + 8]? = some (ad (17 * g + 8), .inl (cI, 20, .inl (X g 5))) := wC_bk hg rfl (by omega)
theorem g0_9 : (wC cI cR ad X)[9]? = some (ad 9, .inl (cI, 20, .inl (X 0 6))) := wC_bk (g := 0) (j := 9) (by omega) rfl (by omega)
theorem gg_9 {g : Nat} (hg : g < 13) : (wC cI cR ad X)[17 * g + 9]? = some (ad (17 * g + 9), .inl (cI, 20, .inl (X g 6))) := wC_bk hg rfl (by omega)
theorem g0_10 : (wC cI cR ad X)[10]? = some (ad 10, .inl (cI, 20, .inl (X 0 7))) := wC_bk (g := 0) (j := 10) (by omega) rfl (by omega)
theorem gg_10 {g : Nat} (hg : g < 13) : (wC cI cR ad X)[17 * g + 10]? = some (ad (17 * g + 10), .inl (cI, 20, .inl (X g 7))) := wC_bk hg rfl (by omega)
theorem g0_11 : (wC cI cR ad X)[11]? = some (ad 11, .inl (cI, 20, .inl (X 0 8))) := wC_bk (g := 0) (j := 11) (by omega) rfl (by omega)
theorem gg_11 {g : Nat} (hg : g < 13) : (wC cI cR ad X)[17 * g + 11]? = some (ad (17 * g + 11), .inl (cI, 20, .inl (X g 8))) := wC_bk hg rfl (by omega)
theorem g0_12 : (wC cI cR ad X)[12]? = some (ad 12, .inr (1, [.ref (ad 13), .ref (ad 14), .ref (ad 15), .ref (ad 16), .int (X 0 14 2)])) := wC_bk (g := 0) (j := 12) (by omega) rfl (by omega)
theorem gg_12 {g : Nat} (hg : g < 13) : (wC cI cR ad X)[17 * g + 12]? = some (ad (17 * g + 12), .inr (1, [.ref (ad (17 * g + 13)), .ref (ad (17 * g + 14)), .ref (ad (17 * g + 15)), .ref (ad (17 * g + 16)), .int (X g 14 2)])) := wC_bk hg rfl (by omega)
theorem g0_13 : (wC cI cR ad X)[13]? = some (ad 13, .inl (cI, 40, .inl (X 0 10))) := wC_bk (g := 0) (j := 13) (by omega) rfl (by omega)
theorem gg_13 {g : Nat} (hg : g < 13) : (wC cI cR ad X)[17 * g + 13]? = some (ad (17 * g + 13), .inl (cI, 40, .inl (X g 10))) := wC_bk hg rfl (by omega)
theorem g0_14 : (wC cI cR ad X)[14]? = some (ad 14, .inl (cI, 40, .inl (X 0 11))) := wC_bk (g := 0) (j := 14) (by omega) rfl (by omega)
theorem gg_14 {g : Nat} (hg : g < 13) : (wC cI cR ad X)[17 * g + 14]? = some (ad (17 * g + 14), .inl (cI, 40, .inl (X g 11))) := wC_bk hg rfl (by omega)
theorem g0_15 : (wC cI cR ad X)[15]? = some (ad 15, .inl (cI, 40, .inl (X 0 12))) := wC_bk (g := 0) (j := 15) (by omega) rfl (by omega)
theorem gg_15 {g : Nat} (hg : g < 13) : (wC cI cR ad X)[17 * g + 15]? = some (ad (17 * g + 15), .inl (cI, 40, .inl (X g 12))) := wC_bk hg rfl (by omega)
theorem g0_16 : (wC cI cR ad X)[16]? = some (ad 16, .inl (cI, 40, .inl (X 0 13))) := wC_bk (g := 0) (j := 16) (by omega) rfl (by omega)
theorem gg_16 {g : Nat} (hg : g < 13) : (wC cI cR ad X)[17 * g + 16]? = some (ad (17 * g + 16), .inl (cI, 40, .inl (X g 13))) := wC_bk hg rfl (by omega)
theorem g0_233 : (wC cI cR ad X)[233]? = some (ad 233, .inr (5, [.ref (ad 0), .ref (ad 234)])) := wC_get (g := 13) (j := 12) rfl (by omega) (by omega)
theorem g0_234 : (wC cI cR ad X)[234]? = some (ad 234, .inr (4, [.ref (ad 235), .int (X 14 0 0), .int (X 14 0 1), .int (X 14 0 2)])) := wC_get (g := 13) (j := 13) rfl (by omega) (by omega)
theorem g0_235 : (wC cI cR ad X)[235]? = some (ad 235, .inl (cR, 12, .inr (.inr (.inr (.inr (fun i => some (ad (221 + i)))))))) := wC_get (g := 13) (j := 14) rfl (by omega) (by omega)
theorem gd {i : Nat} (hi : i < 12) : (wC cI cR ad X)[221 + i]? = some (ad (221 + i), .inr (2, [.ref (ad (17 * (i + 1))), .int (X 13 0 i), .int (X 13 1 i), .int (X 13 2 i), .int (X 13 3 i), .int (X 13 4 i)])) := wC_de hi rfl
theorem sa_0 {g i : Nat} {v : Int32} (hg : g < 13) : (wC cI cR ad X).set (17 * g + 2) (ad (17 * g + 2), .inl (cI, 20, .inl (upd (X g 0) i v))) = wC cI cR ad (u3 X g 0 i v) := wC_col (j := 2) hg rfl (by omega) (fun _ => rfl) (fun r r2 h b hb hne => bkE_same hb (h _ (by
  rcases (show b = 0 ∨ b = 1 ∨ b = 2 ∨ b = 3 ∨ b = 4 ∨ b = 5 ∨ b = 6 ∨ b = 7 ∨ b = 8 ∨ b = 9 ∨ b = 10 ∨ b = 11 ∨ b = 12 ∨ b = 13 ∨ b = 14 ∨ b = 15 ∨ b = 16 by omega) with rfl | rfl | rfl | rfl | rfl | rfl | rfl | rfl | rfl | rfl | rfl | rfl | rfl | rfl | rfl | rfl | rfl <;> first | exact absurd rfl hne | decide)))
theorem s0_0 {i : Nat} {v : Int32} : (wC cI cR ad X).set 2 (ad 2, .inl (cI, 20, .inl (upd (X 0 0) i v))) = wC cI cR ad (u3 X 0 0 i v) := sa_0 (g := 0) (by omega)
theorem sa_1 {g i : Nat} {v : Int32} (hg : g < 13) : (wC cI cR ad X).set (17 * g + 4) (ad (17 * g + 4), .inl (cI, 20, .inl (upd (X g 1) i v))) = wC cI cR ad (u3 X g 1 i v) := wC_col (j := 4) hg rfl (by omega) (fun _ => rfl) (fun r r2 h b hb hne => bkE_same hb (h _ (by
  rcases (show b = 0 ∨ b = 1 ∨ b = 2 ∨ b = 3 ∨ b = 4 ∨ b = 5 ∨ b = 6 ∨ b = 7 ∨ b = 8 ∨ b = 9 ∨ b = 10 ∨ b = 11 ∨ b = 12 ∨ b = 13 ∨ b = 14 ∨ b = 15 ∨ b = 16 by omega) with rfl | rfl | rfl | rfl | rfl | rfl | rfl | rfl | rfl | rfl | rfl | rfl | rfl | rfl | rfl | rfl | rfl <;> first | exact absurd rfl hne | decide)))
theorem s0_1 {i : Nat} {v : Int32} : (wC cI cR ad X).set 4 (ad 4, .inl (cI, 20, .inl (upd (X 0 1) i v))) = wC cI cR ad (u3 X 0 1 i v) := sa_1 (g := 0) (by omega)
theorem sa_2 {g i : Nat} {v : Int32} (hg : g < 13) : (wC cI cR ad X).set (17 * g + 5) (ad (17 * g + 5), .inl (cI, 20, .inl (upd (X g 2) i v))) = wC cI cR ad (u3 X g 2 i v) := wC_col (j := 5) hg rfl (by omega) (fun _ => rfl) (fun r r2 h b hb hne => bkE_same hb (h _ (by
  rcases (show b = 0 ∨ b = 1 ∨ b = 2 ∨ b = 3 ∨ b = 4 ∨ b = 5 ∨ b = 6 ∨ b = 7 ∨ b = 8 ∨ b = 9 ∨ b = 10 ∨ b = 11 ∨ b = 12 ∨ b = 13 ∨ b = 14 ∨ b = 15 ∨ b = 16 by omega) with rfl | rfl | rfl | rfl | rfl | rfl | rfl | rfl | rfl | rfl | rfl | rfl | rfl | rfl | rfl | rfl | rfl <;> first | exact absurd rfl hne | decide)))
theorem s0_2 {i : Nat} {v : Int32} : (wC cI cR ad X).set 5 (ad 5, .inl (cI, 20, .inl (upd (X 0 2) i v))) = wC cI cR ad (u3 X 0 2 i v) := sa_2 (g := 0) (by omega)
theorem sa_3 {g i : Nat} {v : Int32} (hg : g < 13) : (wC cI cR ad X).set (17 * g + 6) (ad (17 * g + 6), .inl (cI, 20, .inl (upd (X g 3) i v))) = wC cI cR ad (u3 X g 3 i v) := wC_col (j := 6) hg rfl (by omega) (fun _ => rfl) (fun r r2 h b hb hne => bkE_same hb (h _ (by
  rcases (show b = 0 ∨ b = 1 ∨ b = 2 ∨ b = 3 ∨ b = 4 ∨ b = 5 ∨ b = 6 ∨ b = 7 ∨ b = 8 ∨ b = 9 ∨ b = 10 ∨ b = 11 ∨ b = 12 ∨ b = 13 ∨ b = 14 ∨ b = 15 ∨ b = 16 by omega) with rfl | rfl | rfl | rfl | rfl | rfl | rfl | rfl | rfl | rfl | rfl | rfl | rfl | rfl | rfl | rfl | rfl <;> first | exact absurd rfl hne | decide)))
theorem s0_3 {i : Nat} {v : Int32} : (wC cI cR ad X).set 6 (ad 6, .inl (cI, 20, .inl (upd (X 0 3) i v))) = wC cI cR ad (u3 X 0 3 i v) := sa_3 (g := 0) (by omega)
theorem sa_4 {g i : Nat} {v : Int32} (hg : g < 13) : (wC cI cR ad X).set (17 * g + 7) (ad (17 * g + 7), .inl (cI, 20, .inl (upd (X g 4) i v))) = wC cI cR ad (u3 X g 4 i v) := wC_col (j := 7) hg rfl (by omega) (fun _ => rfl) (fun r r2 h b hb hne => bkE_same hb (h _ (by
  rcases (show b = 0 ∨ b = 1 ∨ b = 2 ∨ b = 3 ∨ b = 4 ∨ b = 5 ∨ b = 6 ∨ b = 7 ∨ b = 8 ∨ b = 9 ∨ b = 10 ∨ b = 11 ∨ b = 12 ∨ b = 13 ∨ b = 14 ∨ b = 15 ∨ b = 16 by omega) with rfl | rfl | rfl | rfl | rfl | rfl | rfl | rfl | rfl | rfl | rfl | rfl | rfl | rfl | rfl | rfl | rfl <;> first | exact absurd rfl hne | decide)))
theorem s0_4 {i : Nat} {v : Int32} : (wC cI cR ad X).set 7 (ad 7, .inl (cI, 20, .inl (upd (X 0 4) i v))) = wC cI cR ad (u3 X 0 4 i v) := sa_4 (g := 0) (by omega)
theorem sa_5 {g i : Nat} {v : Int32} (hg : g < 13) : (wC cI cR ad X).set (17 * g + 8) (ad (17 * g + 8), .inl (cI, 20, .inl (upd (X g 5) i v))) = wC cI cR ad (u3 X g 5 i v) := wC_col (j := 8) hg rfl (by omega) (fun _ => rfl) (fun r r2 h b hb hne => bkE_same hb (h _ (by
  rcases (show b = 0 ∨ b = 1 ∨ b = 2 ∨ b = 3 ∨ b = 4 ∨ b = 5 ∨ b = 6 ∨ b = 7 ∨ b = 8 ∨ b = 9 ∨ b = 10 ∨ b = 11 ∨ b = 12 ∨ b = 13 ∨ b = 14 ∨ b = 15 ∨ b = 16 by omega) with rfl | rfl | rfl | rfl | rfl | rfl | rfl | rfl | rfl | rfl | rfl | rfl | rfl | rfl | rfl | rfl | rfl <;> first | exact absurd rfl hne | decide)))
theorem s0_5 {i : Nat} {v : Int32} : (wC cI cR ad X).set 8 (ad 8, .inl (cI, 20, .inl (upd (X 0 5) i v))) = wC cI cR ad (u3 X 0 5 i v) := sa_5 (g := 0) (by omega)
theorem sa_6 {g i : Nat} {v : Int32} (hg : g < 13) : (wC cI cR ad X).set (17 * g + 9) (ad (17 * g + 9), .inl (cI, 20, .inl (upd (X g 6) i v))) = wC cI cR ad (u3 X g 6 i v) := wC_col (j := 9) hg rfl (by omega) (fun _ => rfl) (fun r r2 h b hb hne => bkE_same hb (h _ (by
  rcases (show b = 0 ∨ b = 1 ∨ b = 2 ∨ b = 3 ∨ b = 4 ∨ b = 5 ∨ b = 6 ∨ b = 7 ∨ b = 8 ∨ b = 9 ∨ b = 10 ∨ b = 11 ∨ b = 12 ∨ b = 13 ∨ b = 14 ∨ b = 15 ∨ b = 16 by omega) with rfl | rfl | rfl | rfl | rfl | rfl | rfl | rfl | rfl | rfl | rfl | rfl | rfl | rfl | rfl | rfl | rfl <;> first | exact absurd rfl hne | decide)))
theorem s0_6 {i : Nat} {v : Int32} : (wC cI cR ad X).set 9 (ad 9, .inl (cI, 20, .inl (upd (X 0 6) i v))) = wC cI cR ad (u3 X 0 6 i v) := sa_6 (g := 0) (by omega)
theorem sa_7 {g i : Nat} {v : Int32} (hg : g < 13) : (wC cI cR ad X).set (17 * g + 10) (ad (17 * g + 10), .inl (cI, 20, .inl (upd (X g 7) i v))) = wC cI cR ad (u3 X g 7 i v) := wC_col (j := 10) hg rfl (by omega) (fun _ => rfl) (fun r r2 h b hb hne => bkE_same hb (h _ (by
  rcases (show b = 0 ∨ b = 1 ∨ b = 2 ∨ b = 3 ∨ b = 4 ∨ b = 5 ∨ b = 6 ∨ b = 7 ∨ b = 8 ∨ b = 9 ∨ b = 10 ∨ b = 11 ∨ b = 12 ∨ b = 13 ∨ b = 14 ∨ b = 15 ∨ b = 16 by omega) with rfl | rfl | rfl | rfl | rfl | rfl | rfl | rfl | rfl | rfl | rfl | rfl | rfl | rfl | rfl | rfl | rfl <;> first | exact absurd rfl hne | decide)))
theorem s0_7 {i : Nat} {v : Int32} : (wC cI cR ad X).set 10 (ad 10, .inl (cI, 20, .inl (upd (X 0 7) i v))) = wC cI cR ad (u3 X 0 7 i v) := sa_7 (g := 0) (by omega)
theorem sa_8 {g i : Nat} {v : Int32} (hg : g < 13) : (wC cI cR ad X).set (17 * g + 11) (ad (17 * g + 11), .inl (cI, 20, .inl (upd (X g 8) i v))) = wC cI cR ad (u3 X g 8 i v) := wC_col (j := 11) hg rfl (by omega) (fun _ => rfl) (fun r r2 h b hb hne => bkE_same hb (h _ (by
  rcases (show b = 0 ∨ b = 1 ∨ b = 2 ∨ b = 3 ∨ b = 4 ∨ b = 5 ∨ b = 6 ∨ b = 7 ∨ b = 8 ∨ b = 9 ∨ b = 10 ∨ b = 11 ∨ b = 12 ∨ b = 13 ∨ b = 14 ∨ b = 15 ∨ b = 16 by omega) with rfl | rfl | rfl | rfl | rfl | rfl | rfl | rfl | rfl | rfl | rfl | rfl | rfl | rfl | rfl | rfl | rfl <;> first | exact absurd rfl hne | decide)))
theorem s0_8 {i : Nat} {v : Int32} : (wC cI cR ad X).set 11 (ad 11, .inl (cI, 20, .inl (upd (X 0 8) i v))) = wC cI cR ad (u3 X 0 8 i v) := sa_8 (g := 0) (by omega)
theorem sa_9 {g i : Nat} {v : Int32} (hg : g < 13) : (wC cI cR ad X).set (17 * g + 3) (ad (17 * g + 3), .inl (cI, 20, .inl (upd (X g 9) i v))) = wC cI cR ad (u3 X g 9 i v) := wC_col (j := 3) hg rfl (by omega) (fun _ => rfl) (fun r r2 h b hb hne => bkE_same hb (h _ (by
  rcases (show b = 0 ∨ b = 1 ∨ b = 2 ∨ b = 3 ∨ b = 4 ∨ b = 5 ∨ b = 6 ∨ b = 7 ∨ b = 8 ∨ b = 9 ∨ b = 10 ∨ b = 11 ∨ b = 12 ∨ b = 13 ∨ b = 14 ∨ b = 15 ∨ b = 16 by omega) with rfl | rfl | rfl | rfl | rfl | rfl | rfl | rfl | rfl | rfl | rfl | rfl | rfl | rfl | rfl | rfl | rfl <;> first | exact absurd rfl hne | decide)))
theorem s0_9 {i : Nat} {v : Int32} : (wC cI cR ad X).set 3 (ad 3, .inl (cI, 20, .inl (upd (X 0 9) i v))) = wC cI cR ad (u3 X 0 9 i v) := sa_9 (g := 0) (by omega)
theorem sa_10 {g i : Nat} {v : Int32} (hg : g < 13) : (wC cI cR ad X).set (17 * g + 13) (ad (17 * g + 13), .inl (cI, 40, .inl (upd (X g 10) i v))) = wC cI cR ad (u3 X g 10 i v) := wC_col (j := 13) hg rfl (by omega) (fun _ => rfl) (fun r r2 h b hb hne => bkE_same hb (h _ (by
  rcases (show b = 0 ∨ b = 1 ∨ b = 2 ∨ b = 3 ∨ b = 4 ∨ b = 5 ∨ b = 6 ∨ b = 7 ∨ b = 8 ∨ b = 9 ∨ b = 10 ∨ b = 11 ∨ b = 12 ∨ b = 13 ∨ b = 14 ∨ b = 15 ∨ b = 16 by omega) with rfl | rfl | rfl | rfl | rfl | rfl | rfl | rfl | rfl | rfl | rfl | rfl | rfl | rfl | rfl | rfl | rfl <;> first | exact absurd rfl hne | decide)))
theorem s0_10 {i : Nat} {v : Int32} : (wC cI cR ad X).set 13 (ad 13, .inl (cI, 40, .inl (upd (X 0 10) i v))) = wC cI cR ad (u3 X 0 10 i v) := sa_10 (g := 0) (by omega)
theorem sa_11 {g i : Nat} {v : Int32} (hg : g < 13) : (wC cI cR ad X).set (17 * g + 14) (ad (17 * g + 14), .inl (cI, 40, .inl (upd (X g 11) i v))) = wC cI cR ad (u3 X g 11 i v) := wC_col (j := 14) hg rfl (by omega) (fun _ => rfl) (fun r r2 h b hb hne => bkE_same hb (h _ (by
  rcases (show b = 0 ∨ b = 1 ∨ b = 2 ∨ b = 3 ∨ b = 4 ∨ b = 5 ∨ b = 6 ∨ b = 7 ∨ b = 8 ∨ b = 9 ∨ b = 10 ∨ b = 11 ∨ b = 12 ∨ b = 13 ∨ b = 14 ∨ b = 15 ∨ b = 16 by omega) with rfl | rfl | rfl | rfl | rfl | rfl | rfl | rfl | rfl | rfl | rfl | rfl | rfl | rfl | rfl | rfl | rfl <;> first | exact absurd rfl hne | decide)))
theorem s0_11 {i : Nat} {v : Int32} : (wC cI cR ad X).set 14 (ad 14, .inl (cI, 40, .inl (upd (X 0 11) i v))) = wC cI cR ad (u3 X 0 11 i v) := sa_11 (g := 0) (by omega)
theorem sa_12 {g i : Nat} {v : Int32} (hg : g < 13) : (wC cI cR ad X).set (17 * g + 15) (ad (17 * g + 15), .inl (cI, 40, .inl (upd (X g 12) i v))) = wC cI cR ad (u3 X g 12 i v) := wC_col (j := 15) hg rfl (by omega) (fun _ => rfl) (fun r r2 h b hb hne => bkE_same hb (h _ (by
  rcases (show b = 0 ∨ b = 1 ∨ b = 2 ∨ b = 3 ∨ b = 4 ∨ b = 5 ∨ b = 6 ∨ b = 7 ∨ b = 8 ∨ b = 9 ∨ b = 10 ∨ b = 11 ∨ b = 12 ∨ b = 13 ∨ b = 14 ∨ b = 15 ∨ b = 16 by omega) with rfl | rfl | rfl | rfl | rfl | rfl | rfl | rfl | rfl | rfl | rfl | rfl | rfl | rfl | rfl | rfl | rfl <;> first | exact absurd rfl hne | decide)))
theorem s0_12 {i : Nat} {v : Int32} : (wC cI cR ad X).set 15 (ad 15, .inl (cI, 40, .inl (upd (X 0 12) i v))) = wC cI cR ad (u3 X 0 12 i v) := sa_12 (g := 0) (by omega)
theorem sa_13 {g i : Nat} {v : Int32} (hg : g < 13) : (wC cI cR ad X).set (17 * g + 16) (ad (17 * g + 16), .inl (cI, 40, .inl (upd (X g 13) i v))) = wC cI cR ad (u3 X g 13 i v) := wC_col (j := 16) hg rfl (by omega) (fun _ => rfl) (fun r r2 h b hb hne => bkE_same hb (h _ (by
  rcases (show b = 0 ∨ b = 1 ∨ b = 2 ∨ b = 3 ∨ b = 4 ∨ b = 5 ∨ b = 6 ∨ b = 7 ∨ b = 8 ∨ b = 9 ∨ b = 10 ∨ b = 11 ∨ b = 12 ∨ b = 13 ∨ b = 14 ∨ b = 15 ∨ b = 16 by omega) with rfl | rfl | rfl | rfl | rfl | rfl | rfl | rfl | rfl | rfl | rfl | rfl | rfl | rfl | rfl | rfl | rfl <;> first | exact absurd rfl hne | decide)))
theorem s0_13 {i : Nat} {v : Int32} : (wC cI cR ad X).set 16 (ad 16, .inl (cI, 40, .inl (upd (X 0 13) i v))) = wC cI cR ad (u3 X 0 13 i v) := sa_13 (g := 0) (by omega)
theorem sn_year {g : Nat} {v : Int32} (hg : g < 13) : (wC cI cR ad X).set (17 * g + 0) (ad (17 * g + 0), .inr (0, [.ref (ad (17 * g + 1)), .ref (ad (17 * g + 12)), .int v, .int (X g 14 3), .int (X g 14 4), .int (X g 14 5)])) = wC cI cR ad (u3 X g 14 0 v) := by
  refine wC_num (j := 0) hg rfl (by omega) ?_ ?_
  · simp [bkE, b2]
  · intro b hb hne
    rcases (show b = 0 ∨ b = 1 ∨ b = 2 ∨ b = 3 ∨ b = 4 ∨ b = 5 ∨ b = 6 ∨ b = 7 ∨ b = 8 ∨ b = 9 ∨ b = 10 ∨ b = 11 ∨ b = 12 ∨ b = 13 ∨ b = 14 ∨ b = 15 ∨ b = 16 by omega) with rfl | rfl | rfl | rfl | rfl | rfl | rfl | rfl | rfl | rfl | rfl | rfl | rfl | rfl | rfl | rfl | rfl <;> first | exact absurd rfl hne | simp [bkE, b2, b2_coln]
theorem s0_year {v : Int32} : (wC cI cR ad X).set 0 (ad 0, .inr (0, [.ref (ad 1), .ref (ad 12), .int v, .int (X 0 14 3), .int (X 0 14 4), .int (X 0 14 5)])) = wC cI cR ad (u3 X 0 14 0 v) := sn_year (g := 0) (by omega)
theorem sn_heads {g : Nat} {v : Int32} (hg : g < 13) : (wC cI cR ad X).set (17 * g + 1) (ad (17 * g + 1), .inr (3, [.ref (ad (17 * g + 2)), .ref (ad (17 * g + 3)), .ref (ad (17 * g + 4)), .ref (ad (17 * g + 5)), .ref (ad (17 * g + 6)), .ref (ad (17 * g + 7)), .ref (ad (17 * g + 8)), .ref (ad (17 * g + 9)), .ref (ad (17 * g + 10)), .ref (ad (17 * g + 11)), .int v])) = wC cI cR ad (u3 X g 14 1 v) := by
  refine wC_num (j := 1) hg rfl (by omega) ?_ ?_
  · simp [bkE, b2]
  · intro b hb hne
    rcases (show b = 0 ∨ b = 1 ∨ b = 2 ∨ b = 3 ∨ b = 4 ∨ b = 5 ∨ b = 6 ∨ b = 7 ∨ b = 8 ∨ b = 9 ∨ b = 10 ∨ b = 11 ∨ b = 12 ∨ b = 13 ∨ b = 14 ∨ b = 15 ∨ b = 16 by omega) with rfl | rfl | rfl | rfl | rfl | rfl | rfl | rfl | rfl | rfl | rfl | rfl | rfl | rfl | rfl | rfl | rfl <;> first | exact absurd rfl hne | simp [bkE, b2, b2_coln]
theorem s0_heads {v : Int32} : (wC cI cR ad X).set 1 (ad 1, .inr (3, [.ref (ad 2), .ref (ad 3), .ref (ad 4), .ref (ad 5), .ref (ad 6), .ref (ad 7), .ref (ad 8), .ref (ad 9), .ref (ad 10), .ref (ad 11), .int v])) = wC cI cR ad (u3 X 0 14 1 v) := sn_heads (g := 0) (by omega)
theorem sn_comms {g : Nat} {v : Int32} (hg : g < 13) : (wC cI cR ad X).set (17 * g + 12) (ad (17 * g + 12), .inr (1, [.ref (ad (17 * g + 13)), .ref (ad (17 * g + 14)), .ref (ad (17 * g + 15)), .ref (ad (17 * g + 16)), .int v])) = wC cI cR ad (u3 X g 14 2 v) := by
  refine wC_num (j := 12) hg rfl (by omega) ?_ ?_
  · simp [bkE, b2]
  · intro b hb hne
    rcases (show b = 0 ∨ b = 1 ∨ b = 2 ∨ b = 3 ∨ b = 4 ∨ b = 5 ∨ b = 6 ∨ b = 7 ∨ b = 8 ∨ b = 9 ∨ b = 10 ∨ b = 11 ∨ b = 12 ∨ b = 13 ∨ b = 14 ∨ b = 15 ∨ b = 16 by omega) with rfl | rfl | rfl | rfl | rfl | rfl | rfl | rfl | rfl | rfl | rfl | rfl | rfl | rfl | rfl | rfl | rfl <;> first | exact absurd rfl hne | simp [bkE, b2, b2_coln]
theorem s0_comms {v : Int32} : (wC cI cR ad X).set 12 (ad 12, .inr (1, [.ref (ad 13), .ref (ad 14), .ref (ad 15), .ref (ad 16), .int v])) = wC cI cR ad (u3 X 0 14 2 v) := sn_comms (g := 0) (by omega)
theorem sn_carried {g : Nat} {v : Int32} (hg : g < 13) : (wC cI cR ad X).set (17 * g + 0) (ad (17 * g + 0), .inr (0, [.ref (ad (17 * g + 1)), .ref (ad (17 * g + 12)), .int (X g 14 0), .int v, .int (X g 14 4), .int (X g 14 5)])) = wC cI cR ad (u3 X g 14 3 v) := by
  refine wC_num (j := 0) hg rfl (by omega) ?_ ?_
  · simp [bkE, b2]
  · intro b hb hne
    rcases (show b = 0 ∨ b = 1 ∨ b = 2 ∨ b = 3 ∨ b = 4 ∨ b = 5 ∨ b = 6 ∨ b = 7 ∨ b = 8 ∨ b = 9 ∨ b = 10 ∨ b = 11 ∨ b = 12 ∨ b = 13 ∨ b = 14 ∨ b = 15 ∨ b = 16 by omega) with rfl | rfl | rfl | rfl | rfl | rfl | rfl | rfl | rfl | rfl | rfl | rfl | rfl | rfl | rfl | rfl | rfl <;> first | exact absurd rfl hne | simp [bkE, b2, b2_coln]
theorem s0_carried {v : Int32} : (wC cI cR ad X).set 0 (ad 0, .inr (0, [.ref (ad 1), .ref (ad 12), .int (X 0 14 0), .int v, .int (X 0 14 4), .int (X 0 14 5)])) = wC cI cR ad (u3 X 0 14 3 v) := sn_carried (g := 0) (by omega)
theorem sn_lapsed {g : Nat} {v : Int32} (hg : g < 13) : (wC cI cR ad X).set (17 * g + 0) (ad (17 * g + 0), .inr (0, [.ref (ad (17 * g + 1)), .ref (ad (17 * g + 12)), .int (X g 14 0), .int (X g 14 3), .int v, .int (X g 14 5)])) = wC cI cR ad (u3 X g 14 4 v) := by
  refine wC_num (j := 0) hg rfl (by omega) ?_ ?_
  · simp [bkE, b2]
  · intro b hb hne
    rcases (show b = 0 ∨ b = 1 ∨ b = 2 ∨ b = 3 ∨ b = 4 ∨ b = 5 ∨ b = 6 ∨ b = 7 ∨ b = 8 ∨ b = 9 ∨ b = 10 ∨ b = 11 ∨ b = 12 ∨ b = 13 ∨ b = 14 ∨ b = 15 ∨ b = 16 by omega) with rfl | rfl | rfl | rfl | rfl | rfl | rfl | rfl | rfl | rfl | rfl | rfl | rfl | rfl | rfl | rfl | rfl <;> first | exact absurd rfl hne | simp [bkE, b2, b2_coln]
theorem s0_lapsed {v : Int32} : (wC cI cR ad X).set 0 (ad 0, .inr (0, [.ref (ad 1), .ref (ad 12), .int (X 0 14 0), .int (X 0 14 3), .int v, .int (X 0 14 5)])) = wC cI cR ad (u3 X 0 14 4 v) := sn_lapsed (g := 0) (by omega)
theorem sn_spent {g : Nat} {v : Int32} (hg : g < 13) : (wC cI cR ad X).set (17 * g + 0) (ad (17 * g + 0), .inr (0, [.ref (ad (17 * g + 1)), .ref (ad (17 * g + 12)), .int (X g 14 0), .int (X g 14 3), .int (X g 14 4), .int v])) = wC cI cR ad (u3 X g 14 5 v) := by
  refine wC_num (j := 0) hg rfl (by omega) ?_ ?_
  · simp [bkE, b2]
  · intro b hb hne
    rcases (show b = 0 ∨ b = 1 ∨ b = 2 ∨ b = 3 ∨ b = 4 ∨ b = 5 ∨ b = 6 ∨ b = 7 ∨ b = 8 ∨ b = 9 ∨ b = 10 ∨ b = 11 ∨ b = 12 ∨ b = 13 ∨ b = 14 ∨ b = 15 ∨ b = 16 by omega) with rfl | rfl | rfl | rfl | rfl | rfl | rfl | rfl | rfl | rfl | rfl | rfl | rfl | rfl | rfl | rfl | rfl <;> first | exact absurd rfl hne | simp [bkE, b2, b2_coln]
theorem s0_spent {v : Int32} : (wC cI cR ad X).set 0 (ad 0, .inr (0, [.ref (ad 1), .ref (ad 12), .int (X 0 14 0), .int (X 0 14 3), .int (X 0 14 4), .int v])) = wC cI cR ad (u3 X 0 14 5 v) := sn_spent (g := 0) (by omega)
theorem sd_0 {i : Nat} {v : Int32} (hi : i < 12) : (wC cI cR ad X).set (221 + i) (ad (221 + i), .inr (2, [.ref (ad (17 * (i + 1))), .int v, .int (X 13 1 i), .int (X 13 2 i), .int (X 13 3 i), .int (X 13 4 i)])) = wC cI cR ad (u3 X 13 0 i v) := by
  refine wC_set (g := 13) (j := i) (by omega) (by omega) (by omega) ?_ ?_
  · unfold cellC
    rw [if_neg (by omega), if_neg (by omega), if_neg (by omega), if_neg (by omega), u3_g]
    simp [deE, b2]
  · intro a b hb hab hne
    unfold cellC
    by_cases ha2 : a < 13
    · rw [if_pos ha2, if_pos ha2, u3_n _ _ _ _ _ (by omega)]
    · rw [if_neg ha2, if_neg ha2, u3_n X 13 0 i v (a := 14) (by omega), u3_g]
      by_cases hb1 : b < 12
      · have hb2 : ¬ b = i := fun z => hne ⟨by omega, z⟩
        rw [if_neg (by omega), if_neg (by omega), if_neg (by omega), if_neg (by omega), if_neg (by omega), if_neg (by omega)]
        simp [deE, b2, hb2]
      · by_cases h12 : b = 12
        · rw [if_pos h12, if_pos h12]
        · by_cases h13 : b = 13
          · rw [if_neg h12, if_neg h12, if_pos h13, if_pos h13]
          · by_cases h14 : b = 14
            · rw [if_neg h12, if_neg h12, if_neg h13, if_neg h13, if_pos h14, if_pos h14]
            · exact absurd hab (by omega)
theorem sd_1 {i : Nat} {v : Int32} (hi : i < 12) : (wC cI cR ad X).set (221 + i) (ad (221 + i), .inr (2, [.ref (ad (17 * (i + 1))), .int (X 13 0 i), .int v, .int (X 13 2 i), .int (X 13 3 i), .int (X 13 4 i)])) = wC cI cR ad (u3 X 13 1 i v) := by
  refine wC_set (g := 13) (j := i) (by omega) (by omega) (by omega) ?_ ?_
  · unfold cellC
    rw [if_neg (by omega), if_neg (by omega), if_neg (by omega), if_neg (by omega), u3_g]
    simp [deE, b2]
  · intro a b hb hab hne
    unfold cellC
    by_cases ha2 : a < 13
    · rw [if_pos ha2, if_pos ha2, u3_n _ _ _ _ _ (by omega)]
    · rw [if_neg ha2, if_neg ha2, u3_n X 13 1 i v (a := 14) (by omega), u3_g]
      by_cases hb1 : b < 12
      · have hb2 : ¬ b = i := fun z => hne ⟨by omega, z⟩
        rw [if_neg (by omega), if_neg (by omega), if_neg (by omega), if_neg (by omega), if_neg (by omega), if_neg (by omega)]
        simp [deE, b2, hb2]
      · by_cases h12 : b = 12
        · rw [if_pos h12, if_pos h12]
        · by_cases h13 : b = 13
          · rw [if_neg h12, if_neg h12, if_pos h13, if_pos h13]
          · by_cases h14 : b = 14
            · rw [if_neg h12, if_neg h12, if_neg h13, if_neg h13, if_pos h14, if_pos h14]
            · exact absurd hab (by omega)
theorem sd_2 {i : Nat} {v : Int32} (hi : i < 12) : (wC cI cR ad X).set (221 + i) (ad (221 + i), .inr (2, [.ref (ad (17 * (i + 1))), .int (X 13 0 i), .int (X 13 1 i), .int v, .int (X 13 3 i), .int (X 13 4 i)])) = wC cI cR ad (u3 X 13 2 i v) := by
  refine wC_set (g := 13) (j := i) (by omega) (by omega) (by omega) ?_ ?_
  · unfold cellC
    rw [if_neg (by omega), if_neg (by omega), if_neg (by omega), if_neg (by omega), u3_g]
    simp [deE, b2]
  · intro a b hb hab hne
    unfold cellC
    by_cases ha2 : a < 13
    · rw [if_pos ha2, if_pos ha2, u3_n _ _ _ _ _ (by omega)]
    · rw [if_neg ha2, if_neg ha2, u3_n X 13 2 i v (a := 14) (by omega), u3_g]
      by_cases hb1 : b < 12
      · have hb2 : ¬ b = i := fun z => hne ⟨by omega, z⟩
        rw [if_neg (by omega), if_neg (by omega), if_neg (by omega), if_neg (by omega), if_neg (by omega), if_neg (by omega)]
        simp [deE, b2, hb2]
      · by_cases h12 : b = 12
        · rw [if_pos h12, if_pos h12]
        · by_cases h13 : b = 13
          · rw [if_neg h12, if_neg h12, if_pos h13, if_pos h13]
          · by_cases h14 : b = 14
            · rw [if_neg h12, if_neg h12, if_neg h13, if_neg h13, if_pos h14, if_pos h14]
            · exact absurd hab (by omega)
theorem sd_3 {i : Nat} {v : Int32} (hi : i < 12) : (wC cI cR ad X).set (221 + i) (ad (221 + i), .inr (2, [.ref (ad (17 * (i + 1))), .int (X 13 0 i), .int (X 13 1 i), .int (X 13 2 i), .int v, .int (X 13 4 i)])) = wC cI cR ad (u3 X 13 3 i v) := by
  refine wC_set (g := 13) (j := i) (by omega) (by omega) (by omega) ?_ ?_
  · unfold cellC
    rw [if_neg (by omega), if_neg (by omega), if_neg (by omega), if_neg (by omega), u3_g]
    simp [deE, b2]
  · intro a b hb hab hne
    unfold cellC
    by_cases ha2 : a < 13
    · rw [if_pos ha2, if_pos ha2, u3_n _ _ _ _ _ (by omega)]
    · rw [if_neg ha2, if_neg ha2, u3_n X 13 3 i v (a := 14) (by omega), u3_g]
      by_cases hb1 : b < 12
      · have hb2 : ¬ b = i := fun z => hne ⟨by omega, z⟩
        rw [if_neg (by omega), if_neg (by omega), if_neg (by omega), if_neg (by omega), if_neg (by omega), if_neg (by omega)]
        simp [deE, b2, hb2]
      · by_cases h12 : b = 12
        · rw [if_pos h12, if_pos h12]
        · by_cases h13 : b = 13
          · rw [if_neg h12, if_neg h12, if_pos h13, if_pos h13]
          · by_cases h14 : b = 14
            · rw [if_neg h12, if_neg h12, if_neg h13, if_neg h13, if_pos h14, if_pos h14]
            · exact absurd hab (by omega)
theorem sd_4 {i : Nat} {v : Int32} (hi : i < 12) : (wC cI cR ad X).set (221 + i) (ad (221 + i), .inr (2, [.ref (ad (17 * (i + 1))), .int (X 13 0 i), .int (X 13 1 i), .int (X 13 2 i), .int (X 13 3 i), .int v])) = wC cI cR ad (u3 X 13 4 i v) := by
  refine wC_set (g := 13) (j := i) (by omega) (by omega) (by omega) ?_ ?_
  · unfold cellC
    rw [if_neg (by omega), if_neg (by omega), if_neg (by omega), if_neg (by omega), u3_g]
    simp [deE, b2]
  · intro a b hb hab hne
    unfold cellC
    by_cases ha2 : a < 13
    · rw [if_pos ha2, if_pos ha2, u3_n _ _ _ _ _ (by omega)]
    · rw [if_neg ha2, if_neg ha2, u3_n X 13 4 i v (a := 14) (by omega), u3_g]
      by_cases hb1 : b < 12
      · have hb2 : ¬ b = i := fun z => hne ⟨by omega, z⟩
        rw [if_neg (by omega), if_neg (by omega), if_neg (by omega), if_neg (by omega), if_neg (by omega), if_neg (by omega)]
        simp [deE, b2, hb2]
      · by_cases h12 : b = 12
        · rw [if_pos h12, if_pos h12]
        · by_cases h13 : b = 13
          · rw [if_neg h12, if_neg h12, if_pos h13, if_pos h13]
          · by_cases h14 : b = 14
            · rw [if_neg h12, if_neg h12, if_neg h13, if_neg h13, if_pos h14, if_pos h14]
            · exact absurd hab (by omega)
theorem s0_m0 {v : Int32} : (wC cI cR ad X).set 234 (ad 234, .inr (4, [.ref (ad 235), .int v, .int (X 14 0 1), .int (X 14 0 2)])) = wC cI cR ad (u3 X 14 0 0 v) := by
  refine wC_set (g := 13) (j := 13) (by omega) (by omega) (by omega) ?_ ?_
  · unfold cellC
    rw [if_neg (by omega), if_neg (by omega), if_pos rfl, u3_g]
    simp [b2]
  · intro a b hb hab hne
    unfold cellC
    by_cases ha2 : a < 13
    · rw [if_pos ha2, if_pos ha2, u3_n _ _ _ _ _ (by omega)]
    · have h13 : ¬ b = 13 := fun z => hne ⟨by omega, z⟩
      rw [if_neg ha2, if_neg ha2, if_neg h13, if_neg h13, u3_n X 14 0 0 v (a := 13) (by omega)]
theorem s0_m1 {v : Int32} : (wC cI cR ad X).set 234 (ad 234, .inr (4, [.ref (ad 235), .int (X 14 0 0), .int v, .int (X 14 0 2)])) = wC cI cR ad (u3 X 14 0 1 v) := by
  refine wC_set (g := 13) (j := 13) (by omega) (by omega) (by omega) ?_ ?_
  · unfold cellC
    rw [if_neg (by omega), if_neg (by omega), if_pos rfl, u3_g]
    simp [b2]
  · intro a b hb hab hne
    unfold cellC
    by_cases ha2 : a < 13
    · rw [if_pos ha2, if_pos ha2, u3_n _ _ _ _ _ (by omega)]
    · have h13 : ¬ b = 13 := fun z => hne ⟨by omega, z⟩
      rw [if_neg ha2, if_neg ha2, if_neg h13, if_neg h13, u3_n X 14 0 1 v (a := 13) (by omega)]
theorem s0_m2 {v : Int32} : (wC cI cR ad X).set 234 (ad 234, .inr (4, [.ref (ad 235), .int (X 14 0 0), .int (X 14 0 1), .int v])) = wC cI cR ad (u3 X 14 0 2 v) := by
  refine wC_set (g := 13) (j := 13) (by omega) (by omega) (by omega) ?_ ?_
  · unfold cellC
    rw [if_neg (by omega), if_neg (by omega), if_pos rfl, u3_g]
    simp [b2]
  · intro a b hb hab hne
    unfold cellC
    by_cases ha2 : a < 13
    · rw [if_pos ha2, if_pos ha2, u3_n _ _ _ _ _ (by omega)]
    · have h13 : ¬ b = 13 := fun z => hne ⟨by omega, z⟩
      rw [if_neg ha2, if_neg ha2, if_neg h13, if_neg h13, u3_n X 14 0 2 v (a := 13) (by omega)]
end
/-- which cells the class may write: its own -/
def Aw (n : Nat) (ad : Nat → Nat) : Nat → Prop := fun q => ∃ k, k < n ∧ q = ad k
/-- the cells lie apart -/
def Dj (n : Nat) (ad : Nat → Nat) : Prop := ∀ i j : Nat, i < n → j < n → ad i = ad j → i = j
theorem wC_at {cI cR : ClassId} {ad : Nat → Nat} {X : St} {k : Nat} {q : Nat × va_E} (h : (wC cI cR ad X)[k]? = some q) : k < 236 ∧ q = (ad k, cellC cI cR ad X (k / 17) (k % 17)) := by
  have hk : k < 236 := by
    have := (List.getElem?_eq_some_iff.mp h).1
    rwa [wC_len] at this
  rw [wC_get (g := k / 17) (j := k % 17) (by omega) (by omega) hk] at h
  exact ⟨hk, (Option.some.inj h).symm⟩
theorem wC_D {cI cR : ClassId} {ad : Nat → Nat} {X : St} (h : Dj 236 ad) : va_D (Aw 236 ad) (wC cI cR ad X) := by
  refine ⟨fun i j p q hp hq e => ?_, fun k q hq => ?_⟩
  · obtain ⟨hi, rfl⟩ := wC_at hp
    obtain ⟨hj, rfl⟩ := wC_at hq
    exact h i j hi hj e
  · obtain ⟨hk, rfl⟩ := wC_at hq
    exact ⟨k, hk, rfl⟩
theorem vp_cell_ext {cA : ClassId} {n : Nat} {f f' : Nat → Int32} (h : ∀ j, j < n → f' j = f j) : vp_cell cA (n, .inl f') = vp_cell cA (n, .inl f) := by
  rw [vp_cell_i, vp_cell_i]
  unfold arrV
  congr 1
  apply Array.ext
  · simp
  · intro i h1 h2
    simp at h1
    simp [h i h1]
/-- what cannot be seen in the cells may change -/
theorem wC_ext {D : va_G} {cl : List vw_C} {cI cR : ClassId} {ad : Nat → Nat} {X X' : St} {H : Heap} (h : va_P D cl (wC cI cR ad X) H) (hc : ∀ g f i : Nat, (g < 13 → f < 10 → i < 20 → X' g f i = X g f i)) (hc2 : ∀ g f i : Nat, (g < 13 → 10 ≤ f → f < 14 → i < 40 → X' g f i = X g f i)) (hn : ∀ g i : Nat, g < 13 → i < 6 → X' g 14 i = X g 14 i) (hd : ∀ f i : Nat, f < 5 → i < 12 → X' 13 f i = X 13 f i) (hm : ∀ i : Nat, i < 3 → X' 14 0 i = X 14 0 i) : va_P D cl (wC cI cR ad X') H := by
  intro k q hq
  obtain ⟨hk, rfl⟩ := wC_at hq
  have hP := h k _ (wC_get (g := k / 17) (j := k % 17) (by omega) (by omega) hk)
  have hj : k % 17 < 17 := by omega
  have hkk : k = 17 * (k / 17) + k % 17 := by omega
  revert hP
  generalize k / 17 = g at hkk ⊢
  generalize k % 17 = j at hj hkk ⊢
  intro hP
  unfold cellC at hP ⊢
  by_cases hg : g < 13
  · rw [if_pos hg] at hP ⊢
    rcases (show j = 0 ∨ j = 1 ∨ j = 2 ∨ j = 3 ∨ j = 4 ∨ j = 5 ∨ j = 6 ∨ j = 7 ∨ j = 8 ∨ j = 9 ∨ j = 10 ∨ j = 11 ∨ j = 12 ∨ j = 13 ∨ j = 14 ∨ j = 15 ∨ j = 16 by omega) with rfl | rfl | rfl | rfl | rfl | rfl | rfl | rfl | rfl | rfl | rfl | rfl | rfl | rfl | rfl | rfl | rfl
    · simp only [bkE, hn g _ hg (show 0 < 6 by omega), hn g _ hg (show 3 < 6 by omega), hn g _ hg (show 4 < 6 by omega), hn g _ hg (show 5 < 6 by omega)] at hP ⊢
      exact hP
    · simp only [bkE, hn g _ hg (show 1 < 6 by omega)] at hP ⊢
      exact hP
    · exact (show H[_]? = some (vp_cell _ _) from by rw [vp_cell_ext (fun j hj => hc g 0 j hg (by omega) hj)]; exact hP)
    · exact (show H[_]? = some (vp_cell _ _) from by rw [vp_cell_ext (fun j hj => hc g 9 j hg (by omega) hj)]; exact hP)
    · exact (show H[_]? = some (vp_cell _ _) from by rw [vp_cell_ext (fun j hj => hc g 1 j hg (by omega) hj)]; exact hP)
    · exact (show H[_]? = some (vp_cell _ _) from by rw [vp_cell_ext (fun j hj => hc g 2 j hg (by omega) hj)]; exact hP)
    · exact (show H[_]? = some (vp_cell _ _) from by rw [vp_cell_ext (fun j hj => hc g 3 j hg (by omega) hj)]; exact hP)
    · exact (show H[_]? = some (vp_cell _ _) from by rw [vp_cell_ext (fun j hj => hc g 4 j hg (by omega) hj)]; exact hP)
    · exact (show H[_]? = some (vp_cell _ _) from by rw [vp_cell_ext (fun j hj => hc g 5 j hg (by omega) hj)]; exact hP)
    · exact (show H[_]? = some (vp_cell _ _) from by rw [vp_cell_ext (fun j hj => hc g 6 j hg (by omega) hj)]; exact hP)
    · exact (show H[_]? = some (vp_cell _ _) from by rw [vp_cell_ext (fun j hj => hc g 7 j hg (by omega) hj)]; exact hP)
    · exact (show H[_]? = some (vp_cell _ _) from by rw [vp_cell_ext (fun j hj => hc g 8 j hg (by omega) hj)]; exact hP)
    · simp only [bkE, hn g _ hg (show 2 < 6 by omega)] at hP ⊢
      exact hP
    · exact (show H[_]? = some (vp_cell _ _) from by rw [vp_cell_ext (fun j hj => hc2 g 10 j hg (by omega) (by omega) hj)]; exact hP)
    · exact (show H[_]? = some (vp_cell _ _) from by rw [vp_cell_ext (fun j hj => hc2 g 11 j hg (by omega) (by omega) hj)]; exact hP)
    · exact (show H[_]? = some (vp_cell _ _) from by rw [vp_cell_ext (fun j hj => hc2 g 12 j hg (by omega) (by omega) hj)]; exact hP)
    · exact (show H[_]? = some (vp_cell _ _) from by rw [vp_cell_ext (fun j hj => hc2 g 13 j hg (by omega) (by omega) hj)]; exact hP)
  · rw [if_neg hg] at hP ⊢
    by_cases h12 : j = 12
    · rw [if_pos h12] at hP ⊢
      exact hP
    · rw [if_neg h12] at hP ⊢
      by_cases h13 : j = 13
      · rw [if_pos h13] at hP ⊢
        rw [hm 0 (by omega), hm 1 (by omega), hm 2 (by omega)]
        exact hP
      · rw [if_neg h13] at hP ⊢
        by_cases h14 : j = 14
        · rw [if_pos h14] at hP ⊢
          exact hP
        · rw [if_neg h14] at hP ⊢
          unfold deE at hP ⊢
          rw [hd 0 j (by omega) (by omega), hd 1 j (by omega) (by omega), hd 2 j (by omega) (by omega), hd 3 j (by omega) (by omega), hd 4 j (by omega) (by omega)]
          exact hP
