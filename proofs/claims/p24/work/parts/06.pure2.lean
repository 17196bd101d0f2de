/-! WHAT THE DEEDS DO: to a book (b_ .., n_ ..), to the class's state (N_ ..); guards g_ .. (0: it goes); answers a_ .., v_ .. -/
def uc (X : St) (g f : Nat) (col : Nat → Int32) : St := fun a => if a = g then (fun b => if b = f then col else X a b) else X a
theorem wC_uc {cI cR : ClassId} {ad : Nat → Nat} {X : St} {g j f n : Nat} {col : Nat → Int32} (hg : g < 13) (hj : j < 17) (he : ∀ r : Bk, bkE cI ad g r j = .inl (cI, n, .inl (r f))) (ho : ∀ b : Nat, b < 17 → b ≠ j → jc b ≠ f) : (wC cI cR ad X).set (17 * g + j) (ad (17 * g + j), .inl (cI, n, .inl col)) = wC cI cR ad (uc X g f col) := by
  refine wC_set (j := j) rfl hj (by omega) ?_ ?_
  · unfold cellC
    rw [if_pos hg, he]
    simp [uc]
  · intro a b hb hab hne
    unfold cellC
    by_cases ha : a = g
    · subst ha
      rw [if_pos hg, if_pos hg]
      exact bkE_same hb (by simp [uc, ho b hb (fun z => hne ⟨rfl, z⟩)])
    · by_cases ha2 : a < 13
      · rw [if_pos ha2, if_pos ha2]
        simp [uc, ha]
      · rw [if_neg ha2, if_neg ha2]
        simp [uc, show ¬ (14 : Nat) = g by omega, show ¬ (13 : Nat) = g by omega]
theorem sc_0 {cI cR : ClassId} {ad : Nat → Nat} {X : St} {g : Nat} {col : Nat → Int32} (hg : g < 13) : (wC cI cR ad X).set (17 * g + 2) (ad (17 * g + 2), .inl (cI, 20, .inl col)) = wC cI cR ad (uc X g 0 col) := wC_uc hg (by omega) (fun _ => rfl) (fun b hb hne => by
  rcases (show b = 0 ∨ b = 1 ∨ b = 2 ∨ b = 3 ∨ b = 4 ∨ b = 5 ∨ b = 6 ∨ b = 7 ∨ b = 8 ∨ b = 9 ∨ b = 10 ∨ b = 11 ∨ b = 12 ∨ b = 13 ∨ b = 14 ∨ b = 15 ∨ b = 16 by omega) with rfl | rfl | rfl | rfl | rfl | rfl | rfl | rfl | rfl | rfl | rfl | rfl | rfl | rfl | rfl | rfl | rfl <;> first | exact absurd rfl hne | decide)
theorem sc_1 {cI cR : ClassId} {ad : Nat → Nat} {X : St} {g : Nat} {col : Nat → Int32} (hg : g < 13) : (wC cI cR ad X).set (17 * g + 4) (ad (17 * g + 4), .inl (cI, 20, .inl col)) = wC cI cR ad (uc X g 1 col) := wC_uc hg (by omega) (fun _ => rfl) (fun b hb hne => by
  rcases (show b = 0 ∨ b = 1 ∨ b = 2 ∨ b = 3 ∨ b = 4 ∨ b = 5 ∨ b = 6 ∨ b = 7 ∨ b = 8 ∨ b = 9 ∨ b = 10 ∨ b = 11 ∨ b = 12 ∨ b = 13 ∨ b = 14 ∨ b = 15 ∨ b = 16 by omega) with rfl | rfl | rfl | rfl | rfl | rfl | rfl | rfl | rfl | rfl | rfl | rfl | rfl | rfl | rfl | rfl | rfl <;> first | exact absurd rfl hne | decide)
theorem sc_2 {cI cR : ClassId} {ad : Nat → Nat} {X : St} {g : Nat} {col : Nat → Int32} (hg : g < 13) : (wC cI cR ad X).set (17 * g + 5) (ad (17 * g + 5), .inl (cI, 20, .inl col)) = wC cI cR ad (uc X g 2 col) := wC_uc hg (by omega) (fun _ => rfl) (fun b hb hne => by
  rcases (show b = 0 ∨ b = 1 ∨ b = 2 ∨ b = 3 ∨ b = 4 ∨ b = 5 ∨ b = 6 ∨ b = 7 ∨ b = 8 ∨ b = 9 ∨ b = 10 ∨ b = 11 ∨ b = 12 ∨ b = 13 ∨ b = 14 ∨ b = 15 ∨ b = 16 by omega) with rfl | rfl | rfl | rfl | rfl | rfl | rfl | rfl | rfl | rfl | rfl | rfl | rfl | rfl | rfl | rfl | rfl <;> first | exact absurd rfl hne | decide)
theorem sc_3 {cI cR : ClassId} {ad : Nat → Nat} {X : St} {g : Nat} {col : Nat → Int32} (hg : g < 13) : (wC cI cR ad X).set (17 * g + 6) (ad (17 * g + 6), .inl (cI, 20, .inl col)) = wC cI cR ad (uc X g 3 col) := wC_uc hg (by omega) (fun _ => rfl) (fun b hb hne => by
  rcases (show b = 0 ∨ b = 1 ∨ b = 2 ∨ b = 3 ∨ b = 4 ∨ b = 5 ∨ b = 6 ∨ b = 7 ∨ b = 8 ∨ b = 9 ∨ b = 10 ∨ b = 11 ∨ b = 12 ∨ b = 13 ∨ b = 14 ∨ b = 15 ∨ b = 16 by omega) with rfl | rfl | rfl | rfl | rfl | rfl | rfl | rfl | rfl | rfl | rfl | rfl | rfl | rfl | rfl | rfl | rfl <;> first | exact absurd rfl hne | decide)
theorem sc_4 {cI cR : ClassId} {ad : Nat → Nat} {X : St} {g : Nat} {col : Nat → Int32} (hg : g < 13) : (wC cI cR ad X).set (17 * g + 7) (ad (17 * g + 7), .inl (cI, 20, .inl col)) = wC cI cR ad (uc X g 4 col) := wC_uc hg (by omega) (fun _ => rfl) (fun b hb hne => by
  rcases (show b = 0 ∨ b = 1 ∨ b = 2 ∨ b = 3 ∨ b = 4 ∨ b = 5 ∨ b = 6 ∨ b = 7 ∨ b = 8 ∨ b = 9 ∨ b = 10 ∨ b = 11 ∨ b = 12 ∨ b = 13 ∨ b = 14 ∨ b = 15 ∨ b = 16 by omega) with rfl | rfl | rfl | rfl | rfl | rfl | rfl | rfl | rfl | rfl | rfl | rfl | rfl | rfl | rfl | rfl | rfl <;> first | exact absurd rfl hne | decide)
theorem sc_5 {cI cR : ClassId} {ad : Nat → Nat} {X : St} {g : Nat} {col : Nat → Int32} (hg : g < 13) : (wC cI cR ad X).set (17 * g + 8) (ad (17 * g + 8), .inl (cI, 20, .inl col)) = wC cI cR ad (uc X g 5 col) := wC_uc hg (by omega) (fun _ => rfl) (fun b hb hne => by
  rcases (show b = 0 ∨ b = 1 ∨ b = 2 ∨ b = 3 ∨ b = 4 ∨ b = 5 ∨ b = 6 ∨ b = 7 ∨ b = 8 ∨ b = 9 ∨ b = 10 ∨ b = 11 ∨ b = 12 ∨ b = 13 ∨ b = 14 ∨ b = 15 ∨ b = 16 by omega) with rfl | rfl | rfl | rfl | rfl | rfl | rfl | rfl | rfl | rfl | rfl | rfl | rfl | rfl | rfl | rfl | rfl <;> first | exact absurd rfl hne | decide)
theorem sc_6 {cI cR : ClassId} {ad : Nat → Nat} {X : St} {g : Nat} {col : Nat → Int32} (hg : g < 13) : (wC cI cR ad X).set (17 * g + 9) (ad (17 * g + 9), .inl (cI, 20, .inl col)) = wC cI cR ad (uc X g 6 col) := wC_uc hg (by omega) (fun _ => rfl) (fun b hb hne => by
  rcases (show b = 0 ∨ b = 1 ∨ b = 2 ∨ b = 3 ∨ b = 4 ∨ b = 5 ∨ b = 6 ∨ b = 7 ∨ b = 8 ∨ b = 9 ∨ b = 10 ∨ b = 11 ∨ b = 12 ∨ b = 13 ∨ b = 14 ∨ b = 15 ∨ b = 16 by omega) with rfl | rfl | rfl | rfl | rfl | rfl | rfl | rfl | rfl | rfl | rfl | rfl | rfl | rfl | rfl | rfl | rfl <;> first | exact absurd rfl hne | decide)
theorem sc_7 {cI cR : ClassId} {ad : Nat → Nat} {X : St} {g : Nat} {col : Nat → Int32} (hg : g < 13) : (wC cI cR ad X).set (17 * g + 10) (ad (17 * g + 10), .inl (cI, 20, .inl col)) = wC cI cR ad (uc X g 7 col) := wC_uc hg (by omega) (fun _ => rfl) (fun b hb hne => by
  rcases (show b = 0 ∨ b = 1 ∨ b = 2 ∨ b = 3 ∨ b = 4 ∨ b = 5 ∨ b = 6 ∨ b = 7 ∨ b = 8 ∨ b = 9 ∨ b = 10 ∨ b = 11 ∨ b = 12 ∨ b = 13 ∨ b = 14 ∨ b = 15 ∨ b = 16 by omega) with rfl | rfl | rfl | rfl | rfl | rfl | rfl | rfl | rfl | rfl | rfl | rfl | rfl | rfl | rfl | rfl | rfl <;> first | exact absurd rfl hne | decide)
theorem sc_8 {cI cR : ClassId} {ad : Nat → Nat} {X : St} {g : Nat} {col : Nat → Int32} (hg : g < 13) : (wC cI cR ad X).set (17 * g + 11) (ad (17 * g + 11), .inl (cI, 20, .inl col)) = wC cI cR ad (uc X g 8 col) := wC_uc hg (by omega) (fun _ => rfl) (fun b hb hne => by
  rcases (show b = 0 ∨ b = 1 ∨ b = 2 ∨ b = 3 ∨ b = 4 ∨ b = 5 ∨ b = 6 ∨ b = 7 ∨ b = 8 ∨ b = 9 ∨ b = 10 ∨ b = 11 ∨ b = 12 ∨ b = 13 ∨ b = 14 ∨ b = 15 ∨ b = 16 by omega) with rfl | rfl | rfl | rfl | rfl | rfl | rfl | rfl | rfl | rfl | rfl | rfl | rfl | rfl | rfl | rfl | rfl <;> first | exact absurd rfl hne | decide)
theorem sc_9 {cI cR : ClassId} {ad : Nat → Nat} {X : St} {g : Nat} {col : Nat → Int32} (hg : g < 13) : (wC cI cR ad X).set (17 * g + 3) (ad (17 * g + 3), .inl (cI, 20, .inl col)) = wC cI cR ad (uc X g 9 col) := wC_uc hg (by omega) (fun _ => rfl) (fun b hb hne => by
  rcases (show b = 0 ∨ b = 1 ∨ b = 2 ∨ b = 3 ∨ b = 4 ∨ b = 5 ∨ b = 6 ∨ b = 7 ∨ b = 8 ∨ b = 9 ∨ b = 10 ∨ b = 11 ∨ b = 12 ∨ b = 13 ∨ b = 14 ∨ b = 15 ∨ b = 16 by omega) with rfl | rfl | rfl | rfl | rfl | rfl | rfl | rfl | rfl | rfl | rfl | rfl | rfl | rfl | rfl | rfl | rfl <;> first | exact absurd rfl hne | decide)
theorem sc_10 {cI cR : ClassId} {ad : Nat → Nat} {X : St} {g : Nat} {col : Nat → Int32} (hg : g < 13) : (wC cI cR ad X).set (17 * g + 13) (ad (17 * g + 13), .inl (cI, 40, .inl col)) = wC cI cR ad (uc X g 10 col) := wC_uc hg (by omega) (fun _ => rfl) (fun b hb hne => by
  rcases (show b = 0 ∨ b = 1 ∨ b = 2 ∨ b = 3 ∨ b = 4 ∨ b = 5 ∨ b = 6 ∨ b = 7 ∨ b = 8 ∨ b = 9 ∨ b = 10 ∨ b = 11 ∨ b = 12 ∨ b = 13 ∨ b = 14 ∨ b = 15 ∨ b = 16 by omega) with rfl | rfl | rfl | rfl | rfl | rfl | rfl | rfl | rfl | rfl | rfl | rfl | rfl | rfl | rfl | rfl | rfl <;> first | exact absurd rfl hne | decide)
theorem sc_11 {cI cR : ClassId} {ad : Nat → Nat} {X : St} {g : Nat} {col : Nat → Int32} (hg : g < 13) : (wC cI cR ad X).set (17 * g + 14) (ad (17 * g + 14), .inl (cI, 40, .inl col)) = wC cI cR ad (uc X g 11 col) := wC_uc hg (by omega) (fun _ => rfl) (fun b hb hne => by
  rcases (show b = 0 ∨ b = 1 ∨ b = 2 ∨ b = 3 ∨ b = 4 ∨ b = 5 ∨ b = 6 ∨ b = 7 ∨ b = 8 ∨ b = 9 ∨ b = 10 ∨ b = 11 ∨ b = 12 ∨ b = 13 ∨ b = 14 ∨ b = 15 ∨ b = 16 by omega) with rfl | rfl | rfl | rfl | rfl | rfl | rfl | rfl | rfl | rfl | rfl | rfl | rfl | rfl | rfl | rfl | rfl <;> first | exact absurd rfl hne | decide)
theorem sc_12 {cI cR : ClassId} {ad : Nat → Nat} {X : St} {g : Nat} {col : Nat → Int32} (hg : g < 13) : (wC cI cR ad X).set (17 * g + 15) (ad (17 * g + 15), .inl (cI, 40, .inl col)) = wC cI cR ad (uc X g 12 col) := wC_uc hg (by omega) (fun _ => rfl) (fun b hb hne => by
  rcases (show b = 0 ∨ b = 1 ∨ b = 2 ∨ b = 3 ∨ b = 4 ∨ b = 5 ∨ b = 6 ∨ b = 7 ∨ b = 8 ∨ b = 9 ∨ b = 10 ∨ b = 11 ∨ b = 12 ∨ b = 13 ∨ b = 14 ∨ b = 15 ∨ b = 16 by omega) with rfl | rfl | rfl | rfl | rfl | rfl | rfl | rfl | rfl | rfl | rfl | rfl | rfl | rfl | rfl | rfl | rfl <;> first | exact absurd rfl hne | decide)
theorem sc_13 {cI cR : ClassId} {ad : Nat → Nat} {X : St} {g : Nat} {col : Nat → Int32} (hg : g < 13) : (wC cI cR ad X).set (17 * g + 16) (ad (17 * g + 16), .inl (cI, 40, .inl col)) = wC cI cR ad (uc X g 13 col) := wC_uc hg (by omega) (fun _ => rfl) (fun b hb hne => by
  rcases (show b = 0 ∨ b = 1 ∨ b = 2 ∨ b = 3 ∨ b = 4 ∨ b = 5 ∨ b = 6 ∨ b = 7 ∨ b = 8 ∨ b = 9 ∨ b = 10 ∨ b = 11 ∨ b = 12 ∨ b = 13 ∨ b = 14 ∨ b = 15 ∨ b = 16 by omega) with rfl | rfl | rfl | rfl | rfl | rfl | rfl | rfl | rfl | rfl | rfl | rfl | rfl | rfl | rfl | rfl | rfl <;> first | exact absurd rfl hne | decide)
def cpH (X : St) (g g2 : Nat) : St := fun a => if a = g then (fun f i => if f < 10 ∨ (f = 14 ∧ i = 1) then X g2 f i else X g f i) else X a
def cpC (X : St) (g g2 : Nat) : St := fun a => if a = g then (fun f i => if (10 ≤ f ∧ f < 14) ∨ (f = 14 ∧ i = 2) then X g2 f i else X g f i) else X a
-- books
noncomputable def b_cc (r : Bk) (h a : Int32) : Bk := ci (p_has r h) (b2 r 4 h.toNatClampNeg (qv r 4 h + a)) r
noncomputable def b_sc (r : Bk) (h a : Int32) : Bk := ci (p_has r h) (b2 (b2 r 4 h.toNatClampNeg (qv r 4 h - a)) 5 h.toNatClampNeg (qv (b2 r 4 h.toNatClampNeg (qv r 4 h - a)) 5 h + a)) r
def n_mv (r : Bk) (g t a : Int32) : Bk :=
  let r1 := b2 r 3 g.toNatClampNeg (qv r 3 g - a)
  let r2 := b2 r1 7 g.toNatClampNeg (qv r1 7 g + a)
  b2 r2 3 t.toNatClampNeg (qv r2 3 t + a)
noncomputable def b_mv (r : Bk) (g t a : Int32) : Bk := ci (p_has r g ∧ p_has r t ∧ g ≠ t) (n_mv r g t a) r
noncomputable def n_add (r : Bk) (a k : Int32) : Bk :=
  let i := (r 14 1).toNatClampNeg
  let r1 := b2 r 0 i a
  let r2 := b2 r1 9 i (ci (p_has r1 a) (qv r1 9 a + 1) 0)
  let r3 := b2 r2 1 i k
  let r4 := b2 r3 8 i 50
  b2 r4 14 1 (r4 14 1 + 1)
noncomputable def b_add (r : Bk) (a k : Int32) : Bk := ci (r 14 1 < 0) r (ci (r 14 1 < 20) (n_add r a k) r)
noncomputable def a_add (r : Bk) : Int32 := ci (r 14 1 < 0) (-3) (ci (r 14 1 < 20) (r 14 1) (-3))
def n_addC (r : Bk) (h a y : Int32) : Bk :=
  let i := (r 14 2).toNatClampNeg
  let r1 := b2 r 10 i h
  let r2 := b2 r1 11 i a
  let r3 := b2 r2 13 i y
  b2 r3 14 2 (r3 14 2 + 1)
noncomputable def b_addC (r : Bk) (h a y : Int32) : Bk := ci (r 14 2 < 0) r (ci (r 14 2 < 40) (n_addC r h a y) r)
noncomputable def a_addC (r : Bk) : Int32 := ci (r 14 2 < 0) (-3) (ci (r 14 2 < 40) (r 14 2) (-3))
noncomputable def b_free0 (r : Bk) (c : Int32) : Bk := ci (p_hasC r c) (b_cc (b2 r 11 c.toNatClampNeg 0) (qv (b2 r 11 c.toNatClampNeg 0) 10 c) (-(qv r 11 c))) r
noncomputable def a_free0 (r : Bk) (c : Int32) : Int32 := ci (p_hasC r c) (qv r 11 c) 0
/-- the end of a year for one head -/
noncomputable def cf1 (r : Bk) (q h : Int32) : Bk :=
  let car := p_part (p_free r h) q
  let r1 := b2 r 3 h.toNatClampNeg (qv r 4 h + car)
  let r2 := b2 r1 6 h.toNatClampNeg car
  let r3 := b2 r2 5 h.toNatClampNeg 0
  b2 r3 7 h.toNatClampNeg 0
noncomputable def b_cf (r : Bk) (q : Int32) : Nat → Bk
  | 0 => r
  | n + 1 => cf1 (b_cf r q n) q (nI n)
noncomputable def n_make (r : Bk) (a k : Int32) : Bk := b_add r a k
def n_allot (r : Bk) (h a : Int32) : Bk :=
  let r1 := b2 r 3 h.toNatClampNeg (qv r 3 h + a)
  b2 r1 6 h.toNatClampNeg (qv r1 6 h + a)
def n_freeze (r : Bk) (h i : Int32) : Bk := b2 r 2 h.toNatClampNeg i
def n_setShare (r : Bk) (h x : Int32) : Bk := b2 r 8 h.toNatClampNeg x
def n_setCarried (r : Bk) (q : Int32) : Bk := b2 r 14 3 q
noncomputable def n_commit (r : Bk) (h a : Int32) : Bk := b_addC (b_cc r h a) h a (b_cc r h a 14 0)
noncomputable def n_pay (r : Bk) (c a : Int32) : Bk :=
  let r1 := b2 r 11 c.toNatClampNeg (qv r 11 c - a)
  let r2 := b2 r1 12 c.toNatClampNeg (qv r1 12 c + a)
  let r3 := b_sc r2 (qv r2 10 c) a
  b2 r3 14 5 (r3 14 5 + a)
noncomputable def n_endYear (r : Bk) : Bk :=
  let L := p_lapse r 0 (r 14 3) 20
  let r1 := b_cf r (r 14 3) 20
  let r2 := b2 r1 14 4 (r1 14 4 + L)
  b2 r2 14 0 (r2 14 0 + 1)
-- guards
noncomputable def g_make (r : Bk) (a k : Int32) : Int32 := ci (p_has r a) (ci (k < 0) (-1) (ci (k ≤ 9) (ci (qv r 9 a < 4) (ci (r 14 1 < 20) 0 (-3)) (-2)) (-1))) (-1)
noncomputable def g_allot (r : Bk) (h a : Int32) : Int32 := ci (p_has r h) (ci (p_amt a) (ci (qv r 3 h ≤ 1000000 - a) 0 (-3)) (-1)) (-1)
noncomputable def g_freeze (r : Bk) (h i : Int32) : Int32 := ci (p_has r h) (ci (i < 0) (-1) (ci (i ≤ 1) (ci (qv r 2 h = i) (-2) 0) (-1))) (-1)
noncomputable def g_setShare (r : Bk) (h x : Int32) : Int32 := ci (p_has r h) (ci (p_pct x) 0 (-1)) (-1)
noncomputable def g_setCarried (q : Int32) : Int32 := ci (p_pct q) 0 (-1)
noncomputable def g_commit (r : Bk) (h a : Int32) : Int32 := ci (p_has r h) (ci (p_amt a) (ci (p_bar r 5 h) (-2) (ci (a ≤ p_free r h) (ci (r 14 2 < 40) 0 (-3)) (-2))) (-1)) (-1)
noncomputable def g_pay (r : Bk) (c a : Int32) : Int32 := ci (p_hasC r c) (ci (p_amt a) (ci (a ≤ qv r 11 c) 0 (-2)) (-1)) (-1)
noncomputable def g_release (r : Bk) (c : Int32) : Int32 := ci (p_hasC r c) (ci (qv r 11 c = 0) (-2) 0) (-1)
noncomputable def g_vire (r : Bk) (f t a : Int32) : Int32 := ci (p_has r f ∧ p_has r t ∧ f ≠ t) (ci (p_amt a) (ci (a ≤ p_mov r f t) 0 (-2)) (-1)) (-1)
noncomputable def g_endYear (r : Bk) : Int32 := ci (r 14 0 < 99) 0 (-2)
noncomputable def g_rv (r : Bk) (t a : Int32) : Int32 := ci (a ≤ p_free r t) 0 (-2)
noncomputable def g_rc (r : Bk) (c : Int32) : Int32 := ci (p_hasC r c) (ci (qv r 11 c = 0) (-2) 0) (-2)
-- looks
noncomputable def v_count (r : Bk) (n w : Int32) : Int32 := ci (w = 0) (r 14 0) (ci (w = 1) (r 14 1) (ci (w = 2) (r 14 2) (ci (w = 3) (p_open r 40) (ci (w = 4) (p_cntb r 20) (ci (w = 5) (r 14 3) (ci (w = 6) (p_sum r 0 0 20) (ci (w = 7) (r 14 4) (ci (w = 8) (r 14 5) (ci (w = 9) n (-1))))))))))
noncomputable def v_head (r : Bk) (h w : Int32) : Int32 := ci (p_has r h) (ci (w = 0) (qv r 0 h) (ci (w = 1) (qv r 9 h) (ci (w = 2) (qv r 1 h) (ci (w = 3) (qv r 2 h) (ci (w = 4) (ci (p_bar r 5 h) 1 0) (ci (w = 5) (qv r 3 h) (ci (w = 6) (qv r 4 h) (ci (w = 7) (qv r 5 h) (ci (w = 8) (p_free r h) (ci (w = 9) (qv r 6 h) (ci (w = 10) (qv r 7 h) (ci (w = 11) (qv r 8 h) (-1))))))))))))) (-1)
noncomputable def v_total (r : Bk) (h w : Int32) : Int32 := ci (p_has r h) (ci (w < 0) (-1) (ci (w ≤ 4) (p_sum r h w 20) (-1))) (-1)
noncomputable def v_comm (r : Bk) (c w : Int32) : Int32 := ci (p_hasC r c) (ci (w = 0) (qv r 10 c) (ci (w = 1) (qv r 11 c) (ci (w = 2) (qv r 12 c) (ci (w = 3) (qv r 13 c) (-1))))) (-1)
noncomputable def v_most (r : Bk) (a b : Int32) : Int32 := ci (p_has r a ∧ p_has r b ∧ a ≠ b) (p_mov r a b) (-1)
noncomputable def v_giver (r : Bk) (b : Int32) : Int32 := ci (p_has r b) (p_best r b 20).1 (-1)
noncomputable def v_rich (r : Bk) (h i : Int32) : Int32 := ci (p_has r h) (ci (0 ≤ i) (p_place r h i 20) (-1)) (-1)
noncomputable def v_lapse (r : Bk) (h : Int32) : Int32 := ci (p_has r h) (p_lapse r h (r 14 3) 20) (-1)
-- the class's memory
noncomputable def p_slot (X : St) (i : Int32) : Int32 := p_fm (X 14 0 0 + X 14 0 1 - 1 - i) 12
def p_norec (X : St) (i : Int32) : Prop := i < 0 ∨ ¬ i < X 14 0 1
noncomputable def p_rec (ad : Nat → Nat) (X : St) (i : Int32) : Option Nat := ci (p_norec X i) none (some (ad (221 + (p_slot X i).toNatClampNeg)))
theorem p_rec_none {ad : Nat → Nat} {X : St} {i : Int32} (h : p_norec X i) : p_rec ad X i = none := ci_t h
theorem p_rec_some {ad : Nat → Nat} {X : St} {i : Int32} (h : ¬ p_norec X i) : p_rec ad X i = some (ad (221 + (p_slot X i).toNatClampNeg)) := ci_f h
theorem i3_tdiv (z : Int) : (0 ≤ z ∧ Int.tdiv z 12 = z / 12) ∨ (z < 0 ∧ Int.tdiv z 12 = -((-z) / 12)) := by
  by_cases h : 0 ≤ z
  · exact Or.inl ⟨h, Int.tdiv_eq_ediv_of_nonneg h⟩
  · refine Or.inr ⟨by omega, ?_⟩
    have e : Int.tdiv z 12 = -(Int.tdiv (-z) 12) := by rw [Int.neg_tdiv, Int.neg_neg]
    rw [e, Int.tdiv_eq_ediv_of_nonneg (by omega)]
theorem i3_12 (x : Int32) : (0 ≤ x.toInt ∧ 0 ≤ (x - x / 12 * 12).toInt ∧ (x - x / 12 * 12).toInt < 12) ∨ (x.toInt < 0 ∧ -12 < (x - x / 12 * 12).toInt ∧ (x - x / 12 * 12).toInt ≤ 0) := by
  have h1 := Int32.toInt_lt x
  have h2 := Int32.le_toInt x
  have h3 : (x / 12).toInt = x.toInt.tdiv 12 := by
    rw [Int32.toInt_div_of_ne_right _ _ (by decide), t_12]
  have h4 : (x / 12 * 12).toInt = x.toInt.tdiv 12 * 12 := by
    rw [Int32.toInt_mul, h3, t_12]
    rcases i3_tdiv x.toInt with ⟨a, b⟩ | ⟨a, b⟩ <;> rw [b] <;> exact Int.bmod_eq_of_le (by omega) (by omega)
  have h5 : (x - x / 12 * 12).toInt = x.toInt - x.toInt.tdiv 12 * 12 := by
    rw [Int32.toInt_sub, h4]
    rcases i3_tdiv x.toInt with ⟨a, b⟩ | ⟨a, b⟩ <;> rw [b] <;> exact Int.bmod_eq_of_le (by omega) (by omega)
  rw [h5]
  rcases i3_tdiv x.toInt with ⟨a, b⟩ | ⟨a, b⟩ <;> rw [b]
  · exact Or.inl ⟨a, by omega, by omega⟩
  · exact Or.inr ⟨a, by omega, by omega⟩
theorem i3_neg (x : Int32) : (x.toInt < 0) ↔ x.toBitVec.msb = true := by
  rw [BitVec.msb_eq_toInt]
  simp [Int32.toInt_toBitVec]
theorem i3_xor (x : Int32) : 0 ≤ x ^^^ 12 ↔ 0 ≤ x.toInt := by
  rw [i3_le, t_0]
  have h1 := i3_neg x
  have h2 := i3_neg (x ^^^ 12)
  rw [Int32.toBitVec_xor, BitVec.msb_xor, show (12 : Int32).toBitVec.msb = false from rfl, Bool.xor_false] at h2
  constructor <;> intro h
  · refine Int.not_lt.mp (fun q => ?_)
    exact absurd (h2.mpr (h1.mp q)) (by omega)
  · refine Int.not_lt.mp (fun q => ?_)
    exact absurd (h1.mpr (h2.mp q)) (by omega)
theorem fm12 (x : Int32) : 0 ≤ (p_fm x 12).toInt ∧ (p_fm x 12).toInt < 12 := by
  unfold p_fm
  by_cases h : 0 ≤ x ^^^ 12
  · rw [ci_t h]
    rcases i3_12 x with q | q
    · exact q.2
    · exact absurd ((i3_xor x).mp h) (by omega)
  · rw [ci_f h]
    have hx : x.toInt < 0 := Int.not_le.mp (fun q => h ((i3_xor x).mpr q))
    rcases i3_12 x with q | q
    · omega
    · by_cases e : x - x / 12 * 12 = 0
      · rw [ci_t e, e]
        decide
      · rw [ci_f e]
        have e2 : (x - x / 12 * 12).toInt ≠ 0 := fun z => e (i3_eq.mpr (by rw [z, t_0]))
        rw [Int32.toInt_add, t_12, Int.bmod_eq_of_le (by omega) (by omega)]
        omega
theorem fm12n {n : Nat} (h : n < 2 ^ 31) : p_fm (nI n) 12 = nI (n % 12) := by
  unfold p_fm
  rw [ci_t ((i3_xor _).mpr (by rw [nI_toInt h]; omega))]
  exact pk_rem h (by decide) (by decide)
theorem fm_in (x : Int32) : vp_in (p_fm x 12) 12 := vp_in_iff.mpr (fm12 x)
theorem fm_lt (x : Int32) : (p_fm x 12).toNatClampNeg < 12 := by
  have h := fm12 x
  show (p_fm x 12).toInt.toNat < 12
  omega
theorem slot_lt (X : St) (i : Int32) : (p_slot X i).toNatClampNeg < 12 := fm_lt _
noncomputable def m_held (X : St) : St := ci (12 ≤ X 14 0 1) (u3 X 14 0 0 (p_fm (X 14 0 0 + 1) 12)) (u3 X 14 0 1 (X 14 0 1 + 1))
noncomputable def m_num (X : St) : St := u3 (m_held X) 14 0 2 (m_held X 14 0 2 + 1)
/-- the place z takes a deed: the book as it is, and the deed's words -/
def m_put (X : St) (z : Nat) (k s t a : Int32) : St :=
  let X1 := sg X (z + 1) (X 0)
  let X2 := u3 X1 13 0 z (X1 14 0 2)
  let X3 := u3 X2 13 1 z k
  let X4 := u3 X3 13 2 z s
  let X5 := u3 X4 13 3 z t
  u3 X5 13 4 z a
noncomputable def N_rem (X : St) (k s t a : Int32) : St := ci (p_norec (m_num X) 0) (m_num X) (m_put (m_num X) (p_slot (m_num X) 0).toNatClampNeg k s t a)
theorem nI_lt12 {k : Nat} (h : k ≤ 40) (c : ¬ (12 : Int32) ≤ nI k) : k < 12 := by
  rw [i3_le, nI_t h, t_12] at c
  omega
theorem nI_ge12 {k : Nat} (h : k ≤ 12) (c : (12 : Int32) ≤ nI k) : k = 12 := by
  rw [i3_le, nI_t (by omega), t_12] at c
  omega
theorem m_nil (X : St) : sg X 0 (X 0) = X := sg_self X 0
def p_hit (X : St) (n : Int32) (i : Nat) : Prop := ¬ p_norec X (nI i) ∧ X 13 1 (p_slot X (nI i)).toNatClampNeg = 10 ∧ X 13 2 (p_slot X (nI i)).toNatClampNeg = n
def p_rev (X : St) (n : Int32) : Prop := ∃ i : Nat, i < 12 ∧ p_hit X n i
noncomputable def N_fl (X : St) : St := ci (X 14 0 1 ≤ 0) X (u3 X 14 0 1 (X 14 0 1 - 1))
noncomputable def a_fl (X : St) : Int32 := ci (X 14 0 1 ≤ 0) (X 14 0 1) (X 14 0 1 - 1)
theorem m_held_0 (X : St) {g : Nat} (h : g ≠ 14) : m_held X g = X g := by
  unfold m_held
  by_cases c : (12 : Int32) ≤ X 14 0 1
  · rw [ci_t c, u3_n _ _ _ _ _ h]
  · rw [ci_f c, u3_n _ _ _ _ _ h]
theorem m_num_0 (X : St) {g : Nat} (h : g ≠ 14) : m_num X g = X g := by
  unfold m_num
  rw [u3_n _ _ _ _ _ h, m_held_0 X h]
theorem N_rem_0 (X : St) (k s t a : Int32) : N_rem X k s t a 0 = X 0 := by
  unfold N_rem
  by_cases c : p_norec (m_num X) 0
  · rw [ci_t c, m_num_0 X (by omega)]
  · rw [ci_f c]
    unfold m_put
    rw [u3_n _ _ _ _ _ (by omega), u3_n _ _ _ _ _ (by omega), u3_n _ _ _ _ _ (by omega), u3_n _ _ _ _ _ (by omega), u3_n _ _ _ _ _ (by omega), sg_n _ _ _ (by omega), m_num_0 X (by omega)]
/-- a public deed of the class: its guard g, its kind and words, its book behind it -/
noncomputable def opX (X : St) (g k s t a : Int32) (r : Bk) : St := ci (g = 0) (sg (N_rem X k s t a) 0 r) X
noncomputable def opV (g v : Int32) : Int32 := ci (g = 0) v g
theorem opX_e {X : St} {g k s t a e : Int32} {r : Bk} (h : g = e) (he : e ≠ 0) : opX X g k s t a r = X := ci_f (by rw [h]; exact he)
theorem opX_0 {X : St} {g k s t a : Int32} {r : Bk} (h : g = 0) : opX X g k s t a r = sg (N_rem X k s t a) 0 r := ci_t h
theorem opV_e {g v e : Int32} (h : g = e) (he : e ≠ 0) : e = opV g v := by
  unfold opV
  rw [ci_f (by rw [h]; exact he), h]
theorem opV_0 {g v : Int32} (h : g = 0) : opV g v = v := ci_t h
theorem in_made {x : Int32} (h0 : ¬ x < 0) (h1 : x < 20) : vp_in x 20 := vp_in_iff.mpr (by rw [i3_lt, t_0] at h0; rw [i3_lt, t_20] at h1; exact ⟨by omega, by omega⟩)
theorem in_madeC {x : Int32} (h0 : ¬ x < 0) (h1 : x < 40) : vp_in x 40 := vp_in_iff.mpr (by rw [i3_lt, t_0] at h0; rw [i3_lt, t_40] at h1; exact ⟨by omega, by omega⟩)
/-- the class's other looks and deeds -/
noncomputable def V_deed (X : St) (i : Int32) : Int32 := ci (0 ≤ i) (ci (p_norec X i) (-9) (X 13 1 (p_slot X i).toNatClampNeg)) (-1)
noncomputable def N_undo (X : St) : St := ci (p_norec X 0) X (N_fl (sg X 0 (X ((p_slot X 0).toNatClampNeg + 1))))
noncomputable def R_undo (X : St) : Int32 := ci (p_norec X 0) (-2) (a_fl (sg X 0 (X ((p_slot X 0).toNatClampNeg + 1))))
noncomputable def N_rv (X : St) (n f t a : Int32) : St := opX X (g_rv (X 0) t a) 10 n (-9) 0 (b_mv (X 0) f t (-a))
noncomputable def R_rv (X : St) (t a : Int32) : Int32 := opV (g_rv (X 0) t a) a
noncomputable def N_rc (X : St) (n c : Int32) : St := opX X (g_rc (X 0) c) 10 n (-9) 0 (b_free0 (X 0) c)
noncomputable def R_rc (X : St) (c : Int32) : Int32 := opV (g_rc (X 0) c) (a_free0 (X 0) c)
noncomputable def N_rk (X : St) (z : Nat) : St := ci (X (z + 1) 14 0 = X 0 14 0) (ci (p_rev X (X 13 0 z)) X (ci (X 13 1 z = 8) (N_rv X (X 13 0 z) (X 13 2 z) (X 13 3 z) (X 13 4 z)) (ci (X 13 1 z = 5) (N_rc X (X 13 0 z) (X 13 2 z)) X))) X
noncomputable def R_rk (X : St) (z : Nat) : Int32 := ci (X (z + 1) 14 0 = X 0 14 0) (ci (p_rev X (X 13 0 z)) (-2) (ci (X 13 1 z = 8) (R_rv X (X 13 3 z) (X 13 4 z)) (ci (X 13 1 z = 5) (R_rc X (X 13 2 z)) (-2)))) (-2)
noncomputable def N_revoke (X : St) (i : Int32) : St := ci (0 ≤ i) (ci (p_norec X i) X (N_rk X (p_slot X i).toNatClampNeg)) X
noncomputable def R_revoke (X : St) (i : Int32) : Int32 := ci (0 ≤ i) (ci (p_norec X i) (-2) (R_rk X (p_slot X i).toNatClampNeg)) (-1)

