/-! BOTH TOGETHER: a step of the class and the same step of the reference keep the relation and answer alike -/
def Rel (t : Nat) (X Y : St) : Prop := ∃ (r : Bk) (n o L : Nat) (B : Nat → Bk) (F : Nat → Nat → Int32) (N : Nat → Nat), MemOk (100000 * (t : Int)) n L (fun _ => False) r B F N ∧ LX n o L X r B F ∧ LY n L Y r B F ∧ L ≤ t
section
variable {t n o L : Nat} {K : Int} {P : Int32 → Prop} {X Y : St} {r r' : Bk} {B : Nat → Bk} {F : Nat → Nat → Int32} {N : Nat → Nat} {k o1 o2 a s u b g i : Int32}
theorem rel_push (m : MemOk K n L P r B F N) (x : LX n o L X r B F) (y : LY n L Y r B F) (hL : L + 1 ≤ 1000) (ok : Ok (K + 100000) r') (le : le_bk r r')
  (c8 : k = 8 → s = o1 ∧ u = o2 ∧ b = a ∧ o1 ≠ o2 ∧ p_amt a ∧ p_has r' o1 ∧ p_has r' o2) (c5 : k = 5 → s = o1 ∧ p_hasC r' o1)
  (c10 : k = 10 → s = o1 + 1 ∧ (∃ M, M < L ∧ o1 = nI M) ∧ (∀ j, j < n → F 0 j = 10 → F 1 j ≠ o1) ∧ ∀ w, P w ↔ w = o1) (cP : k ≠ 10 → ∀ w, ¬ P w) :
  ∃ (n' o' : Nat) (B' : Nat → Bk) (F' : Nat → Nat → Int32) (N' : Nat → Nat), MemOk (K + 100000) n' (L + 1) (fun _ => False) r' B' F' N' ∧ LX n' o' (L + 1) (sg (N_rem X k s u b) 0 r') r' B' F' ∧ LY n' (L + 1) (sg (N_remM Y n k o1 o2 a) 0 r') r' B' F' := by
  have hn := y.hn
  unfold N_remM
  by_cases e : n = 12
  · subst e
    rw [ci_t rfl, x.remD]
    refine ⟨_, _, _, _, _, m.drop.push hL ok le (fun z => (c8 z).2.2.2) (fun z => (c5 z).2) (fun z => ⟨(c10 z).2.1, fun j hj => (c10 z).2.2.1 (j + 1) (by omega), (c10 z).2.2.2⟩) cP, x.drop.push (by omega) (r 14 0) (fun z => ⟨(c8 z).1, (c8 z).2.1, (c8 z).2.2.1⟩) (fun z => (c5 z).1) (fun z => (c10 z).1), ?_⟩
    exact y.drop.push (by omega)
  · rw [ci_f e]
    exact ⟨_, _, _, _, _, m.push hL ok le (fun z => (c8 z).2.2.2) (fun z => (c5 z).2) (fun z => (c10 z).2) cP, x.push (by omega) (r 14 0) (fun z => ⟨(c8 z).1, (c8 z).2.1, (c8 z).2.2.1⟩) (fun z => (c5 z).1) (fun z => (c10 z).1), y.push (by omega)⟩
theorem k_1 (t : Nat) : 100000 * ((t + 1 : Nat) : Int) = 100000 * (t : Int) + 100000 := by omega
theorem rel_mono (ht : t + 1 ≤ 600) (v : Rel t X Y) : Rel (t + 1) X Y := by
  obtain ⟨r, n, o, L, B, F, N, m, x, y, l⟩ := v
  exact ⟨r, n, o, L, B, F, N, m.mono (by omega) (by omega), x, y, by omega⟩
theorem rel_op (ht : t + 1 ≤ 600) (m : MemOk (100000 * (t : Int)) n L (fun _ => False) r B F N) (x : LX n o L X r B F) (y : LY n L Y r B F) (l : L ≤ t) (hk : k ≠ 10)
  (h : g = 0 → Ok (100000 * (t : Int) + 100000) r' ∧ le_bk r r' ∧ (k = 8 → s = o1 ∧ u = o2 ∧ b = a ∧ o1 ≠ o2 ∧ p_amt a ∧ p_has r' o1 ∧ p_has r' o2) ∧ (k = 5 → s = o1 ∧ p_hasC r' o1)) :
  Rel (t + 1) (opX X g k s u b r') (opY Y n g k o1 o2 a r') := by
  by_cases e : g = 0
  · rw [opX_0 e, opY_0 e]
    have w := h e
    obtain ⟨n', o', B', F', N', m', x', y'⟩ := rel_push (k := k) (s := s) (u := u) (b := b) (o1 := o1) (o2 := o2) (a := a) m x y (by omega) w.1 w.2.1 w.2.2.1 w.2.2.2 (fun z => absurd z hk) (fun _ _ z => z)
    exact ⟨r', n', o', L + 1, B', F', N', by rw [k_1]; exact m', x', y', by omega⟩
  · rw [opX_e rfl e, opY_e rfl e]
    exact rel_mono ht ⟨r, n, o, L, B, F, N, m, x, y, l⟩
/-- what each deed asks of its guard -/
theorem opX_eq (h : g = 0 → r = r') : opX X g k s u b r = opX X g k s u b r' := by
  by_cases e : g = 0
  · rw [h e]
  · rw [opX_e rfl e, opX_e rfl e]
theorem opV_eq {v w : Int32} (h : g = 0 → v = w) : opV g v = opV g w := by
  unfold opV
  by_cases e : g = 0
  · rw [ci_t e, ci_t e, h e]
  · rw [ci_f e, ci_f e]
theorem ci0 {Q : Prop} {x e : Int32} (h : ci Q x e = 0) (he : e ≠ 0) : Q ∧ x = 0 := by
  by_cases c : Q
  · rw [ci_t c] at h
    exact ⟨c, h⟩
  · rw [ci_f c] at h
    exact absurd h he
theorem ci0n {Q : Prop} {x e : Int32} (h : ci Q e x = 0) (he : e ≠ 0) : ¬ Q ∧ x = 0 := by
  by_cases c : Q
  · rw [ci_t c] at h
    exact absurd h he
  · rw [ci_f c] at h
    exact ⟨c, h⟩
theorem n1 : (-1 : Int32) ≠ 0 := by decide
theorem n2 : (-2 : Int32) ≠ 0 := by decide
theorem n3 : (-3 : Int32) ≠ 0 := by decide
theorem rel_ok (v : Rel t X Y) : Ok (100000 * (t : Int)) (Y 0) ∧ X 0 = Y 0 := by
  obtain ⟨r, n, o, L, B, F, N, m, x, y, l⟩ := v
  rw [y.y0]
  exact ⟨m.ok, x.x0⟩
theorem rel_n (v : Rel t X Y) : ∃ n : Nat, n ≤ 12 ∧ Y 14 0 0 = nI n ∧ X 14 0 1 = nI n := by
  obtain ⟨r, n, o, L, B, F, N, m, x, y, l⟩ := v
  exact ⟨n, y.hn, y.yn, x.xn⟩
theorem nn_eq {n n' : Nat} (h : n ≤ 12) (h' : n' ≤ 12) (e : nI n = nI n') : n = n' := (nI_eq (by omega) (by omega)).mp e
-- the deeds
theorem st_make (ht : t + 1 ≤ 600) (v : Rel t X Y) (hn : n ≤ 12) (hd : Y 14 0 0 = nI n) : Rel (t + 1) (opX X (g_make (X 0) a k) 0 (-9) (-9) 0 (n_make (X 0) a k)) (opY Y n (g_make (Y 0) a k) 0 a k 0 (n_make (Y 0) a k)) ∧ opV (g_make (X 0) a k) (a_add (X 0)) = opV (g_make (Y 0) a k) (Y 0 14 1) := by
  obtain ⟨r, n', o, L, B, F, N, m, x, y, l⟩ := v
  have e := nn_eq y.hn hn (y.yn.symm.trans hd)
  subst e
  rw [x.x0, y.y0]
  have G : g_make r a k = 0 → p_has r a ∧ p_in k 0 9 ∧ ¬ qv r 9 a = 4 ∧ ¬ r 14 1 = 20 := fun z => by
    rw [gm_make m.ok] at z
    obtain ⟨z1, z⟩ := ci0 z n1
    obtain ⟨z2, z⟩ := ci0 z n1
    obtain ⟨z3, z⟩ := ci0n z n2
    obtain ⟨z4, z⟩ := ci0n z n3
    exact ⟨z1, z2, z3, z4⟩
  refine ⟨rel_op ht m x y l (by decide) (fun z => ?_), opV_eq (fun z => ?_)⟩
  · have w := G z
    have q := ok_make m.ok w.1 w.2.1 w.2.2.1 w.2.2.2
    exact ⟨Ok_mono (by omega) (by omega) q.1, q.2, fun z => absurd z (by decide), fun z => absurd z (by decide)⟩
  · have w := G z
    have h1 := m.ok.S.1
    exact mk_val m.ok (by rw [i3_lt, t_20]; have := w.2.2.2; rw [i3_eq, t_20] at this; omega)
theorem st_allot {h : Int32} (ht : t + 1 ≤ 600) (v : Rel t X Y) (hn : n ≤ 12) (hd : Y 14 0 0 = nI n) : Rel (t + 1) (opX X (g_allot (X 0) h a) 1 (-9) (-9) 0 (n_allot (X 0) h a)) (opY Y n (g_allot (Y 0) h a) 1 h 0 a (n_allot (Y 0) h a)) ∧ opV (g_allot (X 0) h a) (qv (n_allot (X 0) h a) 3 h) = opV (g_allot (Y 0) h a) (qv (n_allot (Y 0) h a) 3 h) := by
  obtain ⟨r, n', o, L, B, F, N, m, x, y, l⟩ := v
  have e := nn_eq y.hn hn (y.yn.symm.trans hd)
  subst e
  rw [x.x0, y.y0]
  refine ⟨rel_op ht m x y l (by decide) (fun z => ?_), rfl⟩
  obtain ⟨z1, z⟩ := ci0 z n1
  obtain ⟨z2, z⟩ := ci0 z n1
  have q := ok_allot m.ok z1 z2 (by omega)
  exact ⟨q.1, q.2, fun z => absurd z (by decide), fun z => absurd z (by decide)⟩
theorem st_freeze {h w : Int32} (ht : t + 1 ≤ 600) (v : Rel t X Y) (hn : n ≤ 12) (hd : Y 14 0 0 = nI n) : Rel (t + 1) (opX X (g_freeze (X 0) h w) 2 (-9) (-9) 0 (n_freeze (X 0) h w)) (opY Y n (g_freeze (Y 0) h w) 2 h 0 w (n_freeze (Y 0) h w)) ∧ opV (g_freeze (X 0) h w) (p_cntb (n_freeze (X 0) h w) 20) = opV (g_freeze (Y 0) h w) (p_cntb (n_freeze (Y 0) h w) 20) := by
  obtain ⟨r, n', o, L, B, F, N, m, x, y, l⟩ := v
  have e := nn_eq y.hn hn (y.yn.symm.trans hd)
  subst e
  rw [x.x0, y.y0]
  refine ⟨rel_op ht m x y l (by decide) (fun z => ?_), rfl⟩
  rw [gm_freeze] at z
  obtain ⟨z1, z⟩ := ci0 z n1
  obtain ⟨z2, z⟩ := ci0 z n1
  have q := ok_frz (h := h) m.ok z2
  exact ⟨Ok_mono (by omega) (by omega) q.1, q.2, fun z => absurd z (by decide), fun z => absurd z (by decide)⟩
theorem st_share {h w : Int32} (ht : t + 1 ≤ 600) (v : Rel t X Y) (hn : n ≤ 12) (hd : Y 14 0 0 = nI n) : Rel (t + 1) (opX X (g_setShare (X 0) h w) 3 (-9) (-9) 0 (n_setShare (X 0) h w)) (opY Y n (g_setShare (Y 0) h w) 3 h 0 w (n_setShare (Y 0) h w)) ∧ opV (g_setShare (X 0) h w) (qv (X 0) 8 h) = opV (g_setShare (Y 0) h w) (qv (Y 0) 8 h) := by
  obtain ⟨r, n', o, L, B, F, N, m, x, y, l⟩ := v
  have e := nn_eq y.hn hn (y.yn.symm.trans hd)
  subst e
  rw [x.x0, y.y0]
  refine ⟨rel_op ht m x y l (by decide) (fun z => ?_), rfl⟩
  have q := ok_share m.ok h.toNatClampNeg w
  exact ⟨Ok_mono (by omega) (by omega) q.1, q.2, fun z => absurd z (by decide), fun z => absurd z (by decide)⟩
theorem st_carried {w : Int32} (ht : t + 1 ≤ 600) (v : Rel t X Y) (hn : n ≤ 12) (hd : Y 14 0 0 = nI n) : Rel (t + 1) (opX X (g_setCarried w) 4 (-9) (-9) 0 (n_setCarried (X 0) w)) (opY Y n (g_setCarried w) 4 0 0 w (n_setCarried (Y 0) w)) ∧ opV (g_setCarried w) (X 0 14 3) = opV (g_setCarried w) (Y 0 14 3) := by
  obtain ⟨r, n', o, L, B, F, N, m, x, y, l⟩ := v
  have e := nn_eq y.hn hn (y.yn.symm.trans hd)
  subst e
  rw [x.x0, y.y0]
  refine ⟨rel_op ht m x y l (by decide) (fun z => ?_), rfl⟩
  obtain ⟨z1, z⟩ := ci0 z n1
  have q := ok_num m.ok (i := 3) (v := w) (by omega) (by omega) (fun z => by omega) (fun _ => z1)
  exact ⟨Ok_mono (by omega) (by omega) q.1, q.2, fun z => absurd z (by decide), fun z => absurd z (by decide)⟩
theorem st_commit {h : Int32} (ht : t + 1 ≤ 600) (v : Rel t X Y) (hn : n ≤ 12) (hd : Y 14 0 0 = nI n) : Rel (t + 1) (opX X (g_commit (X 0) h a) 5 (X 0 14 2) (-9) 0 (n_commit (X 0) h a)) (opY Y n (g_commit (Y 0) h a) 5 (Y 0 14 2) 0 a (m_commit (Y 0) h a)) ∧ opV (g_commit (X 0) h a) (a_addC (b_cc (X 0) h a)) = opV (g_commit (Y 0) h a) (Y 0 14 2) := by
  obtain ⟨r, n', o, L, B, F, N, m, x, y, l⟩ := v
  have e := nn_eq y.hn hn (y.yn.symm.trans hd)
  subst e
  rw [x.x0, y.y0]
  have G : g_commit r h a = 0 → p_has r h ∧ p_amt a ∧ a ≤ fr r h ∧ ¬ r 14 2 = 40 := fun z => by
    rw [gm_commit m.ok] at z
    obtain ⟨z1, z⟩ := ci0 z n1
    obtain ⟨z2, z⟩ := ci0 z n1
    obtain ⟨z3, z⟩ := ci0n z n2
    obtain ⟨z4, z⟩ := ci0 z n2
    obtain ⟨z5, z⟩ := ci0n z n3
    exact ⟨z1, z2, z4, z5⟩
  rw [opX_eq (r := n_commit r h a) (r' := m_commit r h a) (fun z => (cmt_eq m.ok (G z).1 (G z).2.2.2).1)]
  refine ⟨rel_op ht m x y l (by decide) (fun z => ?_), opV_eq (fun z => (cmt_eq m.ok (G z).1 (G z).2.2.2).2)⟩
  have w := G z
  have q := ok_commit m.ok w.1 w.2.1 w.2.2.1 w.2.2.2 (by omega)
  exact ⟨q.1, q.2.1, fun z => absurd z (by decide), fun _ => ⟨rfl, q.2.2⟩⟩
theorem st_pay {h : Int32} (ht : t + 1 ≤ 600) (v : Rel t X Y) (hn : n ≤ 12) (hd : Y 14 0 0 = nI n) : Rel (t + 1) (opX X (g_pay (X 0) h a) 6 (-9) (-9) 0 (n_pay (X 0) h a)) (opY Y n (g_pay (Y 0) h a) 6 h 0 a (m_pay (Y 0) h a)) ∧ opV (g_pay (X 0) h a) (qv (n_pay (X 0) h a) 11 h) = opV (g_pay (Y 0) h a) (qv (m_pay (Y 0) h a) 11 h) := by
  obtain ⟨r, n', o, L, B, F, N, m, x, y, l⟩ := v
  have e := nn_eq y.hn hn (y.yn.symm.trans hd)
  subst e
  rw [x.x0, y.y0]
  have G : g_pay r h a = 0 → p_hasC r h ∧ p_amt a ∧ a ≤ qv r 11 h := fun z => by
    obtain ⟨z1, z⟩ := ci0 z n1
    obtain ⟨z2, z⟩ := ci0 z n1
    obtain ⟨z3, z⟩ := ci0 z n2
    exact ⟨z1, z2, z3⟩
  rw [opX_eq (r := n_pay r h a) (r' := m_pay r h a) (fun z => py_eq m.ok (G z).1)]
  refine ⟨rel_op ht m x y l (by decide) (fun z => ?_), opV_eq (fun z => by rw [py_eq m.ok (G z).1])⟩
  have w := G z
  have q := ok_pay m.ok w.1 w.2.1 w.2.2 (by omega)
  exact ⟨q.1, q.2, fun z => absurd z (by decide), fun z => absurd z (by decide)⟩
theorem st_release {h : Int32} (ht : t + 1 ≤ 600) (v : Rel t X Y) (hn : n ≤ 12) (hd : Y 14 0 0 = nI n) : Rel (t + 1) (opX X (g_release (X 0) h) 7 (-9) (-9) 0 (b_free0 (X 0) h)) (opY Y n (g_release (Y 0) h) 7 h 0 0 (m_free0 (Y 0) h)) ∧ opV (g_release (X 0) h) (a_free0 (X 0) h) = opV (g_release (Y 0) h) (qv (Y 0) 11 h) := by
  obtain ⟨r, n', o, L, B, F, N, m, x, y, l⟩ := v
  have e := nn_eq y.hn hn (y.yn.symm.trans hd)
  subst e
  rw [x.x0, y.y0]
  have G : g_release r h = 0 → p_hasC r h := fun z => (ci0 z n1).1
  rw [opX_eq (r := b_free0 r h) (r' := m_free0 r h) (fun z => (fre_eq m.ok (G z)).1)]
  refine ⟨rel_op ht m x y l (by decide) (fun z => ?_), opV_eq (fun z => (fre_eq m.ok (G z)).2)⟩
  have q := ok_free m.ok (G z) (by omega)
  exact ⟨q.1, q.2, fun z => absurd z (by decide), fun z => absurd z (by decide)⟩
theorem am_t (h : p_amt a) : 1 ≤ a.toInt ∧ a.toInt ≤ 100000 := h
theorem st_vire {f w : Int32} (ht : t + 1 ≤ 600) (v : Rel t X Y) (hn : n ≤ 12) (hd : Y 14 0 0 = nI n) : Rel (t + 1) (opX X (g_vire (X 0) f w a) 8 f w a (b_mv (X 0) f w a)) (opY Y n (g_vire (Y 0) f w a) 8 f w a (m_vire (Y 0) f w a)) ∧ opV (g_vire (X 0) f w a) (p_free (b_mv (X 0) f w a) f) = opV (g_vire (Y 0) f w a) (fr (m_vire (Y 0) f w a) f) := by
  obtain ⟨r, n', o, L, B, F, N, m, x, y, l⟩ := v
  have e := nn_eq y.hn hn (y.yn.symm.trans hd)
  subst e
  rw [x.x0, y.y0]
  have G : g_vire r f w a = 0 → (p_has r f ∧ p_has r w ∧ f ≠ w) ∧ p_amt a ∧ ¬ fr r f < a := fun z => by
    rw [gm_vire] at z
    obtain ⟨z1, z⟩ := ci0 z n1
    obtain ⟨z2, z⟩ := ci0 z n1
    obtain ⟨z3, z⟩ := ci0n z n2
    exact ⟨z1, z2, z3⟩
  have Q : g_vire r f w a = 0 → Ok (100000 * (t : Int) + 100000) (m_vire r f w a) ∧ le_bk r (m_vire r f w a) := fun z => by
    have q := G z
    have f1 := fr_t m.ok q.1.2.1
    have am := am_t q.2.1
    have z3 := q.2.2
    rw [i3_lt] at z3
    rw [← vr_eq q.1]
    unfold b_mv
    rw [ci_t q.1]
    exact ok_mv m.ok q.1.1 q.1.2.1 q.1.2.2 (by omega) (by omega) (by omega) (by omega)
  rw [opX_eq (r := b_mv r f w a) (r' := m_vire r f w a) (fun z => vr_eq (G z).1)]
  refine ⟨rel_op ht m x y l (by decide) (fun z => ?_), opV_eq (fun z => ?_)⟩
  · have q := G z
    have k1 := Q z
    exact ⟨k1.1, k1.2, fun _ => ⟨rfl, rfl, rfl, q.1.2.2, q.2.1, le_has k1.2 q.1.1, le_has k1.2 q.1.2.1⟩, fun z => absurd z (by decide)⟩
  · have q := G z
    have k1 := Q z
    rw [vr_eq q.1, free_fr (le_has k1.2 q.1.1)]
theorem st_endYear (ht : t + 1 ≤ 600) (v : Rel t X Y) (hn : n ≤ 12) (hd : Y 14 0 0 = nI n) : Rel (t + 1) (opX X (g_endYear (X 0)) 9 (-9) (-9) 0 (n_endYear (X 0))) (opY Y n (g_endYear (Y 0)) 9 0 0 0 (m_endYear (Y 0))) ∧ opV (g_endYear (X 0)) (p_lapse (X 0) 0 (X 0 14 3) 20) = opV (g_endYear (Y 0)) (m_eyS (Y 0) (md (Y 0))) := by
  obtain ⟨r, n', o, L, B, F, N, m, x, y, l⟩ := v
  have e := nn_eq y.hn hn (y.yn.symm.trans hd)
  subst e
  rw [x.x0, y.y0, ey_eq m.ok, ey_sum m.ok]
  refine ⟨rel_op ht m x y l (by decide) (fun z => ?_), rfl⟩
  rw [gm_endYear m.ok] at z
  have q := ok_endYear m.ok (ci0n z n2).1
  exact ⟨Ok_mono (by omega) (by omega) q.1, q.2, fun z => absurd z (by decide), fun z => absurd z (by decide)⟩
theorem st_undo (ht : t + 1 ≤ 600) (v : Rel t X Y) (hn : n ≤ 12) (hd : Y 14 0 0 = nI n) : Rel (t + 1) (N_undo X) (ci (n = 0) Y (N_undoM Y (n - 1))) ∧ R_undo X = ci (n = 0) (-2) (nI (n - 1)) := by
  obtain ⟨r, n', o, L, B, F, N, m, x, y, l⟩ := v
  have e := nn_eq y.hn hn (y.yn.symm.trans hd)
  subst e
  by_cases e : n' = 0
  · have c0 : p_norec X 0 := (x.norec (by decide)).mpr (by rw [e]; decide)
    rw [ci_t e, ci_t e]
    unfold N_undo R_undo
    rw [ci_t c0, ci_t c0]
    exact ⟨rel_mono ht ⟨r, n', o, L, B, F, N, m, x, y, l⟩, rfl⟩
  · obtain ⟨j, ej⟩ : ∃ j : Nat, n' = j + 1 := ⟨n' - 1, by omega⟩
    subst ej
    rw [ci_f e, ci_f e, show j + 1 - 1 = j by omega]
    have w := x.undo
    exact ⟨rel_mono ht ⟨B j, j, o, L, B, uF F j, N, m.undo, w.1, y.undo, l⟩, w.2⟩
end
