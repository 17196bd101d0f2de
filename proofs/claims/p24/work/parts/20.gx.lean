/-! THE CLASS'S STATE IN ORDER: its book, and the books and words of the deeds that it remembers; what each deed does to it -/
section
variable {X : St} {r r' : Bk} {k s u b g : Int32}
theorem n1 : (-1 : Int32) ≠ 0 := by decide
theorem n2 : (-2 : Int32) ≠ 0 := by decide
theorem n3 : (-3 : Int32) ≠ 0 := by decide
theorem ci0 {Q : Prop} {x e : Int32} (h : ci Q x e = 0) (he : e ≠ 0) : Q ∧ x = 0 := by
  by_cases c : Q
  · rw [ci_t c] at h
    exact ⟨c, h⟩
  · rw [ci_f c] at h
    exact absurd h he
theorem ci0n {Q : Prop} {x e : Int32} (h : ci Q e x = 0) (he : e ≠ 0) : ¬ Q ∧ x = 0 := by
  by_cases c : Q
  · rw [ci_t c] at h
    exact absurd h he
  · rw [ci_f c] at h
    exact ⟨c, h⟩
end
def Sg (K : Int) (B : Bk) (k a : Int32) : Prop := Gd K B ∧ (0 ≤ k.toInt ∧ k.toInt ≤ 10) ∧ (k = 8 → p_amt a)
def GXn (n : Nat) (K : Int) (X : St) : Prop := ∃ (o L : Nat) (B : Nat → Bk) (F : Nat → Nat → Int32), LX n o L X (X 0) B F ∧ Gd K (X 0) ∧ ∀ i, i < n → Sg K (B i) (F 0 i) (F 3 i)
def GX (K : Int) (X : St) : Prop := ∃ n : Nat, GXn n K X
def StpG (K : Int) (X X' : St) (v : Int32) : Prop := GX K X' ∧ (v.toInt < 0 → X' 0 = X 0) ∧ (0 ≤ v.toInt → 0 ≤ (R_undo X').toInt ∧ (N_undo X') 0 = X 0)
def Ng (g : Int32) : Prop := g ≠ 0 → g.toInt < 0
theorem ng_0 : Ng 0 := fun h => absurd rfl h
theorem ng_1 : Ng (-1) := fun _ => by decide
theorem ng_2 : Ng (-2) := fun _ => by decide
theorem ng_3 : Ng (-3) := fun _ => by decide
theorem ng_ci {P : Prop} {x y : Int32} (h1 : Ng x) (h2 : Ng y) : Ng (ci P x y) := by
  by_cases c : P
  · rw [ci_t c]
    exact h1
  · rw [ci_f c]
    exact h2
theorem sumI_t {f : Nat → Int32} {M : Int} : ∀ {n : Nat}, (n : Int) * M ≤ 2000000000 → 0 ≤ M → (∀ k, k < n → 0 ≤ (f k).toInt ∧ (f k).toInt ≤ M) → 0 ≤ (sumI f n).toInt ∧ (sumI f n).toInt ≤ n * M := by
  intro n
  induction n with
  | zero =>
    intro _ _ _
    show 0 ≤ (0 : Int32).toInt ∧ (0 : Int32).toInt ≤ ((0 : Nat) : Int) * M
    rw [t_0]
    omega
  | succ n ih =>
    intro h1 h2 h
    have e : ((n + 1 : Nat) : Int) * M = n * M + M := by rw [Int.natCast_succ, Int.add_mul, Int.one_mul]
    rw [e] at h1 ⊢
    have w := ih (by omega) h2 (fun k hk => h k (by omega))
    have q := h n (by omega)
    show 0 ≤ (sumI f n + f n).toInt ∧ (sumI f n + f n).toInt ≤ _
    rw [ad_t (by omega)]
    omega
section
variable {K : Int} {n o L : Nat} {X : St} {r r' : Bk} {B : Nat → Bk} {F : Nat → Nat → Int32} {k s u b g w h a q f t x i : Int32}
theorem com_t (v : Gd K r) {j : Nat} (hj : j < 20) : 0 ≤ (r 4 j).toInt := by
  rw [v.2.1 j hj]
  unfold s_com
  have h9 := mc_40 v.1
  refine (sumI_t (M := 100000) (by omega) (by omega) (fun c hc => ?_)).1
  have w := v.1.C c hc
  by_cases z : r 10 c = nI j
  · rw [ci_t z]
    by_cases y : (c : Int) < (r 14 2).toInt
    · exact (w.1 y).2
    · rw [(w.2 (by omega)).1, t_0]
      omega
  · rw [ci_f z, t_0]
    omega
theorem free_t (v : Ok K r) : 0 ≤ (p_free r h).toInt ∧ (p_free r h).toInt ≤ 2 * K := by
  have hB := v.B
  by_cases p : p_has r h
  · rw [free_fr p]
    exact (fr_t v p).2
  · unfold p_free
    rw [ci_f p, t_0]
    omega
theorem cntb_t : 0 ≤ (p_cntb r 20).toInt := by
  unfold p_cntb
  refine (sumI_t (M := 1) (by omega) (by omega) (fun c hc => ?_)).1
  by_cases z : p_bar r 5 (nI c)
  · rw [ci_t z, t_1]
    omega
  · rw [ci_f z, t_0]
    omega
theorem lapse1_t (v : Ok K r) (hB : K ≤ 10000000) : 0 ≤ (p_free r h - p_part (p_free r h) (r 14 3)).toInt ∧ (p_free r h - p_part (p_free r h) (r 14 3)).toInt ≤ (p_free r h).toInt ∧ (p_free r h).toInt ≤ 20000000 := by
  have f1 := free_t v (h := h)
  have pt := part_t f1.1 v.N.2.2
  rw [su_t (by omega)]
  omega
theorem lapse_t (v : Ok K r) (hB : K ≤ 10000000) : 0 ≤ (p_lapse r t (r 14 3) 20).toInt := by
  unfold p_lapse
  refine (sumI_t (M := 20000000) (by omega) (by omega) (fun c hc => ?_)).1
  have w := lapse1_t v hB (h := nI c)
  by_cases z : p_wit r 5 (nI c) t
  · rw [ci_t z]
    omega
  · rw [ci_f z, t_0]
    omega
theorem GXn.mk1 (x : LX n o L X r B F) (v : Gd K r) (h : ∀ i, i < n → Sg K (B i) (F 0 i) (F 3 i)) : GXn n K X := by
  have e := x.x0
  subst e
  exact ⟨o, L, B, F, x, v, h⟩
theorem GX.gd (v : GX K X) : Gd K (X 0) := by
  obtain ⟨n, o, L, B, F, x, g, h⟩ := v
  exact g
theorem GXn.mono {K' : Int} (hK : K ≤ K') (hB : K' ≤ 60000000) (v : GXn n K X) : GXn n K' X := by
  obtain ⟨o, L, B, F, x, g, h⟩ := v
  exact ⟨o, L, B, F, x, Gd_mono hK hB g, fun i hi => ⟨Gd_mono hK hB (h i hi).1, (h i hi).2⟩⟩
theorem GX.mono {K' : Int} (hK : K ≤ K') (hB : K' ≤ 60000000) (v : GX K X) : GX K' X := by
  obtain ⟨n, v⟩ := v
  exact ⟨n, v.mono hK hB⟩
theorem GXn.held (v : GXn n K X) : X 14 0 1 = nI n ∧ n ≤ 12 := by
  obtain ⟨o, L, B, F, x, g, h⟩ := v
  exact ⟨x.xn, x.hn⟩
theorem LX.push1 (v : LX n o L X r B F) (hn : n < 12) : LX (n + 1) o (L + 1) (sg (N_rem X k s u b) 0 r') r' (pB B n r) (pF F n (vF k (if k = 10 then s - 1 else s) u b 0 (nI L))) :=
  v.push hn 0 (fun z => ⟨by rw [if_neg (by rw [z]; decide)], rfl, rfl⟩) (fun z => by rw [if_neg (by rw [z]; decide)]) (fun z => by rw [if_pos z]; grind)
theorem gx_push (x : LX n o L X r B F) (hn : n < 12) (v : Gd K r) (h : ∀ i, i < n → Sg K (B i) (F 0 i) (F 3 i)) (hB : K + 100000 ≤ 60000000) (hr : Gd (K + 100000) r') (hk : 0 ≤ k.toInt ∧ k.toInt ≤ 10) (c8 : k = 8 → p_amt b) : GX (K + 100000) (sg (N_rem X k s u b) 0 r') ∧ 0 ≤ (R_undo (sg (N_rem X k s u b) 0 r')).toInt ∧ (N_undo (sg (N_rem X k s u b) 0 r')) 0 = r := by
  have p := x.push1 (k := k) (s := s) (u := u) (b := b) (r' := r') hn
  refine ⟨⟨n + 1, GXn.mk1 p hr (fun i hi => ?_)⟩, ?_, ?_⟩
  · by_cases z : i = n
    · subst z
      rw [pB_n, pF_n, pF_n]
      show Sg (K + 100000) r k b
      exact ⟨Gd_mono (by omega) hB v, hk, c8⟩
    · rw [pB_o z, pF_o z, pF_o z]
      have w := h i (by omega)
      exact ⟨Gd_mono (by omega) hB w.1, w.2⟩
  · rw [p.undo.2, nI_toInt (by omega)]
    omega
  · rw [p.undo.1.x0, pB_n]
/-- a deed -/
theorem GX.op (v : GX K X) (hB : K + 100000 ≤ 60000000) (hr : Gd (K + 100000) r') (hk : 0 ≤ k.toInt ∧ k.toInt ≤ 10) (c8 : k = 8 → p_amt b) : GX (K + 100000) (sg (N_rem X k s u b) 0 r') ∧ 0 ≤ (R_undo (sg (N_rem X k s u b) 0 r')).toInt ∧ (N_undo (sg (N_rem X k s u b) 0 r')) 0 = X 0 := by
  obtain ⟨n, o, L, B, F, x, g, h⟩ := v
  have hn := x.hn
  by_cases e : n = 12
  · subst e
    rw [x.remD]
    exact gx_push x.drop (by omega) g (fun i hi => h (i + 1) (by omega)) hB hr hk c8
  · exact gx_push x (by omega) g h hB hr hk c8
/-- undoing -/
theorem GXn.undo (v : GXn (n + 1) K X) : GXn n K (N_undo X) ∧ R_undo X = nI n := by
  obtain ⟨o, L, B, F, x, g, h⟩ := v
  have w := x.undo
  refine ⟨GXn.mk1 w.1 (h n (by omega)).1 (fun i hi => ?_), w.2⟩
  rw [uF_o (by omega), uF_o (by omega)]
  exact h i (by omega)
theorem GXn.none0 (v : GXn 0 K X) : p_norec X 0 := by
  unfold p_norec
  rw [v.held.1]
  exact Or.inr (by decide)
theorem GXn.undo0 (v : GXn 0 K X) : N_undo X = X ∧ R_undo X = -2 := by
  unfold N_undo R_undo
  exact ⟨ci_t v.none0, ci_t v.none0⟩
theorem GX.undo (v : GX K X) : GX K (N_undo X) := by
  obtain ⟨n, v⟩ := v
  cases n with
  | zero =>
    rw [v.undo0.1]
    exact ⟨0, v⟩
  | succ n => exact ⟨n, v.undo.1⟩
theorem GXn.deed (v : GXn (n + 1) K X) : 0 ≤ (V_deed X 0).toInt ∧ (V_deed X 0).toInt ≤ 10 := by
  obtain ⟨o, L, B, F, x, g, h⟩ := v
  have hn := x.hn
  have ho := x.ho
  have c0 : ¬ p_norec X 0 := x.recl (i := 0) (by omega)
  have sl : (p_slot X 0).toNatClampNeg = (o + n) % 12 := by
    rw [show p_slot X 0 = p_slot X (nI 0) from rfl, x.slot (by omega), nI_c (by omega)]
    omega
  unfold V_deed
  rw [ci_t (by decide), ci_f c0, sl, (x.xd n (by omega)).2]
  exact (h n (by omega)).2.1
theorem GXn.end0 (v : GXn 0 K X) : V_deed X 0 = -9 ∧ R_revoke X 0 = -2 ∧ N_revoke X 0 = X := by
  unfold V_deed R_revoke N_revoke
  have c : (0 : Int32) ≤ 0 := by decide
  rw [ci_t c, ci_t c, ci_t c, ci_t v.none0, ci_t v.none0, ci_t v.none0]
  exact ⟨rfl, rfl, rfl⟩
theorem stp_of (v : GX K X) (hB : K ≤ 10000000) (hn : Ng g) (hk : 0 ≤ k.toInt ∧ k.toInt ≤ 10) (h0 : g = 0 → Gd (K + 100000) r' ∧ 0 ≤ w.toInt ∧ (k = 8 → p_amt b)) : StpG (K + 100000) X (opX X g k s u b r') (opV g w) := by
  by_cases e : g = 0
  · rw [opX_0 e, opV_0 e]
    have q := h0 e
    have w1 := v.op (s := s) (u := u) (by omega) q.1 hk q.2.2
    exact ⟨w1.1, fun z => by omega, fun _ => w1.2⟩
  · rw [opX_e rfl e, ← opV_e (v := w) rfl e]
    have q := hn e
    exact ⟨v.mono (by omega) (by omega), fun _ => rfl, fun z => by omega⟩
theorem stp_err {e : Int32} (v : GX K X) (hB : K ≤ 10000000) (he : e.toInt < 0) : StpG (K + 100000) X X e := ⟨v.mono (by omega) (by omega), fun _ => rfl, fun z => by omega⟩
theorem stp_make (v : GX K X) (hB : K ≤ 10000000) : StpG (K + 100000) X (opX X (g_make (X 0) a k) 0 (-9) (-9) 0 (n_make (X 0) a k)) (opV (g_make (X 0) a k) (a_add (X 0))) := by
  have d := v.gd
  refine stp_of v hB (by unfold g_make; exact ng_ci (ng_ci ng_1 (ng_ci (ng_ci (ng_ci ng_0 ng_3) ng_2) ng_1)) ng_1) (by decide) (fun z => ?_)
  rw [gm_make d.1] at z
  obtain ⟨z1, z⟩ := ci0 z n1
  obtain ⟨z2, z⟩ := ci0 z n1
  obtain ⟨z3, z⟩ := ci0n z n2
  obtain ⟨z4, z⟩ := ci0n z n3
  have h1 := d.1.S.1
  refine ⟨Gd_mono (by omega) (by omega) (gd_make d z1 z2 z3 z4), ?_, fun y => absurd y (by decide)⟩
  rw [mk_val d.1 (by rw [i3_lt, t_20]; rw [i3_eq, t_20] at z4; omega)]
  omega
theorem stp_allot (v : GX K X) (hB : K ≤ 10000000) : StpG (K + 100000) X (opX X (g_allot (X 0) h a) 1 (-9) (-9) 0 (n_allot (X 0) h a)) (opV (g_allot (X 0) h a) (qv (n_allot (X 0) h a) 3 h)) := by
  have d := v.gd
  refine stp_of v hB (by unfold g_allot; exact ng_ci (ng_ci (ng_ci ng_0 ng_3) ng_1) ng_1) (by decide) (fun z => ?_)
  unfold g_allot at z
  obtain ⟨z1, z⟩ := ci0 z n1
  obtain ⟨z2, z⟩ := ci0 z n1
  have d2 := gd_allot d z1 z2 (by omega)
  refine ⟨d2, ?_, fun y => absurd y (by decide)⟩
  obtain ⟨j, hj1, hj2, hj3, hj4, hj5⟩ := has_at d.1 z1
  have c := com_t d2 hj2
  have m := d2.1.M j hj2
  unfold qv
  rw [hj4]
  omega
theorem stp_freeze (v : GX K X) (hB : K ≤ 10000000) : StpG (K + 100000) X (opX X (g_freeze (X 0) h x) 2 (-9) (-9) 0 (n_freeze (X 0) h x)) (opV (g_freeze (X 0) h x) (p_cntb (n_freeze (X 0) h x) 20)) := by
  have d := v.gd
  refine stp_of v hB (by unfold g_freeze; exact ng_ci (ng_ci ng_1 (ng_ci (ng_ci ng_2 ng_0) ng_1)) ng_1) (by decide) (fun z => ?_)
  rw [gm_freeze] at z
  obtain ⟨z1, z⟩ := ci0 z n1
  obtain ⟨z2, z⟩ := ci0 z n1
  exact ⟨Gd_mono (by omega) (by omega) (gd_freeze d z2), cntb_t, fun y => absurd y (by decide)⟩
theorem stp_setShare (v : GX K X) (hB : K ≤ 10000000) : StpG (K + 100000) X (opX X (g_setShare (X 0) h x) 3 (-9) (-9) 0 (n_setShare (X 0) h x)) (opV (g_setShare (X 0) h x) (qv (X 0) 8 h)) := by
  have d := v.gd
  refine stp_of v hB (by unfold g_setShare; exact ng_ci (ng_ci ng_0 ng_1) ng_1) (by decide) (fun z => ?_)
  rw [gm_setShare] at z
  obtain ⟨z1, z⟩ := ci0 z n1
  obtain ⟨z2, z⟩ := ci0 z n1
  obtain ⟨j, hj1, hj2, hj3, hj4, hj5⟩ := has_at d.1 z1
  refine ⟨Gd_mono (by omega) (by omega) (gd_share d z2), ?_, fun y => absurd y (by decide)⟩
  unfold qv
  rw [hj4]
  exact (d.2.2.2 j hj2).1
theorem stp_setCarried (v : GX K X) (hB : K ≤ 10000000) : StpG (K + 100000) X (opX X (g_setCarried q) 4 (-9) (-9) 0 (n_setCarried (X 0) q)) (opV (g_setCarried q) ((X 0) 14 3)) := by
  have d := v.gd
  refine stp_of v hB (by unfold g_setCarried; exact ng_ci ng_0 ng_1) (by decide) (fun z => ?_)
  rw [gm_setCarried] at z
  obtain ⟨z1, z⟩ := ci0 z n1
  exact ⟨Gd_mono (by omega) (by omega) (gd_carried d z1), d.1.N.2.2.1, fun y => absurd y (by decide)⟩
theorem stp_commit (v : GX K X) (hB : K ≤ 10000000) : StpG (K + 100000) X (opX X (g_commit (X 0) h a) 5 ((X 0) 14 2) (-9) 0 (n_commit (X 0) h a)) (opV (g_commit (X 0) h a) (a_addC (b_cc (X 0) h a))) := by
  have d := v.gd
  refine stp_of v hB (by unfold g_commit; exact ng_ci (ng_ci (ng_ci ng_2 (ng_ci (ng_ci ng_0 ng_3) ng_2)) ng_1) ng_1) (by decide) (fun z => ?_)
  rw [gm_commit d.1] at z
  obtain ⟨z1, z⟩ := ci0 z n1
  obtain ⟨z2, z⟩ := ci0 z n1
  obtain ⟨z3, z⟩ := ci0n z n2
  obtain ⟨z4, z⟩ := ci0 z n2
  obtain ⟨z5, z⟩ := ci0n z n3
  refine ⟨gd_commit d z1 z2 z4 z5 (by omega), ?_, fun y => absurd y (by decide)⟩
  rw [(cmt_eq d.1 z1 z5).2]
  exact d.1.N.1.1
theorem stp_pay (v : GX K X) (hB : K ≤ 10000000) : StpG (K + 100000) X (opX X (g_pay (X 0) q a) 6 (-9) (-9) 0 (n_pay (X 0) q a)) (opV (g_pay (X 0) q a) (qv (n_pay (X 0) q a) 11 q)) := by
  have d := v.gd
  refine stp_of v hB (by unfold g_pay; exact ng_ci (ng_ci (ng_ci ng_0 ng_2) ng_1) ng_1) (by decide) (fun z => ?_)
  unfold g_pay at z
  obtain ⟨z1, z⟩ := ci0 z n1
  obtain ⟨z2, z⟩ := ci0 z n1
  obtain ⟨z3, z⟩ := ci0 z n2
  have d2 := gd_pay d z1 z2 z3 (by omega)
  refine ⟨d2, ?_, fun y => absurd y (by decide)⟩
  have z4 : p_hasC (n_pay (X 0) q a) q := by
    rw [py_eq d.1 z1]
    exact z1
  exact (opn_t d2.1 z4).1
theorem stp_release (v : GX K X) (hB : K ≤ 10000000) : StpG (K + 100000) X (opX X (g_release (X 0) q) 7 (-9) (-9) 0 (b_free0 (X 0) q)) (opV (g_release (X 0) q) (a_free0 (X 0) q)) := by
  have d := v.gd
  refine stp_of v hB (by unfold g_release; exact ng_ci (ng_ci ng_2 ng_0) ng_1) (by decide) (fun z => ?_)
  unfold g_release at z
  obtain ⟨z1, z⟩ := ci0 z n1
  refine ⟨gd_free d z1 (by omega), ?_, fun y => absurd y (by decide)⟩
  rw [(fre_eq d.1 z1).2]
  exact (opn_t d.1 z1).1
theorem vire_gd (d : Gd K r) (hB : K ≤ 10000000) (z : g_vire r f t a = 0) : Gd (K + 100000) (b_mv r f t a) ∧ (p_has r f ∧ p_has r t ∧ f ≠ t) ∧ p_amt a := by
  rw [gm_vire] at z
  obtain ⟨z1, z⟩ := ci0 z n1
  obtain ⟨z2, z⟩ := ci0 z n1
  obtain ⟨z3, z⟩ := ci0n z n2
  have am : 1 ≤ a.toInt ∧ a.toInt ≤ 100000 := z2
  rw [i3_lt] at z3
  exact ⟨gd_mv d (by omega) (by omega) (fun _ => by omega) (fun p => by have := fr_t d.1 p; omega), z1, z2⟩
theorem stp_vire (v : GX K X) (hB : K ≤ 10000000) : StpG (K + 100000) X (opX X (g_vire (X 0) f t a) 8 f t a (b_mv (X 0) f t a)) (opV (g_vire (X 0) f t a) (p_free (b_mv (X 0) f t a) f)) := by
  have d := v.gd
  refine stp_of v hB (by unfold g_vire; exact ng_ci (ng_ci (ng_ci ng_0 ng_2) ng_1) ng_1) (by decide) (fun z => ?_)
  have w := vire_gd d hB z
  exact ⟨w.1, (free_t w.1.1).1, fun _ => w.2.2⟩
theorem stp_endYear (v : GX K X) (hB : K ≤ 10000000) : StpG (K + 100000) X (opX X (g_endYear (X 0)) 9 (-9) (-9) 0 (n_endYear (X 0))) (opV (g_endYear (X 0)) (p_lapse (X 0) 0 ((X 0) 14 3) 20)) := by
  have d := v.gd
  refine stp_of v hB (by unfold g_endYear; exact ng_ci ng_0 ng_2) (by decide) (fun z => ?_)
  rw [gm_endYear d.1] at z
  exact ⟨Gd_mono (by omega) (by omega) (gd_endYear d (ci0n z n2).1), lapse_t d.1 hB, fun y => absurd y (by decide)⟩
theorem stp_rv (v : GX K X) (hB : K ≤ 10000000) (am : p_amt a) : StpG (K + 100000) X (N_rv X q f t a) (R_rv X t a) := by
  have d := v.gd
  have am2 : 1 ≤ a.toInt ∧ a.toInt ≤ 100000 := am
  unfold N_rv R_rv
  refine stp_of v hB (by unfold g_rv; exact ng_ci ng_0 ng_2) (by decide) (fun z => ?_)
  unfold g_rv at z
  obtain ⟨z1, z⟩ := ci0 z n2
  have e : (-a).toInt = -a.toInt := by
    rw [Int32.toInt_neg]
    exact Int.bmod_eq_of_le (by omega) (by omega)
  rw [i3_le] at z1
  refine ⟨gd_mv d (by omega) (by omega) (fun p => by have := fr_t d.1 p; omega) (fun p => ?_), by omega, fun y => absurd y (by decide)⟩
  rw [free_fr p] at z1
  omega
theorem stp_rc (v : GX K X) (hB : K ≤ 10000000) : StpG (K + 100000) X (N_rc X q h) (R_rc X h) := by
  have d := v.gd
  unfold N_rc R_rc
  refine stp_of v hB (by unfold g_rc; exact ng_ci (ng_ci ng_2 ng_0) ng_2) (by decide) (fun z => ?_)
  unfold g_rc at z
  obtain ⟨z1, z⟩ := ci0 z n2
  refine ⟨gd_free d z1 (by omega), ?_, fun y => absurd y (by decide)⟩
  rw [(fre_eq d.1 z1).2]
  exact (opn_t d.1 z1).1
theorem stp_revoke (v : GX K X) (hB : K ≤ 10000000) : StpG (K + 100000) X (N_revoke X i) (R_revoke X i) := by
  have v0 := v
  obtain ⟨n, o, L, B, F, x, g, h⟩ := v
  have hn := x.hn
  have ho := x.ho
  unfold N_revoke R_revoke
  by_cases c0 : 0 ≤ i
  · rw [ci_t c0, ci_t c0]
    by_cases c1 : p_norec X i
    · rw [ci_t c1, ci_t c1]
      exact stp_err v0 hB (by decide)
    · rw [ci_f c1, ci_f c1]
      obtain ⟨j, ei, hj⟩ : ∃ j : Nat, i = nI j ∧ j < n := by
        have c2 : ¬ nI n ≤ i := fun q => c1 ((x.norec c0).mpr q)
        rw [i3_le, t_0] at c0
        rw [i3_le, nI_toInt (by omega)] at c2
        exact ⟨i.toInt.toNat, by rw [i3_eq, nI_toInt (by omega)]; omega, by omega⟩
      rw [ei, x.slot hj, nI_c (by omega)]
      have hz : n - 1 - j < n := by omega
      obtain ⟨z, ez⟩ : ∃ z : Nat, z = n - 1 - j := ⟨_, rfl⟩
      rw [← ez] at hz ⊢
      have xd := x.xd z hz
      have s8 := h z hz
      unfold N_rk R_rk
      by_cases c3 : X ((o + z) % 12 + 1) 14 0 = X 0 14 0
      · rw [ci_t c3, ci_t c3]
        by_cases c4 : p_rev X (X 13 0 ((o + z) % 12))
        · rw [ci_t c4, ci_t c4]
          exact stp_err v0 hB (by decide)
        · rw [ci_f c4, ci_f c4]
          by_cases c5 : X 13 1 ((o + z) % 12) = 8
          · rw [ci_t c5, ci_t c5]
            refine stp_rv v0 hB ?_
            rw [xd.2] at c5
            rw [(x.x8 z hz c5).2.2]
            exact s8.2.2 c5
          · rw [ci_f c5, ci_f c5]
            by_cases c6 : X 13 1 ((o + z) % 12) = 5
            · rw [ci_t c6, ci_t c6]
              exact stp_rc v0 hB
            · rw [ci_f c6, ci_f c6]
              exact stp_err v0 hB (by decide)
      · rw [ci_f c3, ci_f c3]
        exact stp_err v0 hB (by decide)
  · rw [ci_f c0, ci_f c0]
    exact stp_err v0 hB (by decide)
end
