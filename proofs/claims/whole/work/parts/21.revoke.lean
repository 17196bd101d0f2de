section
variable {t n o L : Nat} {X Y : St} {r r' : Bk} {B : Nat → Bk} {F : Nat → Nat → Int32} {N : Nat → Nat} {i u b : Int32}
theorem add1 {x y : Int32} : x + 1 = y + 1 ↔ x = y := by grind
theorem LX.rv (x : LX n o L X r B F) {z : Nat} : p_rev X (F 6 z + 1) ↔ ∃ j, j < n ∧ F 0 j = 10 ∧ F 1 j = F 6 z := by
  have hn := x.hn
  have ho := x.ho
  constructor
  · rintro ⟨i, hi, h1, h2, h3⟩
    have c : i < n := by
      have q : ¬ nI n ≤ nI i := fun w => h1 ((x.norec (i := nI i) (by rw [i3_le, t_0, nI_toInt (by omega)]; omega)).mpr w)
      rw [i3_le, nI_toInt (by omega), nI_toInt (by omega)] at q
      omega
    rw [x.slot c, nI_c (by omega)] at h2 h3
    have d := x.xd (n - 1 - i) (by omega)
    rw [d.2] at h2
    rw [x.x10 _ (by omega) h2, add1] at h3
    exact ⟨n - 1 - i, by omega, h2, h3⟩
  · rintro ⟨j, hj, h2, h3⟩
    have c : n - 1 - j < n := by omega
    refine ⟨n - 1 - j, by omega, x.recl c, ?_⟩
    rw [x.slot c, nI_c (by omega), show n - 1 - (n - 1 - j) = j by omega, (x.xd j hj).2, x.x10 j hj h2, add1]
    exact ⟨h2, h3⟩
theorem LX.mark (x : LX n o L X r B F) (z : Nat) : LX n o L X r B (mF F z) := by
  refine ⟨x.x0, x.hn, x.ho, x.xo, x.xn, x.xl, x.xb, fun i h => ?_, fun i h => ?_, fun i h => ?_, fun i h => ?_⟩
  · rw [mF_o (by omega), mF_o (by omega)]
    exact x.xd i h
  · rw [mF_o (by omega), mF_o (by omega), mF_o (by omega), mF_o (by omega)]
    exact x.x8 i h
  · rw [mF_o (by omega), mF_o (by omega)]
    exact x.x5 i h
  · rw [mF_o (by omega), mF_o (by omega)]
    exact x.x10 i h
theorem rel_rev (ht : t + 1 ≤ 600) (m : MemOk (100000 * (t : Int)) n L (fun _ => False) r B F N) (x : LX n o L X r B F) (y : LY n L Y r B F) (l : L ≤ t) {z : Nat} (hz : z < n) (c : ¬ F 5 z = 1)
  (ok : Ok (100000 * (t : Int) + 100000) r') (le : le_bk r r') : Rel (t + 1) (sg (N_rem X 10 (F 6 z + 1) u b) 0 r') (sg (N_remM (u3 Y 13 5 z 1) n 10 (F 6 z) 0 0) 0 r') := by
  have hc : ∀ j, j < n → F 0 j = 10 → F 1 j ≠ F 6 z := fun j h1 h2 h3 => c ((m.rev z hz).mpr (Or.inl ⟨j, h1, h2, h3⟩))
  have nz := m.num z hz
  obtain ⟨n', o', B', F', N', m', x', y'⟩ := rel_push (k := 10) (s := F 6 z + 1) (u := u) (b := b) (o1 := F 6 z) (o2 := 0) (a := 0) (r' := r') (m.mark hz) (x.mark z) (y.mark hz) (by omega) ok le (fun w => absurd w (by decide)) (fun w => absurd w (by decide))
    (fun _ => ⟨rfl, ⟨N z, nz.2, nz.1⟩, fun j h1 h2 => by rw [mF_o (by omega)] at h2 ⊢; exact hc j h1 h2, fun w => Iff.rfl⟩) (fun w => absurd rfl w)
  exact ⟨r', n', o', L + 1, B', F', N', by rw [k_1]; exact m', x', y', by omega⟩
theorem rel_hrv (v : Rel t X Y) (hn : n ≤ 12) (hd : Y 14 0 0 = nI n) : h_rv Y n := by
  obtain ⟨r, n', o, L, B, F, N, m, x, y, l⟩ := v
  have e := nn_eq y.hn hn (y.yn.symm.trans hd)
  subst e
  intro z hz
  rw [y.yf 0 z (by omega) hz, y.yf 1 z (by omega) hz, y.yf 2 z (by omega) hz, y.y0]
  refine ⟨fun e => ?_, fun e => ?_⟩
  · have w := (m.k8 z hz e).2.2.1
    exact ⟨hin_has w.1, hin_has w.2⟩
  · have w := (m.k5 z hz e).1
    exact ⟨cin_has w, hin_has (hasC_head m.ok w)⟩
theorem st_revoke (ht : t + 1 ≤ 600) (v : Rel t X Y) (hn : n ≤ 12) (hd : Y 14 0 0 = nI n) : Rel (t + 1) (N_revoke X i) (N_revokeM Y n i) ∧ R_revoke X i = R_revokeM Y n i := by
  have v0 := v
  obtain ⟨r, n', o, L, B, F, N, m, x, y, l⟩ := v
  have e := nn_eq y.hn hn (y.yn.symm.trans hd)
  subst e
  have no : ∀ {g : Int32}, gRk Y n' i = g → g ≠ 0 → N_revokeM Y n' i = Y ∧ R_revokeM Y n' i = g := fun h1 h2 => by
    unfold N_revokeM R_revokeM
    exact ⟨ci_f (by rw [h1]; exact h2), (opV_e h1 h2).symm⟩
  unfold N_revoke R_revoke
  by_cases c0 : 0 ≤ i
  · rw [ci_t c0, ci_t c0]
    by_cases c1 : nI n' ≤ i
    · have w := no (g := -2) (by unfold gRk; rw [ci_t c0, y.yn, ci_t c1]) (by decide)
      rw [ci_t ((x.norec c0).mpr c1), ci_t ((x.norec c0).mpr c1), w.1, w.2]
      exact ⟨rel_mono ht v0, rfl⟩
    · rw [ci_f (fun q => c1 ((x.norec c0).mp q)), ci_f (fun q => c1 ((x.norec c0).mp q))]
      obtain ⟨j, ei, hj⟩ : ∃ j : Nat, i = nI j ∧ j < n' := by
        rw [i3_le, t_0] at c0
        rw [i3_le, nI_toInt (by omega)] at c1
        exact ⟨i.toInt.toNat, by rw [i3_eq, nI_toInt (by omega)]; omega, by omega⟩
      have ej : i.toNatClampNeg = j := by rw [ei]; exact nI_c (by omega)
      obtain ⟨z, ez⟩ : ∃ z : Nat, z = n' - 1 - j := ⟨_, rfl⟩
      have hz : z < n' := by omega
      have sl : (p_slot X i).toNatClampNeg = (o + z) % 12 := by rw [ei, x.slot hj, nI_c (by omega), ez]
      rw [sl]
      have gR : gRk Y n' i = ci (p_can Y z) 0 (-2) := by
        unfold gRk
        rw [ci_t c0, y.yn, ci_f c1, ej, ez]
      have d := x.xd z hz
      have f0 := y.yf 0 z (by omega) hz
      have f1 := y.yf 1 z (by omega) hz
      have f2 := y.yf 2 z (by omega) hz
      have f3 := y.yf 3 z (by omega) hz
      have f4 := y.yf 4 z (by omega) hz
      have f5 := y.yf 5 z (by omega) hz
      have f6 := y.yf 6 z (by omega) hz
      have pc : p_can Y z ↔ ¬ F 5 z = 1 ∧ B z 14 0 = r 14 0 ∧ ((F 0 z = 8 ∧ F 3 z ≤ fr r (F 2 z)) ∨ (¬ F 0 z = 8 ∧ F 0 z = 5 ∧ 0 < qv r 11 (F 1 z))) := by
        unfold p_can
        rw [f0, f1, f2, f3, f4, f5, y.y0, m.yr z hz]
      have rv := m.rev z hz
      unfold N_rk R_rk
      rw [x.xb z hz, x.x0, d.1, d.2]
      have off : ¬ p_can Y z → N_revokeM Y n' i = Y ∧ R_revokeM Y n' i = -2 := fun q => no (by rw [gR, ci_f q]) (by decide)
      have on : p_can Y z → N_revokeM Y n' i = N_rkM Y n' z ∧ R_revokeM Y n' i = R_rkM Y z := fun q => by
        have g0 : gRk Y n' i = 0 := by rw [gR, ci_t q]
        unfold N_revokeM R_revokeM
        rw [ci_t g0, opV_0 g0, ej, ← ez]
        exact ⟨rfl, rfl⟩
      by_cases c2 : B z 14 0 = r 14 0
      · rw [ci_t c2, ci_t c2]
        by_cases c3 : p_rev X (F 6 z + 1)
        · have w := off (fun q => (pc.mp q).1 (rv.mpr (Or.inl (x.rv.mp c3))))
          rw [ci_t c3, ci_t c3, w.1, w.2]
          exact ⟨rel_mono ht v0, rfl⟩
        · have c5 : ¬ F 5 z = 1 := fun q => (rv.mp q).elim (fun q => c3 (x.rv.mpr q)) (fun q => q)
          rw [ci_f c3, ci_f c3]
          by_cases k8 : F 0 z = 8
          · have x8 := x.x8 z hz k8
            have w8 := m.k8 z hz k8
            have am := am_t w8.2.1
            rw [ci_t k8, ci_t k8, x8.1, x8.2.1, x8.2.2]
            have gg : g_rv (X 0) (F 2 z) (F 3 z) = ci (F 3 z ≤ fr r (F 2 z)) 0 (-2) := by
              unfold g_rv
              rw [x.x0, free_fr w8.2.2.1.2]
            unfold N_rv R_rv
            by_cases c4 : F 3 z ≤ fr r (F 2 z)
            · have g0 : g_rv (X 0) (F 2 z) (F 3 z) = 0 := by rw [gg, ci_t c4]
              have w := on (pc.mpr ⟨c5, c2, Or.inl ⟨k8, c4⟩⟩)
              have hp : p_has r (F 1 z) ∧ p_has r (F 2 z) ∧ F 1 z ≠ F 2 z := ⟨w8.2.2.1.1, w8.2.2.1.2, w8.1⟩
              have n5 : ¬ F 0 z = 5 := by rw [k8]; decide
              rw [opX_0 g0, opV_0 g0, w.1, w.2, x.x0, rv_eq m.ok hp]
              unfold N_rkM R_rkM
              rw [f0, ci_f n5, ci_f n5, f6, f1, f2, f3, y.y0]
              refine ⟨?_, rfl⟩
              have f9 := fr_t m.ok hp.1
              rw [i3_le] at c4
              have na : (-(F 3 z)).toInt = -(F 3 z).toInt := by
                rw [Int32.toInt_neg]
                exact Int.bmod_eq_of_le (by omega) (by omega)
              have q := ok_mv (a := -(F 3 z)) m.ok hp.1 hp.2.1 hp.2.2 (by omega) (by omega) (by omega) (by omega)
              have e2 : n_mv r (F 1 z) (F 2 z) (-(F 3 z)) = m_rv r (F 1 z) (F 2 z) (F 3 z) := by
                rw [← rv_eq m.ok hp]
                unfold b_mv
                rw [ci_t hp]
              rw [e2] at q
              exact rel_rev ht m x y l hz c5 q.1 q.2
            · have g2 : g_rv (X 0) (F 2 z) (F 3 z) = -2 := by rw [gg, ci_f c4]
              have w := off (fun q => (pc.mp q).2.2.elim (fun q => c4 q.2) (fun q => q.1 k8))
              rw [opX_e g2 (by decide), ← opV_e g2 (by decide), w.1, w.2]
              exact ⟨rel_mono ht v0, rfl⟩
          · rw [ci_f k8, ci_f k8]
            by_cases k5 : F 0 z = 5
            · have x5 := x.x5 z hz k5
              have hC := (m.k5 z hz k5).1
              rw [ci_t k5, ci_t k5, x5]
              have ot := opn_t m.ok hC
              have gg : g_rc (X 0) (F 1 z) = ci (qv r 11 (F 1 z) = 0) (-2) 0 := by
                unfold g_rc
                rw [x.x0, ci_t hC]
              unfold N_rc R_rc
              by_cases c4 : qv r 11 (F 1 z) = 0
              · have g2 : g_rc (X 0) (F 1 z) = -2 := by rw [gg, ci_t c4]
                have w := off (fun q => (pc.mp q).2.2.elim (fun q => k8 q.1) (fun q => by have q2 := q.2.2; rw [c4] at q2; exact absurd q2 (by decide)))
                rw [opX_e g2 (by decide), ← opV_e g2 (by decide), w.1, w.2]
                exact ⟨rel_mono ht v0, rfl⟩
              · have g0 : g_rc (X 0) (F 1 z) = 0 := by rw [gg, ci_f c4]
                have w := on (pc.mpr ⟨c5, c2, Or.inr ⟨k8, k5, by rw [i3_lt, t_0]; rw [i3_eq, t_0] at c4; omega⟩⟩)
                have fe := fre_eq m.ok hC
                rw [opX_0 g0, opV_0 g0, w.1, w.2, x.x0, fe.1, fe.2]
                unfold N_rkM R_rkM
                rw [f0, ci_t k5, ci_t k5, f6, f1, y.y0]
                refine ⟨?_, rfl⟩
                have q := ok_free m.ok hC (by omega)
                exact rel_rev ht m x y l hz c5 q.1 q.2
            · have w := off (fun q => (pc.mp q).2.2.elim (fun q => k8 q.1) (fun q => k5 q.2.1))
              rw [ci_f k5, ci_f k5, w.1, w.2]
              exact ⟨rel_mono ht v0, rfl⟩
      · have w := off (fun q => c2 (pc.mp q).2.1)
        rw [ci_f c2, ci_f c2, w.1, w.2]
        exact ⟨rel_mono ht v0, rfl⟩
  · have w := no (g := -1) (by unfold gRk; rw [ci_f c0]) (by decide)
    rw [ci_f c0, ci_f c0, w.1, w.2]
    exact ⟨rel_mono ht v0, rfl⟩
theorem st_deed (v : Rel t X Y) (hn : n ≤ 12) (hd : Y 14 0 0 = nI n) : V_deed X i = V_deedM Y i := by
  obtain ⟨r, n', o, L, B, F, N, m, x, y, l⟩ := v
  have e := nn_eq y.hn hn (y.yn.symm.trans hd)
  subst e
  unfold V_deed V_deedM
  by_cases c0 : 0 ≤ i
  · rw [ci_t c0, ci_t c0, y.yn]
    by_cases c1 : nI n' ≤ i
    · rw [ci_t ((x.norec c0).mpr c1), ci_t c1]
    · rw [ci_f (fun q => c1 ((x.norec c0).mp q)), ci_f c1]
      obtain ⟨j, ei, hj⟩ : ∃ j : Nat, i = nI j ∧ j < n' := by
        rw [i3_le, t_0] at c0
        rw [i3_le, nI_toInt (by omega)] at c1
        exact ⟨i.toInt.toNat, by rw [i3_eq, nI_toInt (by omega)]; omega, by omega⟩
      rw [ei, x.slot hj, nI_c (by omega), (x.xd _ (show n' - 1 - j < n' by omega)).2]
      have e : nI n' - 1 - nI j = nI (n' - 1 - j) := by
        rw [i3_eq, nI_toInt (by omega), su_t ?_, su_t ?_, nI_toInt (by omega), nI_toInt (by omega), t_1]
        · omega
        · rw [nI_toInt (by omega), t_1]
          omega
        · rw [su_t ?_, nI_toInt (by omega), nI_toInt (by omega), t_1]
          · omega
          · rw [nI_toInt (by omega), t_1]
            omega
      rw [e, nI_c (by omega)]
      exact (y.yf 0 _ (by omega) (by omega)).symm
  · rw [ci_f c0, ci_f c0]
theorem st_cnt (v : Rel t X Y) {w : Int32} : v_count (X 0) (X 14 0 1) w = v_count (Y 0) (Y 14 0 0) w := by
  obtain ⟨n, hn, h1, h2⟩ := rel_n v
  rw [(rel_ok v).2, h1, h2]
end
