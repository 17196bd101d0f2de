/-! THE LAW's all: one number of a book -/
noncomputable def h_a (r : Bk) : Nat → Int64
  | 0 => 29
  | n + 1 => 31 * h_a r n + (v_count r 0 (nI n)).toInt64
noncomputable def h_b (r : Bk) (h : Int32) (z : Int64) : Nat → Int64
  | 0 => z
  | n + 1 => 31 * h_b r h z n + (v_head r h (nI n)).toInt64
noncomputable def h_c (r : Bk) : Nat → Int64
  | 0 => h_a r 9
  | h + 1 => 31 * h_b r (nI h) (h_c r h) 12 + (v_lapse r (nI h)).toInt64
noncomputable def h_d (r : Bk) : Nat → Int64
  | 0 => h_c r (md r)
  | k + 1 => 31 * h_d r k + (v_comm r (nI k / 4) (nI k - nI k / 4 * 4)).toInt64
noncomputable def h_all (r : Bk) : Int64 := h_d r (4 * mc r)
section
variable {K : Int} {r : Bk} {k : Nat} {xk xh n : Int32} {z w : Int64}
theorem ha_1 (ek : xk = nI k) (hk : k < 9) (ez : z = h_a r k) : 31 * z + (v_count r n xk).toInt64 = h_a r (k + 1) := by
  rw [ez, ek, vc_x (y := 0) hk]
  rfl
theorem hb_1 (ek : xk = nI k) (ez : z = h_b r xh w k) : 31 * z + (v_head r xh xk).toInt64 = h_b r xh w (k + 1) := by
  rw [ez, ek]
  rfl
theorem hc_1 (ek : xk = nI k) (ez : z = h_b r xk w 12) (ew : w = h_c r k) : 31 * z + (v_lapse r xk).toInt64 = h_c r (k + 1) := by
  rw [ez, ew, ek]
  rfl
theorem hd_1 (ek : xk = nI k) (ez : z = h_d r k) : 31 * z + (v_comm r (xk / 4) (xk - xk / 4 * 4)).toInt64 = h_d r (k + 1) := by
  rw [ez, ek]
  rfl
theorem lp_dt (o : Ok K r) : (4 * v_count r n 2) = nI (4 * mc r) := by
  have h := mc_40 o
  have e : r 14 2 = nI (mc r) := by rw [i3_eq, nI_toInt (by omega)]; omega
  rw [vc_2, e]
  show nI 4 * nI (mc r) = _
  rw [pk_mul]
theorem lp_d (o : Ok K r) (ek : xk = nI k) (hk : k ≤ 4 * mc r) (c : ¬ 4 * v_count r n 2 ≤ xk) : k < 4 * mc r := by
  have h := mc_40 o
  rw [lp_dt o, ek, i3_le, nI_toInt (by omega), nI_toInt (by omega)] at c
  omega
theorem lp_de (o : Ok K r) (ek : xk = nI k) (hk : k ≤ 4 * mc r) (c : 4 * v_count r n 2 ≤ xk) : k = 4 * mc r := by
  have h := mc_40 o
  rw [lp_dt o, ek, i3_le, nI_toInt (by omega), nI_toInt (by omega)] at c
  omega
end
theorem lg_00 {x : Int64} : lg_cmp x x = 0 := by
  simp [lg_cmp]
