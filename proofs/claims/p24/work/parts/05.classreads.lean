set_option maxHeartbeats 4000000 in
set_option maxRecDepth 100000 in
theorem c_X5_isAmount {l : Launch} {D : va_G} {cI cR : ClassId} (a : Int32) : RoB l D cI cR ([]) yX5_isAmount wsX5_isAmount ({ frames := 0, cells := 0, slots := 0, locals := 0 } : Room) [.int a] (p_amt a) := by
  refine OfW (cc := cX5_isAmount) (maxL := 1) (ret := (some .boolean)) (by decide +kernel) rfl (Nat.le_of_ble_eq_true rfl) (fun p e s m below meth c hx hb hr hts hown hlocks hml hnm hP hK hN ls hl => ?_)
  have hl : lv_has ls 1 [(0, .int a)] := hl
  refine lv_iload_n hx hb dX5_isAmount_0 rfl (lv_at hl 0 rfl) ?_
  refine lv_iconst (v := 1) hx hb dX5_isAmount_1 (by decide) ?_
  refine lv_icmp_lt (tgt := 15) hx hb dX5_isAmount_2 (by decide) (fun c_2 => ?_) (fun c_2 => ?_)
  · refine lv_iconst (v := 0) hx hb dX5_isAmount_15 (by decide) ?_
    exact retB0 hx hb hr hlocks dX5_isAmount_16 (by simp only [i3_lt, i3_le, t_0, t_1, t_9, t_20, t_40, t_100, t_h, t_m] at c_2; intro q; have q1 := q.1; have q2 := q.2; omega)
  · refine lv_iload_n hx hb dX5_isAmount_5 rfl (lv_at hl 0 rfl) ?_
    refine lv_ldc (v := 100000) hx hb hown (hts (.constant RX5 222 100000) (by decide +kernel)) dX5_isAmount_6 ?_
    refine lv_icmp_gt (tgt := 15) hx hb dX5_isAmount_8 (by decide) (fun c_8 => ?_) (fun c_8 => ?_)
    · refine lv_iconst (v := 0) hx hb dX5_isAmount_15 (by decide) ?_
      exact retB0 hx hb hr hlocks dX5_isAmount_16 (by simp only [i3_lt, i3_le, t_0, t_1, t_9, t_20, t_40, t_100, t_h, t_m] at c_2 c_8; intro q; have q1 := q.1; have q2 := q.2; omega)
    · refine lv_iconst (v := 1) hx hb dX5_isAmount_11 (by decide) ?_
      refine lv_goto (tgt := 16) hx hb dX5_isAmount_12 (by decide) ?_
      exact retB1 hx hb hr hlocks dX5_isAmount_16 (by simp only [i3_lt, i3_le, t_0, t_1, t_9, t_20, t_40, t_100, t_h, t_m] at c_2 c_8; exact ⟨by omega, by omega⟩)
set_option maxHeartbeats 4000000 in
set_option maxRecDepth 100000 in
theorem c_X5_isPercentage {l : Launch} {D : va_G} {cI cR : ClassId} (a : Int32) : RoB l D cI cR ([]) yX5_isPercentage wsX5_isPercentage ({ frames := 0, cells := 0, slots := 0, locals := 0 } : Room) [.int a] (p_pct a) := by
  refine OfW (cc := cX5_isPercentage) (maxL := 1) (ret := (some .boolean)) (by decide +kernel) rfl (Nat.le_of_ble_eq_true rfl) (fun p e s m below meth c hx hb hr hts hown hlocks hml hnm hP hK hN ls hl => ?_)
  have hl : lv_has ls 1 [(0, .int a)] := hl
  refine lv_iload_n hx hb dX5_isPercentage_0 rfl (lv_at hl 0 rfl) ?_
  refine lv_if_lt (tgt := 14) hx hb dX5_isPercentage_1 (by decide) (fun c_1 => ?_) (fun c_1 => ?_)
  · refine lv_iconst (v := 0) hx hb dX5_isPercentage_14 (by decide) ?_
    exact retB0 hx hb hr hlocks dX5_isPercentage_15 (by simp only [i3_lt, i3_le, t_0, t_1, t_9, t_20, t_40, t_100, t_h, t_m] at c_1; intro q; have q1 := q.1; have q2 := q.2; omega)
  · refine lv_iload_n hx hb dX5_isPercentage_4 rfl (lv_at hl 0 rfl) ?_
    refine lv_bipush (v := 100) hx hb dX5_isPercentage_5 (by decide) ?_
    refine lv_icmp_gt (tgt := 14) hx hb dX5_isPercentage_7 (by decide) (fun c_7 => ?_) (fun c_7 => ?_)
    · refine lv_iconst (v := 0) hx hb dX5_isPercentage_14 (by decide) ?_
      exact retB0 hx hb hr hlocks dX5_isPercentage_15 (by simp only [i3_lt, i3_le, t_0, t_1, t_9, t_20, t_40, t_100, t_h, t_m] at c_1 c_7; intro q; have q1 := q.1; have q2 := q.2; omega)
    · refine lv_iconst (v := 1) hx hb dX5_isPercentage_10 (by decide) ?_
      refine lv_goto (tgt := 15) hx hb dX5_isPercentage_11 (by decide) ?_
      exact retB1 hx hb hr hlocks dX5_isPercentage_15 (by simp only [i3_lt, i3_le, t_0, t_1, t_9, t_20, t_40, t_100, t_h, t_m] at c_1 c_7; exact ⟨by omega, by omega⟩)
set_option maxHeartbeats 4000000 in
set_option maxRecDepth 100000 in
theorem c_X5_partOf {l : Launch} {D : va_G} {cI cR : ClassId} (a : Int32) (q : Int32) : RoE l D cI cR ([]) yX5_partOf wsX5_partOf ({ frames := 0, cells := 0, slots := 0, locals := 0 } : Room) [.int a, .int q] (p_part a q) := by
  refine OfW (cc := cX5_partOf) (maxL := 2) (ret := (some .int)) (by decide +kernel) rfl (Nat.le_of_ble_eq_true rfl) (fun p e s m below meth c hx hb hr hts hown hlocks hml hnm hP hK hN ls hl => ?_)
  have hl : lv_has ls 2 [(0, .int a), (1, .int q)] := hl
  refine lv_iload_n hx hb dX5_partOf_0 rfl (lv_at hl 0 rfl) ?_
  refine lv_i2l (v := a.toInt64) hx hb dX5_partOf_1 rfl ?_
  refine lv_iload_n hx hb dX5_partOf_2 rfl (lv_at hl 1 rfl) ?_
  refine lv_i2l (v := q.toInt64) hx hb dX5_partOf_3 rfl ?_
  refine lv_lmul hx hb dX5_partOf_4 ?_
  refine lv_ldc2 (v := 100) hx hb hown (hts (.constantLong RX5 223 100) (by decide +kernel)) dX5_partOf_5 ?_
  refine lv_ldiv hx hb dX5_partOf_8 (by decide) ?_
  refine lv_l2i (v := ((a.toInt64 * q.toInt64) / 100).toInt32) hx hb dX5_partOf_9 rfl ?_
  exact retE hx hb hr hlocks dX5_partOf_10 rfl
set_option maxHeartbeats 4000000 in
set_option maxRecDepth 100000 in
theorem c_J9_floorMod_7cf53 {l : Launch} {D : va_G} {cI cR : ClassId} (a : Int32) (q : Int32) (hq : ¬ q = 0) : RoE l D cI cR ([]) yJ9_floorMod_7cf53 wsJ9_floorMod_7cf53 ({ frames := 0, cells := 0, slots := 0, locals := 0 } : Room) [.int a, .int q] (p_fm a q) := by
  refine OfWF (cc := cJ9_floorMod_7cf53) (maxL := 3) (ret := (some .int)) (by decide +kernel) rfl (Nat.le_of_ble_eq_true rfl) (fun p e s m below meth c hx hb hr hts hown hlocks hml hnm hP hK hN ls hl => ?_)
  have hl : lv_has ls 3 [(0, .int a), (1, .int q)] := hl
  refine lv_iload_n hx hb dJ9_floorMod_7cf53_0 rfl (lv_at hl 0 rfl) ?_
  refine lv_iload_n hx hb dJ9_floorMod_7cf53_1 rfl (lv_at hl 1 rfl) ?_
  refine lv_irem hx hb dJ9_floorMod_7cf53_2 hq ?_
  refine lv_istore_n (lv' := [(2, .int (a - a / q * q)), (0, .int a), (1, .int q)]) hx hb dJ9_floorMod_7cf53_3 rfl hl (by decide) rfl (fun ls hl => ?_)
  refine lv_iload_n hx hb dJ9_floorMod_7cf53_4 rfl (lv_at hl 1 rfl) ?_
  refine lv_iload_n hx hb dJ9_floorMod_7cf53_5 rfl (lv_at hl 2 rfl) ?_
  refine lv_ixor hx hb dJ9_floorMod_7cf53_6 ?_
  refine lv_if_ge (tgt := 18) hx hb dJ9_floorMod_7cf53_7 (by decide) (fun c_7 => ?_) (fun c_7 => ?_)
  · refine lv_iload_n hx hb dJ9_floorMod_7cf53_18 rfl (lv_at hl 0 rfl) ?_
    exact retE hx hb hr hlocks dJ9_floorMod_7cf53_19 (by first | rfl | (unfold p_fm; repeat (first | rw [ci_t c_7] | rw [ci_f c_7])))
  · refine lv_iload_n hx hb dJ9_floorMod_7cf53_10 rfl (lv_at hl 0 rfl) ?_
    refine lv_if_eq (tgt := 18) hx hb dJ9_floorMod_7cf53_11 (by decide) (fun c_11 => ?_) (fun c_11 => ?_)
    · refine lv_iload_n hx hb dJ9_floorMod_7cf53_18 rfl (lv_at hl 0 rfl) ?_
      exact retE hx hb hr hlocks dJ9_floorMod_7cf53_19 (by first | rfl | (unfold p_fm; repeat (first | rw [ci_t c_7] | rw [ci_f c_7] | rw [ci_t c_11] | rw [ci_f c_11])))
    · refine lv_iload_n hx hb dJ9_floorMod_7cf53_14 rfl (lv_at hl 0 rfl) ?_
      refine lv_iload_n hx hb dJ9_floorMod_7cf53_15 rfl (lv_at hl 2 rfl) ?_
      refine lv_iadd hx hb dJ9_floorMod_7cf53_16 ?_
      exact retE hx hb hr hlocks dJ9_floorMod_7cf53_17 (by first | rfl | (unfold p_fm; repeat (first | rw [ci_t c_7] | rw [ci_f c_7] | rw [ci_t c_11] | rw [ci_f c_11])))
set_option maxHeartbeats 4000000 in
set_option maxRecDepth 100000 in
theorem c_X3_has {l : Launch} {D : va_G} {cI cR : ClassId} {ad : Nat → Nat} (X : St) (h : Int32) : RoB l D cI cR (wC cI cR ad X) yX3_has wsX3_has ({ frames := 0, cells := 0, slots := 0, locals := 0 } : Room) [.ref (ad 1), .int h] (p_has (X 0) h) := by
  refine OfW (cc := cX3_has) (maxL := 2) (ret := (some .boolean)) (by decide +kernel) rfl (Nat.le_of_ble_eq_true rfl) (fun p e s m below meth c hx hb hr hts hown hlocks hml hnm hP hK hN ls hl => ?_)
  have hl : lv_has ls 2 [(0, .ref (ad 1)), (1, .int h)] := hl
  have lk_48 := hts (.fieldLink RX3 48 "HeadBudgets$Heads" "made" "I") (by decide +kernel)
  have hi_X3 : ∀ w ∈ wsX30, w ∈ wsX3_has := by decide +kernel
  refine lv_iload_n hx hb dX3_has_0 rfl (lv_at hl 1 rfl) ?_
  refine lv_if_lt (tgt := 22) hx hb dX3_has_1 (by decide) (fun c_1 => ?_) (fun c_1 => ?_)
  · refine lv_iconst (v := 0) hx hb dX3_has_22 (by decide) ?_
    exact retB0 hx hb hr hlocks dX3_has_23 (by simp only [i3_lt, i3_le, t_0, t_1, t_9, t_20, t_40, t_100, t_h, t_m] at c_1; intro q; have q1 := q.1; have q2 := q.2.1; have q3 := q.2.2; omega)
  · refine lv_iload_n hx hb dX3_has_4 rfl (lv_at hl 1 rfl) ?_
    refine lv_aload_n hx hb dX3_has_5 rfl (lv_at hl 0 rfl) ?_
    refine xget (C := RX3) (T := TX3) (N := 11) (ci := 3) (w := .int (X 0 14 1)) hx hb hts hi_X3 hown hK hP 1 g0_1 rfl 10 (by decide) lk_48 rfl dX3_has_6 ?_
    refine lv_icmp_ge (tgt := 22) hx hb dX3_has_9 (by decide) (fun c_9 => ?_) (fun c_9 => ?_)
    · refine lv_iconst (v := 0) hx hb dX3_has_22 (by decide) ?_
      exact retB0 hx hb hr hlocks dX3_has_23 (by simp only [i3_lt, i3_le, t_0, t_1, t_9, t_20, t_40, t_100, t_h, t_m] at c_1 c_9; intro q; have q1 := q.1; have q2 := q.2.1; have q3 := q.2.2; omega)
    · refine lv_iload_n hx hb dX3_has_12 rfl (lv_at hl 1 rfl) ?_
      refine lv_bipush (v := 20) hx hb dX3_has_13 (by decide) ?_
      refine lv_icmp_ge (tgt := 22) hx hb dX3_has_15 (by decide) (fun c_15 => ?_) (fun c_15 => ?_)
      · refine lv_iconst (v := 0) hx hb dX3_has_22 (by decide) ?_
        exact retB0 hx hb hr hlocks dX3_has_23 (by simp only [i3_lt, i3_le, t_0, t_1, t_9, t_20, t_40, t_100, t_h, t_m] at c_1 c_9 c_15; intro q; have q1 := q.1; have q2 := q.2.1; have q3 := q.2.2; omega)
      · refine lv_iconst (v := 1) hx hb dX3_has_18 (by decide) ?_
        refine lv_goto (tgt := 23) hx hb dX3_has_19 (by decide) ?_
        exact retB1 hx hb hr hlocks dX3_has_23 (by simp only [i3_lt, i3_le, t_0, t_1, t_9, t_20, t_40, t_100, t_h, t_m] at c_1 c_9 c_15; exact ⟨by omega, by omega, by omega⟩)
set_option maxHeartbeats 4000000 in
set_option maxRecDepth 100000 in
theorem c_X1_has {l : Launch} {D : va_G} {cI cR : ClassId} {ad : Nat → Nat} (X : St) (h : Int32) : RoB l D cI cR (wC cI cR ad X) yX1_has wsX1_has ({ frames := 0, cells := 0, slots := 0, locals := 0 } : Room) [.ref (ad 12), .int h] (p_hasC (X 0) h) := by
  refine OfW (cc := cX1_has) (maxL := 2) (ret := (some .boolean)) (by decide +kernel) rfl (Nat.le_of_ble_eq_true rfl) (fun p e s m below meth c hx hb hr hts hown hlocks hml hnm hP hK hN ls hl => ?_)
  have hl : lv_has ls 2 [(0, .ref (ad 12)), (1, .int h)] := hl
  have lk_30 := hts (.fieldLink RX1 30 "HeadBudgets$Commitments" "made" "I") (by decide +kernel)
  have hi_X1 : ∀ w ∈ wsX10, w ∈ wsX1_has := by decide +kernel
  refine lv_iload_n hx hb dX1_has_0 rfl (lv_at hl 1 rfl) ?_
  refine lv_if_lt (tgt := 22) hx hb dX1_has_1 (by decide) (fun c_1 => ?_) (fun c_1 => ?_)
  · refine lv_iconst (v := 0) hx hb dX1_has_22 (by decide) ?_
    exact retB0 hx hb hr hlocks dX1_has_23 (by simp only [i3_lt, i3_le, t_0, t_1, t_9, t_20, t_40, t_100, t_h, t_m] at c_1; intro q; have q1 := q.1; have q2 := q.2.1; have q3 := q.2.2; omega)
  · refine lv_iload_n hx hb dX1_has_4 rfl (lv_at hl 1 rfl) ?_
    refine lv_aload_n hx hb dX1_has_5 rfl (lv_at hl 0 rfl) ?_
    refine xget (C := RX1) (T := TX1) (N := 5) (ci := 1) (w := .int (X 0 14 2)) hx hb hts hi_X1 hown hK hP 12 g0_12 rfl 4 (by decide) lk_30 rfl dX1_has_6 ?_
    refine lv_icmp_ge (tgt := 22) hx hb dX1_has_9 (by decide) (fun c_9 => ?_) (fun c_9 => ?_)
    · refine lv_iconst (v := 0) hx hb dX1_has_22 (by decide) ?_
      exact retB0 hx hb hr hlocks dX1_has_23 (by simp only [i3_lt, i3_le, t_0, t_1, t_9, t_20, t_40, t_100, t_h, t_m] at c_1 c_9; intro q; have q1 := q.1; have q2 := q.2.1; have q3 := q.2.2; omega)
    · refine lv_iload_n hx hb dX1_has_12 rfl (lv_at hl 1 rfl) ?_
      refine lv_bipush (v := 40) hx hb dX1_has_13 (by decide) ?_
      refine lv_icmp_ge (tgt := 22) hx hb dX1_has_15 (by decide) (fun c_15 => ?_) (fun c_15 => ?_)
      · refine lv_iconst (v := 0) hx hb dX1_has_22 (by decide) ?_
        exact retB0 hx hb hr hlocks dX1_has_23 (by simp only [i3_lt, i3_le, t_0, t_1, t_9, t_20, t_40, t_100, t_h, t_m] at c_1 c_9 c_15; intro q; have q1 := q.1; have q2 := q.2.1; have q3 := q.2.2; omega)
      · refine lv_iconst (v := 1) hx hb dX1_has_18 (by decide) ?_
        refine lv_goto (tgt := 23) hx hb dX1_has_19 (by decide) ?_
        exact retB1 hx hb hr hlocks dX1_has_23 (by simp only [i3_lt, i3_le, t_0, t_1, t_9, t_20, t_40, t_100, t_h, t_m] at c_1 c_9 c_15; exact ⟨by omega, by omega, by omega⟩)
set_option maxHeartbeats 4000000 in
set_option maxRecDepth 100000 in
theorem c_X3_hasBoth {l : Launch} {D : va_G} {cI cR : ClassId} {ad : Nat → Nat} (X : St) (h : Int32) (k : Int32) : RoB l D cI cR (wC cI cR ad X) yX3_hasBoth wsX3_hasBoth ({ frames := 1, cells := 0, slots := 0, locals := 21 } : Room) [.ref (ad 1), .int h, .int k] (p_has (X 0) h ∧ p_has (X 0) k ∧ h ≠ k) := by
  refine OfW (cc := cX3_hasBoth) (maxL := 3) (ret := (some .boolean)) (by decide +kernel) rfl (Nat.le_of_ble_eq_true rfl) (fun p e s m below meth c hx hb hr hts hown hlocks hml hnm hP hK hN ls hl => ?_)
  have hl : lv_has ls 3 [(0, .ref (ad 1)), (1, .int h), (2, .int k)] := hl
  refine lv_aload_n hx hb dX3_hasBoth_0 rfl (lv_at hl 0 rfl) ?_
  refine lv_iload_n hx hb dX3_hasBoth_1 rfl (lv_at hl 1 rfl) ?_
  refine callB (As := [.int h]) (rest := []) ⟨hx, hb, hml, hown, hts⟩ (c_X3_has X h) (cwV 1 hts gX3_hasBoth_X3_has rfl rfl rfl (by decide +kernel) ⟨Nat.le_of_ble_eq_true rfl, Nat.le_of_ble_eq_true rfl⟩) hK hN hP 1 g0_1 rfl rfl hl.1 rfl (Nat.le_of_ble_eq_true rfl) dX3_hasBoth_2 ⟨Nat.zero_le _, Nat.zero_le _⟩ (fun c_2 => ?_) (fun c_2 => ?_)
  · refine lv_if_eq (tgt := 25) hx hb dX3_hasBoth_5 (by decide) (fun h9 => absurd h9 (by decide)) (fun _ => ?_)
    refine lv_aload_n hx hb dX3_hasBoth_8 rfl (lv_at hl 0 rfl) ?_
    refine lv_iload_n hx hb dX3_hasBoth_9 rfl (lv_at hl 2 rfl) ?_
    refine callB (As := [.int k]) (rest := []) ⟨hx, hb, hml, hown, hts⟩ (c_X3_has X k) (cwV 1 hts gX3_hasBoth_X3_has rfl rfl rfl (by decide +kernel) ⟨Nat.le_of_ble_eq_true rfl, Nat.le_of_ble_eq_true rfl⟩) hK hN hP 1 g0_1 rfl rfl hl.1 rfl (Nat.le_of_ble_eq_true rfl) dX3_hasBoth_10 ⟨Nat.zero_le _, Nat.zero_le _⟩ (fun c_10 => ?_) (fun c_10 => ?_)
    · refine lv_if_eq (tgt := 25) hx hb dX3_hasBoth_13 (by decide) (fun h9 => absurd h9 (by decide)) (fun _ => ?_)
      refine lv_iload_n hx hb dX3_hasBoth_16 rfl (lv_at hl 1 rfl) ?_
      refine lv_iload_n hx hb dX3_hasBoth_17 rfl (lv_at hl 2 rfl) ?_
      refine lv_icmp_eq (tgt := 25) hx hb dX3_hasBoth_18 (by decide) (fun c_18 => ?_) (fun c_18 => ?_)
      · refine lv_iconst (v := 0) hx hb dX3_hasBoth_25 (by decide) ?_
        exact retB0 hx hb hr hlocks dX3_hasBoth_26 (by grind)
      · refine lv_iconst (v := 1) hx hb dX3_hasBoth_21 (by decide) ?_
        refine lv_goto (tgt := 26) hx hb dX3_hasBoth_22 (by decide) ?_
        exact retB1 hx hb hr hlocks dX3_hasBoth_26 (by grind)
    · refine lv_if_eq (tgt := 25) hx hb dX3_hasBoth_13 (by decide) (fun _ => ?_) (fun h9 => absurd (by decide) h9)
      refine lv_iconst (v := 0) hx hb dX3_hasBoth_25 (by decide) ?_
      exact retB0 hx hb hr hlocks dX3_hasBoth_26 (by grind)
  · refine lv_if_eq (tgt := 25) hx hb dX3_hasBoth_5 (by decide) (fun _ => ?_) (fun h9 => absurd (by decide) h9)
    refine lv_iconst (v := 0) hx hb dX3_hasBoth_25 (by decide) ?_
    exact retB0 hx hb hr hlocks dX3_hasBoth_26 (by grind)
set_option maxHeartbeats 4000000 in
set_option maxRecDepth 100000 in
theorem c_X3_freeOf {l : Launch} {D : va_G} {cI cR : ClassId} {ad : Nat → Nat} (X : St) (h : Int32) : RoE l D cI cR (wC cI cR ad X) yX3_freeOf wsX3_freeOf ({ frames := 1, cells := 0, slots := 0, locals := 21 } : Room) [.ref (ad 1), .int h] (p_free (X 0) h) := by
  refine OfW (cc := cX3_freeOf) (maxL := 2) (ret := (some .int)) (by decide +kernel) rfl (Nat.le_of_ble_eq_true rfl) (fun p e s m below meth c hx hb hr hts hown hlocks hml hnm hP hK hN ls hl => ?_)
  have hl : lv_has ls 2 [(0, .ref (ad 1)), (1, .int h)] := hl
  have lk_24 := hts (.fieldLink RX3 24 "HeadBudgets$Heads" "allotment" "[I") (by decide +kernel)
  have lk_27 := hts (.fieldLink RX3 27 "HeadBudgets$Heads" "committed" "[I") (by decide +kernel)
  have lk_30 := hts (.fieldLink RX3 30 "HeadBudgets$Heads" "spent" "[I") (by decide +kernel)
  have hi_X3 : ∀ w ∈ wsX30, w ∈ wsX3_freeOf := by decide +kernel
  refine lv_aload_n hx hb dX3_freeOf_0 rfl (lv_at hl 0 rfl) ?_
  refine lv_iload_n hx hb dX3_freeOf_1 rfl (lv_at hl 1 rfl) ?_
  refine callB (As := [.int h]) (rest := []) ⟨hx, hb, hml, hown, hts⟩ (c_X3_has X h) (cwV 1 hts gX3_freeOf_X3_has rfl rfl rfl (by decide +kernel) ⟨Nat.le_of_ble_eq_true rfl, Nat.le_of_ble_eq_true rfl⟩) hK hN hP 1 g0_1 rfl rfl hl.1 rfl (Nat.le_of_ble_eq_true rfl) dX3_freeOf_2 ⟨Nat.zero_le _, Nat.zero_le _⟩ (fun c_2 => ?_) (fun c_2 => ?_)
  · refine lv_if_eq (tgt := 31) hx hb dX3_freeOf_5 (by decide) (fun h9 => absurd h9 (by decide)) (fun _ => ?_)
    refine lv_aload_n hx hb dX3_freeOf_8 rfl (lv_at hl 0 rfl) ?_
    refine xget (C := RX3) (T := TX3) (N := 11) (ci := 3) (w := .ref (ad 6)) hx hb hts hi_X3 hown hK hP 1 g0_1 rfl 4 (by decide) lk_24 rfl dX3_freeOf_9 ?_
    refine lv_iload_n hx hb dX3_freeOf_12 rfl (lv_at hl 1 rfl) ?_
    refine xald (x := qv (X 0) 3 h) hx hb hK hP 6 g0_6 (in20h c_2) rfl dX3_freeOf_13 ?_
    refine lv_aload_n hx hb dX3_freeOf_14 rfl (lv_at hl 0 rfl) ?_
    refine xget (C := RX3) (T := TX3) (N := 11) (ci := 3) (w := .ref (ad 7)) hx hb hts hi_X3 hown hK hP 1 g0_1 rfl 5 (by decide) lk_27 rfl dX3_freeOf_15 ?_
    refine lv_iload_n hx hb dX3_freeOf_18 rfl (lv_at hl 1 rfl) ?_
    refine xald (x := qv (X 0) 4 h) hx hb hK hP 7 g0_7 (in20h c_2) rfl dX3_freeOf_19 ?_
    refine lv_isub hx hb dX3_freeOf_20 ?_
    refine lv_aload_n hx hb dX3_freeOf_21 rfl (lv_at hl 0 rfl) ?_
    refine xget (C := RX3) (T := TX3) (N := 11) (ci := 3) (w := .ref (ad 8)) hx hb hts hi_X3 hown hK hP 1 g0_1 rfl 6 (by decide) lk_30 rfl dX3_freeOf_22 ?_
    refine lv_iload_n hx hb dX3_freeOf_25 rfl (lv_at hl 1 rfl) ?_
    refine xald (x := qv (X 0) 5 h) hx hb hK hP 8 g0_8 (in20h c_2) rfl dX3_freeOf_26 ?_
    refine lv_isub hx hb dX3_freeOf_27 ?_
    refine lv_goto (tgt := 32) hx hb dX3_freeOf_28 (by decide) ?_
    exact retE hx hb hr hlocks dX3_freeOf_32 (by first | rfl | (unfold p_free; repeat (first | rw [ci_t c_2] | rw [ci_f c_2])))
  · refine lv_if_eq (tgt := 31) hx hb dX3_freeOf_5 (by decide) (fun _ => ?_) (fun h9 => absurd (by decide) h9)
    refine lv_iconst (v := 0) hx hb dX3_freeOf_31 (by decide) ?_
    exact retE hx hb hr hlocks dX3_freeOf_32 (by first | rfl | (unfold p_free; repeat (first | rw [ci_t c_2] | rw [ci_f c_2])))
set_option maxHeartbeats 4000000 in
set_option maxRecDepth 100000 in
theorem c_X3_isBarred {l : Launch} {D : va_G} {cI cR : ClassId} {ad : Nat → Nat} (X : St) (h : Int32) : RoB l D cI cR (wC cI cR ad X) yX3_isBarred wsX3_isBarred ({ frames := 1, cells := 0, slots := 0, locals := 21 } : Room) [.ref (ad 1), .int h] (p_bar (X 0) 5 h) := by
  refine OfW (cc := cX3_isBarred) (maxL := 4) (ret := (some .boolean)) (by decide +kernel) rfl (Nat.le_of_ble_eq_true rfl) (fun p e s m below meth c hx hb hr hts hown hlocks hml hnm hP hK hN ls hl => ?_)
  have hl : lv_has ls 4 [(0, .ref (ad 1)), (1, .int h)] := hl
  have lk_21 := hts (.fieldLink RX3 21 "HeadBudgets$Heads" "frozen" "[I") (by decide +kernel)
  have lk_9 := hts (.fieldLink RX3 9 "HeadBudgets$Heads" "above" "[I") (by decide +kernel)
  have hi_X3 : ∀ w ∈ wsX30, w ∈ wsX3_isBarred := by decide +kernel
  refine lv_iload_n hx hb dX3_isBarred_0 rfl (lv_at hl 1 rfl) ?_
  refine lv_istore_n (lv' := [(2, .int h), (0, .ref (ad 1)), (1, .int h)]) hx hb dX3_isBarred_1 rfl hl (by decide) rfl (fun ls hl => ?_)
  refine lv_iconst (v := 0) hx hb dX3_isBarred_2 (by decide) ?_
  refine lv_istore_n (lv' := [(3, .int 0), (2, .int h), (0, .ref (ad 1)), (1, .int h)]) hx hb dX3_isBarred_3 rfl hl (by decide) rfl (fun ls hl => ?_)
  have hloop_4 : ∀ (n_4 : Nat) (k : Nat) (x2 x3 : Int32), k ≤ 5 → 5 < k + n_4 → x3 = nI k → (p_bar (X 0) (5 - k) x2 ↔ p_bar (X 0) 5 h) → ∀ ls : Array Slot, lv_has ls 4 [(0, .ref (ad 1)), (1, .int h), (2, .int x2), (3, .int x3)] → W p l e ({ frames := 1, cells := 0, slots := 0, locals := 21 } : Room) s m ([.ref (ad 1), .int h]).toArray below meth c s.heap [] 0 0 (MQ below (vp_Si (fun r => (r = 1 ∧ (p_bar (X 0) 5 h)) ∨ (r = 0 ∧ ¬ (p_bar (X 0) 5 h)))) ([.ref (ad 1), .int h]).toArray s 0 0 (fun _ => False)) (F0 m 4 ls []) := by
    intro n_4
    induction n_4 with
    | zero =>
      intro k x2 x3 hk hn e3 hb5 ls hl
      exfalso; omega
    | succ n_4 ih_4 =>
      intro k x2 x3 hk hn e3 hb5 ls hl
      refine lv_iload_n hx hb dX3_isBarred_4 rfl (lv_at hl 3 rfl) ?_
      refine lv_iconst (v := 4) hx hb dX3_isBarred_5 (by decide) ?_
      refine lv_icmp_gt (tgt := 42) hx hb dX3_isBarred_6 (by decide) (fun c_6 => ?_) (fun c_6 => ?_)
      · have hk5 : k = 5 := by
          rw [e3, i3_lt, nI_t (by omega), t_4] at c_6
          omega
        subst hk5
        refine lv_iconst (v := 0) hx hb dX3_isBarred_42 (by decide) ?_
        exact retB0 hx hb hr hlocks dX3_isBarred_43 (fun q => hb5.mpr q)
      · have hk4 : k + 1 ≤ 5 := by
          rw [e3, i3_lt, nI_t (by omega), t_4] at c_6
          omega
        rw [show 5 - k = (5 - (k + 1)) + 1 by omega] at hb5
        refine lv_aload_n hx hb dX3_isBarred_9 rfl (lv_at hl 0 rfl) ?_
        refine lv_iload_n hx hb dX3_isBarred_10 rfl (lv_at hl 2 rfl) ?_
        refine callB (As := [.int x2]) (rest := []) ⟨hx, hb, hml, hown, hts⟩ (c_X3_has X x2) (cwV 1 hts gX3_isBarred_X3_has rfl rfl rfl (by decide +kernel) ⟨Nat.le_of_ble_eq_true rfl, Nat.le_of_ble_eq_true rfl⟩) hK hN hP 1 g0_1 rfl rfl hl.1 rfl (Nat.le_of_ble_eq_true rfl) dX3_isBarred_11 ⟨Nat.zero_le _, Nat.zero_le _⟩ (fun c_11 => ?_) (fun c_11 => ?_)
        · refine lv_if_eq (tgt := 42) hx hb dX3_isBarred_14 (by decide) (fun h9 => absurd h9 (by decide)) (fun _ => ?_)
          refine lv_aload_n hx hb dX3_isBarred_17 rfl (lv_at hl 0 rfl) ?_
          refine xget (C := RX3) (T := TX3) (N := 11) (ci := 3) (w := .ref (ad 5)) hx hb hts hi_X3 hown hK hP 1 g0_1 rfl 3 (by decide) lk_21 rfl dX3_isBarred_18 ?_
          refine lv_iload_n hx hb dX3_isBarred_21 rfl (lv_at hl 2 rfl) ?_
          refine xald (x := qv (X 0) 2 x2) hx hb hK hP 5 g0_5 (in20h c_11) rfl dX3_isBarred_22 ?_
          refine lv_iconst (v := 1) hx hb dX3_isBarred_23 (by decide) ?_
          refine lv_icmp_ne (tgt := 29) hx hb dX3_isBarred_24 (by decide) (fun c_24 => ?_) (fun c_24 => ?_)
          · have hb6 : p_bar (X 0) (5 - (k + 1)) (qv (X 0) 0 x2) ↔ p_bar (X 0) 5 h := by
              rw [← hb5]
              exact ⟨fun q => ⟨c_11, Or.inr q⟩, fun q => q.2.elim (fun z => absurd z c_24) id⟩
            refine lv_aload_n hx hb dX3_isBarred_29 rfl (lv_at hl 0 rfl) ?_
            refine xget (C := RX3) (T := TX3) (N := 11) (ci := 3) (w := .ref (ad 2)) hx hb hts hi_X3 hown hK hP 1 g0_1 rfl 0 (by decide) lk_9 rfl dX3_isBarred_30 ?_
            refine lv_iload_n hx hb dX3_isBarred_33 rfl (lv_at hl 2 rfl) ?_
            refine xald (x := qv (X 0) 0 x2) hx hb hK hP 2 g0_2 (in20h c_11) rfl dX3_isBarred_34 ?_
            refine lv_istore_n (lv' := [(2, .int (qv (X 0) 0 x2)), (0, .ref (ad 1)), (1, .int h), (3, .int x3)]) hx hb dX3_isBarred_35 rfl hl (by decide) rfl (fun ls hl => ?_)
            refine lv_iinc (v := x3 + 1) (lv' := [(3, .int (x3 + 1)), (2, .int (qv (X 0) 0 x2)), (0, .ref (ad 1)), (1, .int h)]) hx hb dX3_isBarred_36 hl (k := 3) rfl rfl (by decide) rfl (fun ls hl => ?_)
            refine lv_goto (tgt := 4) hx hb dX3_isBarred_39 (by decide) ?_
            exact ih_4  (k + 1) _ _ hk4 (by omega) (by rw [e3]; exact nI_1 k) hb6 _ (lv_sub hl [2, 3, 1, 0] rfl)
          · refine lv_iconst (v := 1) hx hb dX3_isBarred_27 (by decide) ?_
            exact retB1 hx hb hr hlocks dX3_isBarred_28 (hb5.mp ⟨c_11, Or.inl c_24⟩)
        · refine lv_if_eq (tgt := 42) hx hb dX3_isBarred_14 (by decide) (fun _ => ?_) (fun h9 => absurd (by decide) h9)
          refine lv_iconst (v := 0) hx hb dX3_isBarred_42 (by decide) ?_
          exact retB0 hx hb hr hlocks dX3_isBarred_43 (fun q => c_11 (hb5.mpr q).1)
  exact hloop_4  6 0 h 0 (by omega) (by omega) rfl Iff.rfl _ (lv_sub hl [2, 3, 1, 0] rfl)
set_option maxHeartbeats 4000000 in
set_option maxRecDepth 100000 in
theorem c_X3_countBarred {l : Launch} {D : va_G} {cI cR : ClassId} {ad : Nat → Nat} (X : St) : RoE l D cI cR (wC cI cR ad X) yX3_countBarred wsX3_countBarred ({ frames := 2, cells := 0, slots := 0, locals := 44 } : Room) [.ref (ad 1)] (p_cntb (X 0) 20) := by
  refine OfW (cc := cX3_countBarred) (maxL := 3) (ret := (some .int)) (by decide +kernel) rfl (Nat.le_of_ble_eq_true rfl) (fun p e s m below meth c hx hb hr hts hown hlocks hml hnm hP hK hN ls hl => ?_)
  have hl : lv_has ls 3 [(0, .ref (ad 1))] := hl
  refine lv_iconst (v := 0) hx hb dX3_countBarred_0 (by decide) ?_
  refine lv_istore_n (lv' := [(1, .int 0), (0, .ref (ad 1))]) hx hb dX3_countBarred_1 rfl hl (by decide) rfl (fun ls hl => ?_)
  refine lv_iconst (v := 0) hx hb dX3_countBarred_2 (by decide) ?_
  refine lv_istore_n (lv' := [(2, .int 0), (1, .int 0), (0, .ref (ad 1))]) hx hb dX3_countBarred_3 rfl hl (by decide) rfl (fun ls hl => ?_)
  have hloop_4 : ∀ (n_4 : Nat) (k : Nat) (xa xk : Int32), k ≤ 20 → 20 < k + n_4 → xk = nI k → xa = p_cntb (X 0) k → ∀ ls : Array Slot, lv_has ls 3 [(0, .ref (ad 1)), (1, .int xa), (2, .int xk)] → W p l e ({ frames := 2, cells := 0, slots := 0, locals := 44 } : Room) s m ([.ref (ad 1)]).toArray below meth c s.heap [] 0 0 (MQ below (vp_Si (fun r => r = p_cntb (X 0) 20)) ([.ref (ad 1)]).toArray s 0 0 (fun _ => False)) (F0 m 4 ls []) := by
    intro n_4
    induction n_4 with
    | zero =>
      intro k xa xk hk hn ek ea ls hl
      exfalso; omega
    | succ n_4 ih_4 =>
      intro k xa xk hk hn ek ea ls hl
      refine lv_iload_n hx hb dX3_countBarred_4 rfl (lv_at hl 2 rfl) ?_
      refine lv_bipush (v := 20) hx hb dX3_countBarred_5 (by decide) ?_
      refine lv_icmp_ge (tgt := 27) hx hb dX3_countBarred_7 (by decide) (fun c_7 => ?_) (fun c_7 => ?_)
      · have hk2 : k = 20 := nI_ge20 hk (by rw [← ek]; exact c_7)
        subst hk2
        refine lv_iload_n hx hb dX3_countBarred_27 rfl (lv_at hl 1 rfl) ?_
        exact retE hx hb hr hlocks dX3_countBarred_28 ea
      · have hlt : k < 20 := nI_lt20 (by omega) (by rw [← ek]; exact c_7)
        refine lv_aload_n hx hb dX3_countBarred_10 rfl (lv_at hl 0 rfl) ?_
        refine lv_iload_n hx hb dX3_countBarred_11 rfl (lv_at hl 2 rfl) ?_
        refine callB (As := [.int xk]) (rest := []) ⟨hx, hb, hml, hown, hts⟩ (c_X3_isBarred X xk) (cwV 1 hts gX3_countBarred_X3_isBarred rfl rfl rfl (by decide +kernel) ⟨Nat.le_of_ble_eq_true rfl, Nat.le_of_ble_eq_true rfl⟩) hK hN hP 1 g0_1 rfl rfl hl.1 rfl (Nat.le_of_ble_eq_true rfl) dX3_countBarred_12 ⟨Nat.zero_le _, Nat.zero_le _⟩ (fun c_12 => ?_) (fun c_12 => ?_)
        · refine lv_if_eq (tgt := 21) hx hb dX3_countBarred_15 (by decide) (fun h9 => absurd h9 (by decide)) (fun _ => ?_)
          refine lv_iinc (v := xa + 1) (lv' := [(1, .int (xa + 1)), (0, .ref (ad 1)), (2, .int xk)]) hx hb dX3_countBarred_18 hl (k := 1) rfl rfl (by decide) rfl (fun ls hl => ?_)
          refine lv_iinc (v := xk + 1) (lv' := [(2, .int (xk + 1)), (1, .int (xa + 1)), (0, .ref (ad 1))]) hx hb dX3_countBarred_21 hl (k := 2) rfl rfl (by decide) rfl (fun ls hl => ?_)
          refine lv_goto (tgt := 4) hx hb dX3_countBarred_24 (by decide) ?_
          exact ih_4  (k + 1) _ _ (by omega) (by omega) (by rw [ek]; exact nI_1 k) (by rw [ea]; exact (sumI_ci (by rw [← ek]; exact c_12) rfl).symm) _ (lv_sub hl [2, 1, 0] rfl)
        · refine lv_if_eq (tgt := 21) hx hb dX3_countBarred_15 (by decide) (fun _ => ?_) (fun h9 => absurd (by decide) h9)
          refine lv_iinc (v := xk + 1) (lv' := [(2, .int (xk + 1)), (0, .ref (ad 1)), (1, .int xa)]) hx hb dX3_countBarred_21 hl (k := 2) rfl rfl (by decide) rfl (fun ls hl => ?_)
          refine lv_goto (tgt := 4) hx hb dX3_countBarred_24 (by decide) ?_
          exact ih_4  (k + 1) _ _ (by omega) (by omega) (by rw [ek]; exact nI_1 k) (by rw [ea]; exact (sumI_c0 (by rw [← ek]; exact c_12) rfl).symm) _ (lv_sub hl [1, 2, 0] rfl)
  exact hloop_4  21 0 0 0 (by omega) (by omega) rfl rfl _ (lv_sub hl [2, 1, 0] rfl)
set_option maxHeartbeats 4000000 in
set_option maxRecDepth 100000 in
theorem c_X3_isWithin {l : Launch} {D : va_G} {cI cR : ClassId} {ad : Nat → Nat} (X : St) (h : Int32) (t : Int32) : RoB l D cI cR (wC cI cR ad X) yX3_isWithin wsX3_isWithin ({ frames := 1, cells := 0, slots := 0, locals := 21 } : Room) [.ref (ad 1), .int h, .int t] (p_wit (X 0) 5 h t) := by
  refine OfW (cc := cX3_isWithin) (maxL := 5) (ret := (some .boolean)) (by decide +kernel) rfl (Nat.le_of_ble_eq_true rfl) (fun p e s m below meth c hx hb hr hts hown hlocks hml hnm hP hK hN ls hl => ?_)
  have hl : lv_has ls 5 [(0, .ref (ad 1)), (1, .int h), (2, .int t)] := hl
  have lk_9 := hts (.fieldLink RX3 9 "HeadBudgets$Heads" "above" "[I") (by decide +kernel)
  have hi_X3 : ∀ w ∈ wsX30, w ∈ wsX3_isWithin := by decide +kernel
  refine lv_iload_n hx hb dX3_isWithin_0 rfl (lv_at hl 1 rfl) ?_
  refine lv_istore_n (lv' := [(3, .int h), (0, .ref (ad 1)), (1, .int h), (2, .int t)]) hx hb dX3_isWithin_1 rfl hl (by decide) rfl (fun ls hl => ?_)
  refine lv_iconst (v := 0) hx hb dX3_isWithin_2 (by decide) ?_
  refine lv_istore (lv' := [(4, .int 0), (3, .int h), (0, .ref (ad 1)), (1, .int h), (2, .int t)]) hx hb dX3_isWithin_3 hl (by decide) rfl (fun ls hl => ?_)
  have hloop_5 : ∀ (n_5 : Nat) (k : Nat) (x2 x3 : Int32), k ≤ 5 → 5 < k + n_5 → x3 = nI k → (p_wit (X 0) (5 - k) x2 t ↔ p_wit (X 0) 5 h t) → ∀ ls : Array Slot, lv_has ls 5 [(0, .ref (ad 1)), (1, .int h), (2, .int t), (3, .int x2), (4, .int x3)] → W p l e ({ frames := 1, cells := 0, slots := 0, locals := 21 } : Room) s m ([.ref (ad 1), .int h, .int t]).toArray below meth c s.heap [] 0 0 (MQ below (vp_Si (fun r => (r = 1 ∧ (p_wit (X 0) 5 h t)) ∨ (r = 0 ∧ ¬ (p_wit (X 0) 5 h t)))) ([.ref (ad 1), .int h, .int t]).toArray s 0 0 (fun _ => False)) (F0 m 5 ls []) := by
    intro n_5
    induction n_5 with
    | zero =>
      intro k x2 x3 hk hn e3 hb5 ls hl
      exfalso; omega
    | succ n_5 ih_5 =>
      intro k x2 x3 hk hn e3 hb5 ls hl
      refine lv_iload hx hb dX3_isWithin_5 (lv_at hl 4 rfl) ?_
      refine lv_iconst (v := 4) hx hb dX3_isWithin_7 (by decide) ?_
      refine lv_icmp_gt (tgt := 39) hx hb dX3_isWithin_8 (by decide) (fun c_8 => ?_) (fun c_8 => ?_)
      · have hk5 : k = 5 := by
          rw [e3, i3_lt, nI_t (by omega), t_4] at c_8
          omega
        subst hk5
        refine lv_iconst (v := 0) hx hb dX3_isWithin_39 (by decide) ?_
        exact retB0 hx hb hr hlocks dX3_isWithin_40 (fun q => hb5.mpr q)
      · have hk4 : k + 1 ≤ 5 := by
          rw [e3, i3_lt, nI_t (by omega), t_4] at c_8
          omega
        rw [show 5 - k = (5 - (k + 1)) + 1 by omega] at hb5
        refine lv_aload_n hx hb dX3_isWithin_11 rfl (lv_at hl 0 rfl) ?_
        refine lv_iload_n hx hb dX3_isWithin_12 rfl (lv_at hl 3 rfl) ?_
        refine callB (As := [.int x2]) (rest := []) ⟨hx, hb, hml, hown, hts⟩ (c_X3_has X x2) (cwV 1 hts gX3_isWithin_X3_has rfl rfl rfl (by decide +kernel) ⟨Nat.le_of_ble_eq_true rfl, Nat.le_of_ble_eq_true rfl⟩) hK hN hP 1 g0_1 rfl rfl hl.1 rfl (Nat.le_of_ble_eq_true rfl) dX3_isWithin_13 ⟨Nat.zero_le _, Nat.zero_le _⟩ (fun c_13 => ?_) (fun c_13 => ?_)
        · refine lv_if_eq (tgt := 39) hx hb dX3_isWithin_16 (by decide) (fun h9 => absurd h9 (by decide)) (fun _ => ?_)
          refine lv_iload_n hx hb dX3_isWithin_19 rfl (lv_at hl 3 rfl) ?_
          refine lv_iload_n hx hb dX3_isWithin_20 rfl (lv_at hl 2 rfl) ?_
          refine lv_icmp_ne (tgt := 26) hx hb dX3_isWithin_21 (by decide) (fun c_21 => ?_) (fun c_21 => ?_)
          · have hb6 : p_wit (X 0) (5 - (k + 1)) (qv (X 0) 0 x2) t ↔ p_wit (X 0) 5 h t := by
              rw [← hb5]
              exact ⟨fun q => ⟨c_13, Or.inr q⟩, fun q => q.2.elim (fun z => absurd z c_21) id⟩
            refine lv_aload_n hx hb dX3_isWithin_26 rfl (lv_at hl 0 rfl) ?_
            refine xget (C := RX3) (T := TX3) (N := 11) (ci := 3) (w := .ref (ad 2)) hx hb hts hi_X3 hown hK hP 1 g0_1 rfl 0 (by decide) lk_9 rfl dX3_isWithin_27 ?_
            refine lv_iload_n hx hb dX3_isWithin_30 rfl (lv_at hl 3 rfl) ?_
            refine xald (x := qv (X 0) 0 x2) hx hb hK hP 2 g0_2 (in20h c_13) rfl dX3_isWithin_31 ?_
            refine lv_istore_n (lv' := [(3, .int (qv (X 0) 0 x2)), (0, .ref (ad 1)), (1, .int h), (2, .int t), (4, .int x3)]) hx hb dX3_isWithin_32 rfl hl (by decide) rfl (fun ls hl => ?_)
            refine lv_iinc (v := x3 + 1) (lv' := [(4, .int (x3 + 1)), (3, .int (qv (X 0) 0 x2)), (0, .ref (ad 1)), (1, .int h), (2, .int t)]) hx hb dX3_isWithin_33 hl (k := 4) rfl rfl (by decide) rfl (fun ls hl => ?_)
            refine lv_goto (tgt := 5) hx hb dX3_isWithin_36 (by decide) ?_
            exact ih_5  (k + 1) _ _ hk4 (by omega) (by rw [e3]; exact nI_1 k) hb6 _ (lv_sub hl [2, 3, 4, 1, 0] rfl)
          · refine lv_iconst (v := 1) hx hb dX3_isWithin_24 (by decide) ?_
            exact retB1 hx hb hr hlocks dX3_isWithin_25 (hb5.mp ⟨c_13, Or.inl c_21⟩)
        · refine lv_if_eq (tgt := 39) hx hb dX3_isWithin_16 (by decide) (fun _ => ?_) (fun h9 => absurd (by decide) h9)
          refine lv_iconst (v := 0) hx hb dX3_isWithin_39 (by decide) ?_
          exact retB0 hx hb hr hlocks dX3_isWithin_40 (fun q => c_13 (hb5.mpr q).1)
  exact hloop_5  6 0 h 0 (by omega) (by omega) rfl Iff.rfl _ (lv_sub hl [2, 3, 4, 1, 0] rfl)
set_option maxHeartbeats 4000000 in
set_option maxRecDepth 100000 in
theorem c_X3_summand {l : Launch} {D : va_G} {cI cR : ClassId} {ad : Nat → Nat} (X : St) (h : Int32) (wh : Int32) : RoE l D cI cR (wC cI cR ad X) yX3_summand wsX3_summand ({ frames := 2, cells := 0, slots := 0, locals := 42 } : Room) [.ref (ad 1), .int h, .int wh] (p_smd (X 0) h wh) := by
  refine OfW (cc := cX3_summand) (maxL := 3) (ret := (some .int)) (by decide +kernel) rfl (Nat.le_of_ble_eq_true rfl) (fun p e s m below meth c hx hb hr hts hown hlocks hml hnm hP hK hN ls hl => ?_)
  have hl : lv_has ls 3 [(0, .ref (ad 1)), (1, .int h), (2, .int wh)] := hl
  have lk_24 := hts (.fieldLink RX3 24 "HeadBudgets$Heads" "allotment" "[I") (by decide +kernel)
  have lk_27 := hts (.fieldLink RX3 27 "HeadBudgets$Heads" "committed" "[I") (by decide +kernel)
  have lk_30 := hts (.fieldLink RX3 30 "HeadBudgets$Heads" "spent" "[I") (by decide +kernel)
  have hi_X3 : ∀ w ∈ wsX30, w ∈ wsX3_summand := by decide +kernel
  refine lv_aload_n hx hb dX3_summand_0 rfl (lv_at hl 0 rfl) ?_
  refine lv_iload_n hx hb dX3_summand_1 rfl (lv_at hl 1 rfl) ?_
  refine callB (As := [.int h]) (rest := []) ⟨hx, hb, hml, hown, hts⟩ (c_X3_has X h) (cwV 1 hts gX3_summand_X3_has rfl rfl rfl (by decide +kernel) ⟨Nat.le_of_ble_eq_true rfl, Nat.le_of_ble_eq_true rfl⟩) hK hN hP 1 g0_1 rfl rfl hl.1 rfl (Nat.le_of_ble_eq_true rfl) dX3_summand_2 ⟨Nat.zero_le _, Nat.zero_le _⟩ (fun c_2 => ?_) (fun c_2 => ?_)
  · refine lv_if_ne (tgt := 10) hx hb dX3_summand_5 (by decide) (fun _ => ?_) (fun h9 => absurd h9 (by decide))
    refine lv_iload_n hx hb dX3_summand_10 rfl (lv_at hl 2 rfl) ?_
    by_cases s_11_0 : wh = 0
    · refine lv_tableIn (off := 29) (tgt := 40) hx hb dX3_summand_11 (by rw [s_11_0]; decide) (by rw [s_11_0]; decide) (by rw [s_11_0]; rfl) (by decide) ?_
      refine lv_aload_n hx hb dX3_summand_40 rfl (lv_at hl 0 rfl) ?_
      refine xget (C := RX3) (T := TX3) (N := 11) (ci := 3) (w := .ref (ad 6)) hx hb hts hi_X3 hown hK hP 1 g0_1 rfl 4 (by decide) lk_24 rfl dX3_summand_41 ?_
      refine lv_iload_n hx hb dX3_summand_44 rfl (lv_at hl 1 rfl) ?_
      refine xald (x := qv (X 0) 3 h) hx hb hK hP 6 g0_6 (in20h c_2) rfl dX3_summand_45 ?_
      exact retE hx hb hr hlocks dX3_summand_46 (by first | rfl | (unfold p_smd; repeat (first | rw [ci_t c_2] | rw [ci_f c_2] | rw [ci_t s_11_0] | rw [ci_f s_11_0])))
    by_cases s_11_1 : wh = 1
    · refine lv_tableIn (off := 36) (tgt := 47) hx hb dX3_summand_11 (by rw [s_11_1]; decide) (by rw [s_11_1]; decide) (by rw [s_11_1]; rfl) (by decide) ?_
      refine lv_aload_n hx hb dX3_summand_47 rfl (lv_at hl 0 rfl) ?_
      refine xget (C := RX3) (T := TX3) (N := 11) (ci := 3) (w := .ref (ad 7)) hx hb hts hi_X3 hown hK hP 1 g0_1 rfl 5 (by decide) lk_27 rfl dX3_summand_48 ?_
      refine lv_iload_n hx hb dX3_summand_51 rfl (lv_at hl 1 rfl) ?_
      refine xald (x := qv (X 0) 4 h) hx hb hK hP 7 g0_7 (in20h c_2) rfl dX3_summand_52 ?_
      exact retE hx hb hr hlocks dX3_summand_53 (by first | rfl | (unfold p_smd; repeat (first | rw [ci_t c_2] | rw [ci_f c_2] | rw [ci_t s_11_1] | rw [ci_f s_11_1] | rw [ci_t s_11_0] | rw [ci_f s_11_0])))
    by_cases s_11_2 : wh = 2
    · refine lv_tableIn (off := 43) (tgt := 54) hx hb dX3_summand_11 (by rw [s_11_2]; decide) (by rw [s_11_2]; decide) (by rw [s_11_2]; rfl) (by decide) ?_
      refine lv_aload_n hx hb dX3_summand_54 rfl (lv_at hl 0 rfl) ?_
      refine xget (C := RX3) (T := TX3) (N := 11) (ci := 3) (w := .ref (ad 8)) hx hb hts hi_X3 hown hK hP 1 g0_1 rfl 6 (by decide) lk_30 rfl dX3_summand_55 ?_
      refine lv_iload_n hx hb dX3_summand_58 rfl (lv_at hl 1 rfl) ?_
      refine xald (x := qv (X 0) 5 h) hx hb hK hP 8 g0_8 (in20h c_2) rfl dX3_summand_59 ?_
      exact retE hx hb hr hlocks dX3_summand_60 (by first | rfl | (unfold p_smd; repeat (first | rw [ci_t c_2] | rw [ci_f c_2] | rw [ci_t s_11_2] | rw [ci_f s_11_2] | rw [ci_t s_11_0] | rw [ci_f s_11_0] | rw [ci_t s_11_1] | rw [ci_f s_11_1])))
    by_cases s_11_3 : wh = 3
    · refine lv_tableIn (off := 50) (tgt := 61) hx hb dX3_summand_11 (by rw [s_11_3]; decide) (by rw [s_11_3]; decide) (by rw [s_11_3]; rfl) (by decide) ?_
      refine lv_aload_n hx hb dX3_summand_61 rfl (lv_at hl 0 rfl) ?_
      refine lv_iload_n hx hb dX3_summand_62 rfl (lv_at hl 1 rfl) ?_
      refine callE (As := [.int h]) (rest := []) ⟨hx, hb, hml, hown, hts⟩ (c_X3_freeOf X h) (cwV 1 hts gX3_summand_X3_freeOf rfl rfl rfl (by decide +kernel) ⟨Nat.le_of_ble_eq_true rfl, Nat.le_of_ble_eq_true rfl⟩) hK hN hP 1 g0_1 rfl rfl hl.1 rfl (Nat.le_of_ble_eq_true rfl) dX3_summand_63 ⟨Nat.zero_le _, Nat.zero_le _⟩ ?_
      exact retE hx hb hr hlocks dX3_summand_66 (by first | rfl | (unfold p_smd; repeat (first | rw [ci_t c_2] | rw [ci_f c_2] | rw [ci_t s_11_3] | rw [ci_f s_11_3] | rw [ci_t s_11_0] | rw [ci_f s_11_0] | rw [ci_t s_11_1] | rw [ci_f s_11_1] | rw [ci_t s_11_2] | rw [ci_f s_11_2])))
    have h9 : (wh).toInt < 0 ∨ 3 < (wh).toInt := by
      have q_0 := lv_neT (a := 0) s_11_0 rfl
      have q_1 := lv_neT (a := 1) s_11_1 rfl
      have q_2 := lv_neT (a := 2) s_11_2 rfl
      have q_3 := lv_neT (a := 3) s_11_3 rfl
      omega
    refine lv_tableOut (tgt := 67) hx hb dX3_summand_11 h9 (by decide) ?_
    refine lv_iconst (v := 1) hx hb dX3_summand_67 (by decide) ?_
    exact retE hx hb hr hlocks dX3_summand_68 (by first | rfl | (unfold p_smd; repeat (first | rw [ci_t c_2] | rw [ci_f c_2] | rw [ci_t s_11_0] | rw [ci_f s_11_0] | rw [ci_t s_11_1] | rw [ci_f s_11_1] | rw [ci_t s_11_2] | rw [ci_f s_11_2] | rw [ci_t s_11_3] | rw [ci_f s_11_3])))
  · refine lv_if_ne (tgt := 10) hx hb dX3_summand_5 (by decide) (fun h9 => absurd (by decide) h9) (fun _ => ?_)
    refine lv_iconst (v := 0) hx hb dX3_summand_8 (by decide) ?_
    exact retE hx hb hr hlocks dX3_summand_9 (by first | rfl | (unfold p_smd; repeat (first | rw [ci_t c_2] | rw [ci_f c_2])))
set_option maxHeartbeats 4000000 in
set_option maxRecDepth 100000 in
theorem c_X3_sumWithin {l : Launch} {D : va_G} {cI cR : ClassId} {ad : Nat → Nat} (X : St) (t : Int32) (wh : Int32) : RoE l D cI cR (wC cI cR ad X) yX3_sumWithin wsX3_sumWithin ({ frames := 3, cells := 0, slots := 0, locals := 64 } : Room) [.ref (ad 1), .int t, .int wh] (p_sum (X 0) t wh 20) := by
  refine OfW (cc := cX3_sumWithin) (maxL := 5) (ret := (some .int)) (by decide +kernel) rfl (Nat.le_of_ble_eq_true rfl) (fun p e s m below meth c hx hb hr hts hown hlocks hml hnm hP hK hN ls hl => ?_)
  have hl : lv_has ls 5 [(0, .ref (ad 1)), (1, .int t), (2, .int wh)] := hl
  refine lv_iconst (v := 0) hx hb dX3_sumWithin_0 (by decide) ?_
  refine lv_istore_n (lv' := [(3, .int 0), (0, .ref (ad 1)), (1, .int t), (2, .int wh)]) hx hb dX3_sumWithin_1 rfl hl (by decide) rfl (fun ls hl => ?_)
  refine lv_iconst (v := 0) hx hb dX3_sumWithin_2 (by decide) ?_
  refine lv_istore (lv' := [(4, .int 0), (3, .int 0), (0, .ref (ad 1)), (1, .int t), (2, .int wh)]) hx hb dX3_sumWithin_3 hl (by decide) rfl (fun ls hl => ?_)
  have hloop_5 : ∀ (n_5 : Nat) (k : Nat) (xa xk : Int32), k ≤ 20 → 20 < k + n_5 → xk = nI k → xa = p_sum (X 0) t wh k → ∀ ls : Array Slot, lv_has ls 5 [(0, .ref (ad 1)), (1, .int t), (2, .int wh), (3, .int xa), (4, .int xk)] → W p l e ({ frames := 3, cells := 0, slots := 0, locals := 64 } : Room) s m ([.ref (ad 1), .int t, .int wh]).toArray below meth c s.heap [] 0 0 (MQ below (vp_Si (fun r => r = p_sum (X 0) t wh 20)) ([.ref (ad 1), .int t, .int wh]).toArray s 0 0 (fun _ => False)) (F0 m 5 ls []) := by
    intro n_5
    induction n_5 with
    | zero =>
      intro k xa xk hk hn ek ea ls hl
      exfalso; omega
    | succ n_5 ih_5 =>
      intro k xa xk hk hn ek ea ls hl
      refine lv_iload hx hb dX3_sumWithin_5 (lv_at hl 4 rfl) ?_
      refine lv_bipush (v := 20) hx hb dX3_sumWithin_7 (by decide) ?_
      refine lv_icmp_ge (tgt := 38) hx hb dX3_sumWithin_9 (by decide) (fun c_9 => ?_) (fun c_9 => ?_)
      · have hk2 : k = 20 := nI_ge20 hk (by rw [← ek]; exact c_9)
        subst hk2
        refine lv_iload_n hx hb dX3_sumWithin_38 rfl (lv_at hl 3 rfl) ?_
        exact retE hx hb hr hlocks dX3_sumWithin_39 ea
      · have hlt : k < 20 := nI_lt20 (by omega) (by rw [← ek]; exact c_9)
        refine lv_aload_n hx hb dX3_sumWithin_12 rfl (lv_at hl 0 rfl) ?_
        refine lv_iload hx hb dX3_sumWithin_13 (lv_at hl 4 rfl) ?_
        refine lv_iload_n hx hb dX3_sumWithin_15 rfl (lv_at hl 1 rfl) ?_
        refine callB (As := [.int xk, .int t]) (rest := []) ⟨hx, hb, hml, hown, hts⟩ (c_X3_isWithin X xk t) (cwV 2 hts gX3_sumWithin_X3_isWithin rfl rfl rfl (by decide +kernel) ⟨Nat.le_of_ble_eq_true rfl, Nat.le_of_ble_eq_true rfl⟩) hK hN hP 1 g0_1 rfl rfl hl.1 rfl (Nat.le_of_ble_eq_true rfl) dX3_sumWithin_16 ⟨Nat.zero_le _, Nat.zero_le _⟩ (fun c_16 => ?_) (fun c_16 => ?_)
        · refine lv_if_eq (tgt := 32) hx hb dX3_sumWithin_19 (by decide) (fun h9 => absurd h9 (by decide)) (fun _ => ?_)
          refine lv_iload_n hx hb dX3_sumWithin_22 rfl (lv_at hl 3 rfl) ?_
          refine lv_aload_n hx hb dX3_sumWithin_23 rfl (lv_at hl 0 rfl) ?_
          refine lv_iload hx hb dX3_sumWithin_24 (lv_at hl 4 rfl) ?_
          refine lv_iload_n hx hb dX3_sumWithin_26 rfl (lv_at hl 2 rfl) ?_
          refine callE (As := [.int xk, .int wh]) (rest := [.int xa]) ⟨hx, hb, hml, hown, hts⟩ (c_X3_summand X xk wh) (cwV 2 hts gX3_sumWithin_X3_summand rfl rfl rfl (by decide +kernel) ⟨Nat.le_of_ble_eq_true rfl, Nat.le_of_ble_eq_true rfl⟩) hK hN hP 1 g0_1 rfl rfl hl.1 rfl (Nat.le_of_ble_eq_true rfl) dX3_sumWithin_27 ⟨Nat.zero_le _, Nat.zero_le _⟩ ?_
          refine lv_iadd hx hb dX3_sumWithin_30 ?_
          refine lv_istore_n (lv' := [(3, .int (xa + (p_smd (X 0) xk wh))), (0, .ref (ad 1)), (1, .int t), (2, .int wh), (4, .int xk)]) hx hb dX3_sumWithin_31 rfl hl (by decide) rfl (fun ls hl => ?_)
          refine lv_iinc (v := xk + 1) (lv' := [(4, .int (xk + 1)), (3, .int (xa + (p_smd (X 0) xk wh))), (0, .ref (ad 1)), (1, .int t), (2, .int wh)]) hx hb dX3_sumWithin_32 hl (k := 4) rfl rfl (by decide) rfl (fun ls hl => ?_)
          refine lv_goto (tgt := 5) hx hb dX3_sumWithin_35 (by decide) ?_
          exact ih_5  (k + 1) _ _ (by omega) (by omega) (by rw [ek]; exact nI_1 k) (by rw [ea, ek]; exact (sumI_ci (by rw [← ek]; exact c_16) rfl).symm) _ (lv_sub hl [2, 3, 4, 1, 0] rfl)
        · refine lv_if_eq (tgt := 32) hx hb dX3_sumWithin_19 (by decide) (fun _ => ?_) (fun h9 => absurd (by decide) h9)
          refine lv_iinc (v := xk + 1) (lv' := [(4, .int (xk + 1)), (0, .ref (ad 1)), (1, .int t), (2, .int wh), (3, .int xa)]) hx hb dX3_sumWithin_32 hl (k := 4) rfl rfl (by decide) rfl (fun ls hl => ?_)
          refine lv_goto (tgt := 5) hx hb dX3_sumWithin_35 (by decide) ?_
          exact ih_5  (k + 1) _ _ (by omega) (by omega) (by rw [ek]; exact nI_1 k) (by rw [ea]; exact (sumI_c0 (by rw [← ek]; exact c_16) rfl).symm) _ (lv_sub hl [1, 2, 3, 4, 0] rfl)
  exact hloop_5  21 0 0 0 (by omega) (by omega) rfl rfl _ (lv_sub hl [2, 3, 4, 1, 0] rfl)
set_option maxHeartbeats 4000000 in
set_option maxRecDepth 100000 in
theorem c_X3_mayGive {l : Launch} {D : va_G} {cI cR : ClassId} {ad : Nat → Nat} (X : St) (h : Int32) (k : Int32) : RoB l D cI cR (wC cI cR ad X) yX3_mayGive wsX3_mayGive ({ frames := 2, cells := 0, slots := 0, locals := 45 } : Room) [.ref (ad 1), .int h, .int k] (p_may (X 0) h k) := by
  refine OfW (cc := cX3_mayGive) (maxL := 4) (ret := (some .boolean)) (by decide +kernel) rfl (Nat.le_of_ble_eq_true rfl) (fun p e s m below meth c hx hb hr hts hown hlocks hml hnm hP hK hN ls hl => ?_)
  have hl : lv_has ls 4 [(0, .ref (ad 1)), (1, .int h), (2, .int k)] := hl
  have lk_9 := hts (.fieldLink RX3 9 "HeadBudgets$Heads" "above" "[I") (by decide +kernel)
  have lk_18 := hts (.fieldLink RX3 18 "HeadBudgets$Heads" "rank" "[I") (by decide +kernel)
  have hi_X3 : ∀ w ∈ wsX30, w ∈ wsX3_mayGive := by decide +kernel
  refine lv_aload_n hx hb dX3_mayGive_0 rfl (lv_at hl 0 rfl) ?_
  refine lv_iload_n hx hb dX3_mayGive_1 rfl (lv_at hl 1 rfl) ?_
  refine lv_iload_n hx hb dX3_mayGive_2 rfl (lv_at hl 2 rfl) ?_
  refine callB (As := [.int h, .int k]) (rest := []) ⟨hx, hb, hml, hown, hts⟩ (c_X3_hasBoth X h k) (cwV 2 hts gX3_mayGive_X3_hasBoth rfl rfl rfl (by decide +kernel) ⟨Nat.le_of_ble_eq_true rfl, Nat.le_of_ble_eq_true rfl⟩) hK hN hP 1 g0_1 rfl rfl hl.1 rfl (Nat.le_of_ble_eq_true rfl) dX3_mayGive_3 ⟨Nat.zero_le _, Nat.zero_le _⟩ (fun c_3 => ?_) (fun c_3 => ?_)
  · have q1 := in20h c_3.1
    have q2 := in20h c_3.2.1
    refine lv_if_eq (tgt := 25) hx hb dX3_mayGive_6 (by decide) (fun h9 => absurd h9 (by decide)) (fun _ => ?_)
    refine lv_aload_n hx hb dX3_mayGive_9 rfl (lv_at hl 0 rfl) ?_
    refine lv_iload_n hx hb dX3_mayGive_10 rfl (lv_at hl 1 rfl) ?_
    refine callB (As := [.int h]) (rest := []) ⟨hx, hb, hml, hown, hts⟩ (c_X3_isBarred X h) (cwV 1 hts gX3_mayGive_X3_isBarred rfl rfl rfl (by decide +kernel) ⟨Nat.le_of_ble_eq_true rfl, Nat.le_of_ble_eq_true rfl⟩) hK hN hP 1 g0_1 rfl rfl hl.1 rfl (Nat.le_of_ble_eq_true rfl) dX3_mayGive_11 ⟨Nat.zero_le _, Nat.zero_le _⟩ (fun c_11 => ?_) (fun c_11 => ?_)
    · refine lv_if_ne (tgt := 25) hx hb dX3_mayGive_14 (by decide) (fun _ => ?_) (fun h9 => absurd h9 (by decide))
      refine lv_iconst (v := 0) hx hb dX3_mayGive_25 (by decide) ?_
      exact retB0 hx hb hr hlocks dX3_mayGive_26 (by first | exact fun q => c_3 ⟨q.1, q.2.1, q.2.2.1⟩ | exact fun q => q.2.2.2.1 c_11 | exact fun q => q.2.2.2.2.1 c_19 | exact fun q => q.2.2.2.2.2.elim c_30 (fun q => q.elim c_39 (fun q => q.elim c_57 (fun q => Int32.not_le.mpr c_82 q))))
    · refine lv_if_ne (tgt := 25) hx hb dX3_mayGive_14 (by decide) (fun h9 => absurd (by decide) h9) (fun _ => ?_)
      refine lv_aload_n hx hb dX3_mayGive_17 rfl (lv_at hl 0 rfl) ?_
      refine lv_iload_n hx hb dX3_mayGive_18 rfl (lv_at hl 2 rfl) ?_
      refine callB (As := [.int k]) (rest := []) ⟨hx, hb, hml, hown, hts⟩ (c_X3_isBarred X k) (cwV 1 hts gX3_mayGive_X3_isBarred rfl rfl rfl (by decide +kernel) ⟨Nat.le_of_ble_eq_true rfl, Nat.le_of_ble_eq_true rfl⟩) hK hN hP 1 g0_1 rfl rfl hl.1 rfl (Nat.le_of_ble_eq_true rfl) dX3_mayGive_19 ⟨Nat.zero_le _, Nat.zero_le _⟩ (fun c_19 => ?_) (fun c_19 => ?_)
      · refine lv_if_eq (tgt := 27) hx hb dX3_mayGive_22 (by decide) (fun h9 => absurd h9 (by decide)) (fun _ => ?_)
        refine lv_iconst (v := 0) hx hb dX3_mayGive_25 (by decide) ?_
        exact retB0 hx hb hr hlocks dX3_mayGive_26 (by first | exact fun q => c_3 ⟨q.1, q.2.1, q.2.2.1⟩ | exact fun q => q.2.2.2.1 c_11 | exact fun q => q.2.2.2.2.1 c_19 | exact fun q => q.2.2.2.2.2.elim c_30 (fun q => q.elim c_39 (fun q => q.elim c_57 (fun q => Int32.not_le.mpr c_82 q))))
      · refine lv_if_eq (tgt := 27) hx hb dX3_mayGive_22 (by decide) (fun _ => ?_) (fun h9 => absurd (by decide) h9)
        refine lv_aload_n hx hb dX3_mayGive_27 rfl (lv_at hl 0 rfl) ?_
        refine lv_iload_n hx hb dX3_mayGive_28 rfl (lv_at hl 1 rfl) ?_
        refine lv_iload_n hx hb dX3_mayGive_29 rfl (lv_at hl 2 rfl) ?_
        refine callB (As := [.int h, .int k]) (rest := []) ⟨hx, hb, hml, hown, hts⟩ (c_X3_isWithin X h k) (cwV 2 hts gX3_mayGive_X3_isWithin rfl rfl rfl (by decide +kernel) ⟨Nat.le_of_ble_eq_true rfl, Nat.le_of_ble_eq_true rfl⟩) hK hN hP 1 g0_1 rfl rfl hl.1 rfl (Nat.le_of_ble_eq_true rfl) dX3_mayGive_30 ⟨Nat.zero_le _, Nat.zero_le _⟩ (fun c_30 => ?_) (fun c_30 => ?_)
        · refine lv_if_ne (tgt := 60) hx hb dX3_mayGive_33 (by decide) (fun _ => ?_) (fun h9 => absurd h9 (by decide))
          refine lv_iconst (v := 1) hx hb dX3_mayGive_60 (by decide) ?_
          refine lv_goto (tgt := 65) hx hb dX3_mayGive_61 (by decide) ?_
          refine lv_istore_n (lv' := [(3, .int 1), (0, .ref (ad 1)), (1, .int h), (2, .int k)]) hx hb dX3_mayGive_65 rfl hl (by decide) rfl (fun ls hl => ?_)
          refine lv_iload_n hx hb dX3_mayGive_66 rfl (lv_at hl 0 rfl) ?_
          refine lv_if_ne (tgt := 85) hx hb dX3_mayGive_67 (by decide) (fun _ => ?_) (fun h9 => absurd h9 (by decide))
          refine lv_iconst (v := 1) hx hb dX3_mayGive_85 (by decide) ?_
          refine lv_goto (tgt := 90) hx hb dX3_mayGive_86 (by decide) ?_
          exact retB1 hx hb hr hlocks dX3_mayGive_90 (by first | exact ⟨c_3.1, c_3.2.1, c_3.2.2, c_11, c_19, Or.inl c_30⟩ | exact ⟨c_3.1, c_3.2.1, c_3.2.2, c_11, c_19, Or.inr (Or.inl c_39)⟩ | exact ⟨c_3.1, c_3.2.1, c_3.2.2, c_11, c_19, Or.inr (Or.inr (Or.inl c_57))⟩ | exact ⟨c_3.1, c_3.2.1, c_3.2.2, c_11, c_19, Or.inr (Or.inr (Or.inr (Int32.not_lt.mp c_82)))⟩)
        · refine lv_if_ne (tgt := 60) hx hb dX3_mayGive_33 (by decide) (fun h9 => absurd (by decide) h9) (fun _ => ?_)
          refine lv_aload_n hx hb dX3_mayGive_36 rfl (lv_at hl 0 rfl) ?_
          refine lv_iload_n hx hb dX3_mayGive_37 rfl (lv_at hl 2 rfl) ?_
          refine lv_iload_n hx hb dX3_mayGive_38 rfl (lv_at hl 1 rfl) ?_
          refine callB (As := [.int k, .int h]) (rest := []) ⟨hx, hb, hml, hown, hts⟩ (c_X3_isWithin X k h) (cwV 2 hts gX3_mayGive_X3_isWithin rfl rfl rfl (by decide +kernel) ⟨Nat.le_of_ble_eq_true rfl, Nat.le_of_ble_eq_true rfl⟩) hK hN hP 1 g0_1 rfl rfl hl.1 rfl (Nat.le_of_ble_eq_true rfl) dX3_mayGive_39 ⟨Nat.zero_le _, Nat.zero_le _⟩ (fun c_39 => ?_) (fun c_39 => ?_)
          · refine lv_if_ne (tgt := 60) hx hb dX3_mayGive_42 (by decide) (fun _ => ?_) (fun h9 => absurd h9 (by decide))
            refine lv_iconst (v := 1) hx hb dX3_mayGive_60 (by decide) ?_
            refine lv_goto (tgt := 65) hx hb dX3_mayGive_61 (by decide) ?_
            refine lv_istore_n (lv' := [(3, .int 1), (0, .ref (ad 1)), (1, .int h), (2, .int k)]) hx hb dX3_mayGive_65 rfl hl (by decide) rfl (fun ls hl => ?_)
            refine lv_iload_n hx hb dX3_mayGive_66 rfl (lv_at hl 0 rfl) ?_
            refine lv_if_ne (tgt := 85) hx hb dX3_mayGive_67 (by decide) (fun _ => ?_) (fun h9 => absurd h9 (by decide))
            refine lv_iconst (v := 1) hx hb dX3_mayGive_85 (by decide) ?_
            refine lv_goto (tgt := 90) hx hb dX3_mayGive_86 (by decide) ?_
            exact retB1 hx hb hr hlocks dX3_mayGive_90 (by first | exact ⟨c_3.1, c_3.2.1, c_3.2.2, c_11, c_19, Or.inl c_30⟩ | exact ⟨c_3.1, c_3.2.1, c_3.2.2, c_11, c_19, Or.inr (Or.inl c_39)⟩ | exact ⟨c_3.1, c_3.2.1, c_3.2.2, c_11, c_19, Or.inr (Or.inr (Or.inl c_57))⟩ | exact ⟨c_3.1, c_3.2.1, c_3.2.2, c_11, c_19, Or.inr (Or.inr (Or.inr (Int32.not_lt.mp c_82)))⟩)
          · refine lv_if_ne (tgt := 60) hx hb dX3_mayGive_42 (by decide) (fun h9 => absurd (by decide) h9) (fun _ => ?_)
            refine lv_aload_n hx hb dX3_mayGive_45 rfl (lv_at hl 0 rfl) ?_
            refine xget (C := RX3) (T := TX3) (N := 11) (ci := 3) (w := .ref (ad 2)) hx hb hts hi_X3 hown hK hP 1 g0_1 rfl 0 (by decide) lk_9 rfl dX3_mayGive_46 ?_
            refine lv_iload_n hx hb dX3_mayGive_49 rfl (lv_at hl 1 rfl) ?_
            refine xald (x := qv (X 0) 0 h) hx hb hK hP 2 g0_2 (by assumption) rfl dX3_mayGive_50 ?_
            refine lv_aload_n hx hb dX3_mayGive_51 rfl (lv_at hl 0 rfl) ?_
            refine xget (C := RX3) (T := TX3) (N := 11) (ci := 3) (w := .ref (ad 2)) hx hb hts hi_X3 hown hK hP 1 g0_1 rfl 0 (by decide) lk_9 rfl dX3_mayGive_52 ?_
            refine lv_iload_n hx hb dX3_mayGive_55 rfl (lv_at hl 2 rfl) ?_
            refine xald (x := qv (X 0) 0 k) hx hb hK hP 2 g0_2 (by assumption) rfl dX3_mayGive_56 ?_
            refine lv_icmp_ne (tgt := 64) hx hb dX3_mayGive_57 (by decide) (fun c_57 => ?_) (fun c_57 => ?_)
            · refine lv_iconst (v := 0) hx hb dX3_mayGive_64 (by decide) ?_
              refine lv_istore_n (lv' := [(3, .int 0), (0, .ref (ad 1)), (1, .int h), (2, .int k)]) hx hb dX3_mayGive_65 rfl hl (by decide) rfl (fun ls hl => ?_)
              refine lv_iload_n hx hb dX3_mayGive_66 rfl (lv_at hl 0 rfl) ?_
              refine lv_if_ne (tgt := 85) hx hb dX3_mayGive_67 (by decide) (fun h9 => absurd (by decide) h9) (fun _ => ?_)
              refine lv_aload_n hx hb dX3_mayGive_70 rfl (lv_at hl 1 rfl) ?_
              refine xget (C := RX3) (T := TX3) (N := 11) (ci := 3) (w := .ref (ad 4)) hx hb hts hi_X3 hown hK hP 1 g0_1 rfl 2 (by decide) lk_18 rfl dX3_mayGive_71 ?_
              refine lv_iload_n hx hb dX3_mayGive_74 rfl (lv_at hl 2 rfl) ?_
              refine xald (x := qv (X 0) 1 h) hx hb hK hP 4 g0_4 (by assumption) rfl dX3_mayGive_75 ?_
              refine lv_aload_n hx hb dX3_mayGive_76 rfl (lv_at hl 1 rfl) ?_
              refine xget (C := RX3) (T := TX3) (N := 11) (ci := 3) (w := .ref (ad 4)) hx hb hts hi_X3 hown hK hP 1 g0_1 rfl 2 (by decide) lk_18 rfl dX3_mayGive_77 ?_
              refine lv_iload_n hx hb dX3_mayGive_80 rfl (lv_at hl 3 rfl) ?_
              refine xald (x := qv (X 0) 1 k) hx hb hK hP 4 g0_4 (by assumption) rfl dX3_mayGive_81 ?_
              refine lv_icmp_gt (tgt := 89) hx hb dX3_mayGive_82 (by decide) (fun c_82 => ?_) (fun c_82 => ?_)
              · refine lv_iconst (v := 0) hx hb dX3_mayGive_89 (by decide) ?_
                exact retB0 hx hb hr hlocks dX3_mayGive_90 (by first | exact fun q => c_3 ⟨q.1, q.2.1, q.2.2.1⟩ | exact fun q => q.2.2.2.1 c_11 | exact fun q => q.2.2.2.2.1 c_19 | exact fun q => q.2.2.2.2.2.elim c_30 (fun q => q.elim c_39 (fun q => q.elim c_57 (fun q => Int32.not_le.mpr c_82 q))))
              · refine lv_iconst (v := 1) hx hb dX3_mayGive_85 (by decide) ?_
                refine lv_goto (tgt := 90) hx hb dX3_mayGive_86 (by decide) ?_
                exact retB1 hx hb hr hlocks dX3_mayGive_90 (by first | exact ⟨c_3.1, c_3.2.1, c_3.2.2, c_11, c_19, Or.inl c_30⟩ | exact ⟨c_3.1, c_3.2.1, c_3.2.2, c_11, c_19, Or.inr (Or.inl c_39)⟩ | exact ⟨c_3.1, c_3.2.1, c_3.2.2, c_11, c_19, Or.inr (Or.inr (Or.inl c_57))⟩ | exact ⟨c_3.1, c_3.2.1, c_3.2.2, c_11, c_19, Or.inr (Or.inr (Or.inr (Int32.not_lt.mp c_82)))⟩)
            · refine lv_iconst (v := 1) hx hb dX3_mayGive_60 (by decide) ?_
              refine lv_goto (tgt := 65) hx hb dX3_mayGive_61 (by decide) ?_
              refine lv_istore_n (lv' := [(3, .int 1), (0, .ref (ad 1)), (1, .int h), (2, .int k)]) hx hb dX3_mayGive_65 rfl hl (by decide) rfl (fun ls hl => ?_)
              refine lv_iload_n hx hb dX3_mayGive_66 rfl (lv_at hl 0 rfl) ?_
              refine lv_if_ne (tgt := 85) hx hb dX3_mayGive_67 (by decide) (fun _ => ?_) (fun h9 => absurd h9 (by decide))
              refine lv_iconst (v := 1) hx hb dX3_mayGive_85 (by decide) ?_
              refine lv_goto (tgt := 90) hx hb dX3_mayGive_86 (by decide) ?_
              exact retB1 hx hb hr hlocks dX3_mayGive_90 (by first | exact ⟨c_3.1, c_3.2.1, c_3.2.2, c_11, c_19, Or.inl c_30⟩ | exact ⟨c_3.1, c_3.2.1, c_3.2.2, c_11, c_19, Or.inr (Or.inl c_39)⟩ | exact ⟨c_3.1, c_3.2.1, c_3.2.2, c_11, c_19, Or.inr (Or.inr (Or.inl c_57))⟩ | exact ⟨c_3.1, c_3.2.1, c_3.2.2, c_11, c_19, Or.inr (Or.inr (Or.inr (Int32.not_lt.mp c_82)))⟩)
  · refine lv_if_eq (tgt := 25) hx hb dX3_mayGive_6 (by decide) (fun _ => ?_) (fun h9 => absurd (by decide) h9)
    refine lv_iconst (v := 0) hx hb dX3_mayGive_25 (by decide) ?_
    exact retB0 hx hb hr hlocks dX3_mayGive_26 (by first | exact fun q => c_3 ⟨q.1, q.2.1, q.2.2.1⟩ | exact fun q => q.2.2.2.1 c_11 | exact fun q => q.2.2.2.2.1 c_19 | exact fun q => q.2.2.2.2.2.elim c_30 (fun q => q.elim c_39 (fun q => q.elim c_57 (fun q => Int32.not_le.mpr c_82 q))))
set_option maxHeartbeats 4000000 in
set_option maxRecDepth 100000 in
theorem c_X3_movable {l : Launch} {D : va_G} {cI cR : ClassId} {ad : Nat → Nat} (X : St) (h : Int32) (k : Int32) : RoE l D cI cR (wC cI cR ad X) yX3_movable wsX3_movable ({ frames := 3, cells := 0, slots := 0, locals := 68 } : Room) [.ref (ad 1), .int h, .int k] (p_mov (X 0) h k) := by
  refine OfW (cc := cX3_movable) (maxL := 5) (ret := (some .int)) (by decide +kernel) rfl (Nat.le_of_ble_eq_true rfl) (fun p e s m below meth c hx hb hr hts hown hlocks hml hnm hP hK hN ls hl => ?_)
  have hl : lv_has ls 5 [(0, .ref (ad 1)), (1, .int h), (2, .int k)] := hl
  have lk_33 := hts (.fieldLink RX3 33 "HeadBudgets$Heads" "allotted" "[I") (by decide +kernel)
  have lk_39 := hts (.fieldLink RX3 39 "HeadBudgets$Heads" "share" "[I") (by decide +kernel)
  have lk_36 := hts (.fieldLink RX3 36 "HeadBudgets$Heads" "left" "[I") (by decide +kernel)
  have hi_X3 : ∀ w ∈ wsX30, w ∈ wsX3_movable := by decide +kernel
  refine lv_aload_n hx hb dX3_movable_0 rfl (lv_at hl 0 rfl) ?_
  refine lv_iload_n hx hb dX3_movable_1 rfl (lv_at hl 1 rfl) ?_
  refine lv_iload_n hx hb dX3_movable_2 rfl (lv_at hl 2 rfl) ?_
  refine callB (As := [.int h, .int k]) (rest := []) ⟨hx, hb, hml, hown, hts⟩ (c_X3_hasBoth X h k) (cwV 2 hts gX3_movable_X3_hasBoth rfl rfl rfl (by decide +kernel) ⟨Nat.le_of_ble_eq_true rfl, Nat.le_of_ble_eq_true rfl⟩) hK hN hP 1 g0_1 rfl rfl hl.1 rfl (Nat.le_of_ble_eq_true rfl) dX3_movable_3 ⟨Nat.zero_le _, Nat.zero_le _⟩ (fun c_3 => ?_) (fun c_3 => ?_)
  · refine lv_if_eq (tgt := 18) hx hb dX3_movable_6 (by decide) (fun h9 => absurd h9 (by decide)) (fun _ => ?_)
    refine lv_aload_n hx hb dX3_movable_9 rfl (lv_at hl 0 rfl) ?_
    refine lv_iload_n hx hb dX3_movable_10 rfl (lv_at hl 1 rfl) ?_
    refine lv_iload_n hx hb dX3_movable_11 rfl (lv_at hl 2 rfl) ?_
    refine callB (As := [.int h, .int k]) (rest := []) ⟨hx, hb, hml, hown, hts⟩ (c_X3_mayGive X h k) (cwV 2 hts gX3_movable_X3_mayGive rfl rfl rfl (by decide +kernel) ⟨Nat.le_of_ble_eq_true rfl, Nat.le_of_ble_eq_true rfl⟩) hK hN hP 1 g0_1 rfl rfl hl.1 rfl (Nat.le_of_ble_eq_true rfl) dX3_movable_12 ⟨Nat.zero_le _, Nat.zero_le _⟩ (fun c_12 => ?_) (fun c_12 => ?_)
    · have q1 := in20h c_3.1
      refine lv_if_ne (tgt := 20) hx hb dX3_movable_15 (by decide) (fun _ => ?_) (fun h9 => absurd h9 (by decide))
      refine lv_aload_n hx hb dX3_movable_20 rfl (lv_at hl 0 rfl) ?_
      refine xget (C := RX3) (T := TX3) (N := 11) (ci := 3) (w := .ref (ad 9)) hx hb hts hi_X3 hown hK hP 1 g0_1 rfl 7 (by decide) lk_33 rfl dX3_movable_21 ?_
      refine lv_iload_n hx hb dX3_movable_24 rfl (lv_at hl 1 rfl) ?_
      refine xald (x := qv (X 0) 6 h) hx hb hK hP 9 g0_9 q1 rfl dX3_movable_25 ?_
      refine lv_aload_n hx hb dX3_movable_26 rfl (lv_at hl 0 rfl) ?_
      refine xget (C := RX3) (T := TX3) (N := 11) (ci := 3) (w := .ref (ad 11)) hx hb hts hi_X3 hown hK hP 1 g0_1 rfl 9 (by decide) lk_39 rfl dX3_movable_27 ?_
      refine lv_iload_n hx hb dX3_movable_30 rfl (lv_at hl 1 rfl) ?_
      refine xald (x := qv (X 0) 8 h) hx hb hK hP 11 g0_11 q1 rfl dX3_movable_31 ?_
      refine callNE (As := [.int (qv (X 0) 6 h), .int (qv (X 0) 8 h)]) (rest := []) ⟨hx, hb, hml, hown, hts⟩ (c_X5_partOf (qv (X 0) 6 h) (qv (X 0) 8 h)) ⟨va_cnB 2 hts gX3_movable_X5_partOf_n77 rfl rfl rfl hN.2.2.2.2.2 (hts (.initialized RX5) (by decide +kernel)) (by decide +kernel) ⟨Nat.le_of_ble_eq_true rfl, Nat.le_of_ble_eq_true rfl⟩, hts (.static yX5_partOf) (by decide +kernel), trivial⟩ hK hN rfl hl.1 rfl (Nat.le_of_ble_eq_true rfl) dX3_movable_32 ⟨Nat.zero_le _, Nat.zero_le _⟩ ?_
      refine lv_aload_n hx hb dX3_movable_35 rfl (lv_at hl 0 rfl) ?_
      refine xget (C := RX3) (T := TX3) (N := 11) (ci := 3) (w := .ref (ad 10)) hx hb hts hi_X3 hown hK hP 1 g0_1 rfl 8 (by decide) lk_36 rfl dX3_movable_36 ?_
      refine lv_iload_n hx hb dX3_movable_39 rfl (lv_at hl 1 rfl) ?_
      refine xald (x := qv (X 0) 7 h) hx hb hK hP 10 g0_10 q1 rfl dX3_movable_40 ?_
      refine lv_isub hx hb dX3_movable_41 ?_
      refine lv_istore_n (lv' := [(3, .int ((p_part (qv (X 0) 6 h) (qv (X 0) 8 h)) - (qv (X 0) 7 h))), (0, .ref (ad 1)), (1, .int h), (2, .int k)]) hx hb dX3_movable_42 rfl hl (by decide) rfl (fun ls hl => ?_)
      refine lv_ldc (v := 100000) hx hb hown (hts (.constant RX3 80 100000) (by decide +kernel)) dX3_movable_43 ?_
      refine lv_aload_n hx hb dX3_movable_45 rfl (lv_at hl 1 rfl) ?_
      refine lv_iload_n hx hb dX3_movable_46 rfl (lv_at hl 2 rfl) ?_
      refine callE (As := [.int h]) (rest := [.int 100000]) ⟨hx, hb, hml, hown, hts⟩ (c_X3_freeOf X h) (cwV 1 hts gX3_movable_X3_freeOf rfl rfl rfl (by decide +kernel) ⟨Nat.le_of_ble_eq_true rfl, Nat.le_of_ble_eq_true rfl⟩) hK hN hP 1 g0_1 rfl rfl hl.1 rfl (Nat.le_of_ble_eq_true rfl) dX3_movable_47 ⟨Nat.zero_le _, Nat.zero_le _⟩ ?_
      refine lv_iload_n hx hb dX3_movable_50 rfl (lv_at hl 0 rfl) ?_
      refine va_mmin hx hb (by rw [hml]; exact hl.1.symm) hown (hts (.methodLink RX3 81 Lib.Math.min.name) (by decide +kernel)) (hts (.static Lib.Math.min.name) (by decide +kernel)) (hts (.initialized "java/lang/Math") (by decide +kernel)) (hts (.code Lib.Math.min.name Lib.Math.min.code 2 (some .int)) (by decide +kernel)) (Nat.le_of_ble_eq_true rfl) (Nat.le_of_ble_eq_true rfl) (Nat.zero_le _) (Nat.zero_le _) dX3_movable_51 ?_
      refine va_mmin hx hb (by rw [hml]; exact hl.1.symm) hown (hts (.methodLink RX3 81 Lib.Math.min.name) (by decide +kernel)) (hts (.static Lib.Math.min.name) (by decide +kernel)) (hts (.initialized "java/lang/Math") (by decide +kernel)) (hts (.code Lib.Math.min.name Lib.Math.min.code 2 (some .int)) (by decide +kernel)) (Nat.le_of_ble_eq_true rfl) (Nat.le_of_ble_eq_true rfl) (Nat.zero_le _) (Nat.zero_le _) dX3_movable_54 ?_
      refine lv_istore (lv' := [(4, .int (if (if ((p_part (qv (X 0) 6 h) (qv (X 0) 8 h)) - (qv (X 0) 7 h)) < (p_free (X 0) h) then ((p_part (qv (X 0) 6 h) (qv (X 0) 8 h)) - (qv (X 0) 7 h)) else (p_free (X 0) h)) < 100000 then (if ((p_part (qv (X 0) 6 h) (qv (X 0) 8 h)) - (qv (X 0) 7 h)) < (p_free (X 0) h) then ((p_part (qv (X 0) 6 h) (qv (X 0) 8 h)) - (qv (X 0) 7 h)) else (p_free (X 0) h)) else 100000)), (3, .int ((p_part (qv (X 0) 6 h) (qv (X 0) 8 h)) - (qv (X 0) 7 h))), (0, .ref (ad 1)), (1, .int h), (2, .int k)]) hx hb dX3_movable_57 hl (by decide) rfl (fun ls hl => ?_)
      refine lv_iconst (v := 0) hx hb dX3_movable_59 (by decide) ?_
      refine lv_iload hx hb dX3_movable_60 (lv_at hl 0 rfl) ?_
      refine va_mmax hx hb (by rw [hml]; exact hl.1.symm) hown (hts (.methodLink RX3 86 Lib.Math.max.name) (by decide +kernel)) (hts (.static Lib.Math.max.name) (by decide +kernel)) (hts (.initialized "java/lang/Math") (by decide +kernel)) (hts (.code Lib.Math.max.name Lib.Math.max.code 2 (some .int)) (by decide +kernel)) (Nat.le_of_ble_eq_true rfl) (Nat.le_of_ble_eq_true rfl) (Nat.zero_le _) (Nat.zero_le _) dX3_movable_62 ?_
      exact retE hx hb hr hlocks dX3_movable_65 (ci_t c_12).symm
    · refine lv_if_ne (tgt := 20) hx hb dX3_movable_15 (by decide) (fun h9 => absurd (by decide) h9) (fun _ => ?_)
      refine lv_iconst (v := 0) hx hb dX3_movable_18 (by decide) ?_
      exact retE hx hb hr hlocks dX3_movable_19 (ci_f c_12).symm
  · refine lv_if_eq (tgt := 18) hx hb dX3_movable_6 (by decide) (fun _ => ?_) (fun h9 => absurd (by decide) h9)
    refine lv_iconst (v := 0) hx hb dX3_movable_18 (by decide) ?_
    exact retE hx hb hr hlocks dX3_movable_19 (ci_f (fun q => c_3 ⟨q.1, q.2.1, q.2.2.1⟩)).symm
set_option maxHeartbeats 4000000 in
set_option maxRecDepth 100000 in
theorem c_X3_lapseWithin {l : Launch} {D : va_G} {cI cR : ClassId} {ad : Nat → Nat} (X : St) (t : Int32) (q : Int32) : RoE l D cI cR (wC cI cR ad X) yX3_lapseWithin wsX3_lapseWithin ({ frames := 2, cells := 0, slots := 0, locals := 45 } : Room) [.ref (ad 1), .int t, .int q] (p_lapse (X 0) t q 20) := by
  refine OfW (cc := cX3_lapseWithin) (maxL := 6) (ret := (some .int)) (by decide +kernel) rfl (Nat.le_of_ble_eq_true rfl) (fun p e s m below meth c hx hb hr hts hown hlocks hml hnm hP hK hN ls hl => ?_)
  have hl : lv_has ls 6 [(0, .ref (ad 1)), (1, .int t), (2, .int q)] := hl
  refine lv_iconst (v := 0) hx hb dX3_lapseWithin_0 (by decide) ?_
  refine lv_istore_n (lv' := [(3, .int 0), (0, .ref (ad 1)), (1, .int t), (2, .int q)]) hx hb dX3_lapseWithin_1 rfl hl (by decide) rfl (fun ls hl => ?_)
  refine lv_iconst (v := 0) hx hb dX3_lapseWithin_2 (by decide) ?_
  refine lv_istore (lv' := [(4, .int 0), (3, .int 0), (0, .ref (ad 1)), (1, .int t), (2, .int q)]) hx hb dX3_lapseWithin_3 hl (by decide) rfl (fun ls hl => ?_)
  have hloop_5 : ∀ (n_5 : Nat) (k : Nat) (xa xk : Int32), k ≤ 20 → 20 < k + n_5 → xk = nI k → xa = p_lapse (X 0) t q k → ∀ ls : Array Slot, lv_has ls 6 [(0, .ref (ad 1)), (1, .int t), (2, .int q), (3, .int xa), (4, .int xk)] → W p l e ({ frames := 2, cells := 0, slots := 0, locals := 45 } : Room) s m ([.ref (ad 1), .int t, .int q]).toArray below meth c s.heap [] 0 0 (MQ below (vp_Si (fun r => r = p_lapse (X 0) t q 20)) ([.ref (ad 1), .int t, .int q]).toArray s 0 0 (fun _ => False)) (F0 m 5 ls []) := by
    intro n_5
    induction n_5 with
    | zero =>
      intro k xa xk hk hn ek ea ls hl
      exfalso; omega
    | succ n_5 ih_5 =>
      intro k xa xk hk hn ek ea ls hl
      refine lv_iload hx hb dX3_lapseWithin_5 (lv_at hl 4 rfl) ?_
      refine lv_bipush (v := 20) hx hb dX3_lapseWithin_7 (by decide) ?_
      refine lv_icmp_ge (tgt := 48) hx hb dX3_lapseWithin_9 (by decide) (fun c_9 => ?_) (fun c_9 => ?_)
      · have hk2 : k = 20 := nI_ge20 hk (by rw [← ek]; exact c_9)
        subst hk2
        refine lv_iload_n hx hb dX3_lapseWithin_48 rfl (lv_at hl 3 rfl) ?_
        exact retE hx hb hr hlocks dX3_lapseWithin_49 ea
      · have hlt : k < 20 := nI_lt20 (by omega) (by rw [← ek]; exact c_9)
        refine lv_aload_n hx hb dX3_lapseWithin_12 rfl (lv_at hl 0 rfl) ?_
        refine lv_iload hx hb dX3_lapseWithin_13 (lv_at hl 4 rfl) ?_
        refine lv_iload_n hx hb dX3_lapseWithin_15 rfl (lv_at hl 1 rfl) ?_
        refine callB (As := [.int xk, .int t]) (rest := []) ⟨hx, hb, hml, hown, hts⟩ (c_X3_isWithin X xk t) (cwV 2 hts gX3_lapseWithin_X3_isWithin rfl rfl rfl (by decide +kernel) ⟨Nat.le_of_ble_eq_true rfl, Nat.le_of_ble_eq_true rfl⟩) hK hN hP 1 g0_1 rfl rfl hl.1 rfl (Nat.le_of_ble_eq_true rfl) dX3_lapseWithin_16 ⟨Nat.zero_le _, Nat.zero_le _⟩ (fun c_16 => ?_) (fun c_16 => ?_)
        · refine lv_if_eq (tgt := 42) hx hb dX3_lapseWithin_19 (by decide) (fun h9 => absurd h9 (by decide)) (fun _ => ?_)
          refine lv_aload_n hx hb dX3_lapseWithin_22 rfl (lv_at hl 0 rfl) ?_
          refine lv_iload hx hb dX3_lapseWithin_23 (lv_at hl 4 rfl) ?_
          refine callE (As := [.int xk]) (rest := []) ⟨hx, hb, hml, hown, hts⟩ (c_X3_freeOf X xk) (cwV 1 hts gX3_lapseWithin_X3_freeOf rfl rfl rfl (by decide +kernel) ⟨Nat.le_of_ble_eq_true rfl, Nat.le_of_ble_eq_true rfl⟩) hK hN hP 1 g0_1 rfl rfl hl.1 rfl (Nat.le_of_ble_eq_true rfl) dX3_lapseWithin_25 ⟨Nat.zero_le _, Nat.zero_le _⟩ ?_
          refine lv_istore (lv' := [(5, .int (p_free (X 0) xk)), (0, .ref (ad 1)), (1, .int t), (2, .int q), (3, .int xa), (4, .int xk)]) hx hb dX3_lapseWithin_28 hl (by decide) rfl (fun ls hl => ?_)
          refine lv_iload_n hx hb dX3_lapseWithin_30 rfl (lv_at hl 4 rfl) ?_
          refine lv_iload hx hb dX3_lapseWithin_31 (lv_at hl 0 rfl) ?_
          refine lv_iload hx hb dX3_lapseWithin_33 (lv_at hl 0 rfl) ?_
          refine lv_iload_n hx hb dX3_lapseWithin_35 rfl (lv_at hl 3 rfl) ?_
          refine callNE (As := [.int (p_free (X 0) xk), .int q]) (rest := [.int (p_free (X 0) xk), .int xa]) ⟨hx, hb, hml, hown, hts⟩ (c_X5_partOf (p_free (X 0) xk) q) ⟨va_cnB 2 hts gX3_lapseWithin_X5_partOf_n77 rfl rfl rfl hN.2.2.2.2.2 (hts (.initialized RX5) (by decide +kernel)) (by decide +kernel) ⟨Nat.le_of_ble_eq_true rfl, Nat.le_of_ble_eq_true rfl⟩, hts (.static yX5_partOf) (by decide +kernel), trivial⟩ hK hN rfl hl.1 rfl (Nat.le_of_ble_eq_true rfl) dX3_lapseWithin_36 ⟨Nat.zero_le _, Nat.zero_le _⟩ ?_
          refine lv_isub hx hb dX3_lapseWithin_39 ?_
          refine lv_iadd hx hb dX3_lapseWithin_40 ?_
          refine lv_istore_n (lv' := [(3, .int (xa + ((p_free (X 0) xk) - (p_part (p_free (X 0) xk) q)))), (5, .int (p_free (X 0) xk)), (0, .ref (ad 1)), (1, .int t), (2, .int q), (4, .int xk)]) hx hb dX3_lapseWithin_41 rfl hl (by decide) rfl (fun ls hl => ?_)
          refine lv_iinc (v := xk + 1) (lv' := [(4, .int (xk + 1)), (3, .int (xa + ((p_free (X 0) xk) - (p_part (p_free (X 0) xk) q)))), (5, .int (p_free (X 0) xk)), (0, .ref (ad 1)), (1, .int t), (2, .int q)]) hx hb dX3_lapseWithin_42 hl (k := 5) rfl rfl (by decide) rfl (fun ls hl => ?_)
          refine lv_goto (tgt := 5) hx hb dX3_lapseWithin_45 (by decide) ?_
          exact ih_5  (k + 1) _ _ (by omega) (by omega) (by rw [ek]; exact nI_1 k) (by rw [ea, ek]; exact (sumI_ci (by rw [← ek]; exact c_16) rfl).symm) _ (lv_sub hl [3, 4, 5, 1, 0] rfl)
        · refine lv_if_eq (tgt := 42) hx hb dX3_lapseWithin_19 (by decide) (fun _ => ?_) (fun h9 => absurd (by decide) h9)
          refine lv_iinc (v := xk + 1) (lv' := [(4, .int (xk + 1)), (0, .ref (ad 1)), (1, .int t), (2, .int q), (3, .int xa)]) hx hb dX3_lapseWithin_42 hl (k := 4) rfl rfl (by decide) rfl (fun ls hl => ?_)
          refine lv_goto (tgt := 5) hx hb dX3_lapseWithin_45 (by decide) ?_
          exact ih_5  (k + 1) _ _ (by omega) (by omega) (by rw [ek]; exact nI_1 k) (by rw [ea]; exact (sumI_c0 (by rw [← ek]; exact c_16) rfl).symm) _ (lv_sub hl [1, 2, 3, 4, 0] rfl)
  exact hloop_5  21 0 0 0 (by omega) (by omega) rfl rfl _ (lv_sub hl [2, 3, 4, 1, 0] rfl)
set_option maxHeartbeats 4000000 in
set_option maxRecDepth 100000 in
theorem c_X1_countOpen {l : Launch} {D : va_G} {cI cR : ClassId} {ad : Nat → Nat} (X : St) : RoE l D cI cR (wC cI cR ad X) yX1_countOpen wsX1_countOpen ({ frames := 0, cells := 0, slots := 0, locals := 0 } : Room) [.ref (ad 12)] (p_open (X 0) 40) := by
  refine OfW (cc := cX1_countOpen) (maxL := 3) (ret := (some .int)) (by decide +kernel) rfl (Nat.le_of_ble_eq_true rfl) (fun p e s m below meth c hx hb hr hts hown hlocks hml hnm hP hK hN ls hl => ?_)
  have hl : lv_has ls 3 [(0, .ref (ad 12))] := hl
  have lk_15 := hts (.fieldLink RX1 15 "HeadBudgets$Commitments" "open" "[I") (by decide +kernel)
  have hi_X1 : ∀ w ∈ wsX10, w ∈ wsX1_countOpen := by decide +kernel
  refine lv_iconst (v := 0) hx hb dX1_countOpen_0 (by decide) ?_
  refine lv_istore_n (lv' := [(1, .int 0), (0, .ref (ad 12))]) hx hb dX1_countOpen_1 rfl hl (by decide) rfl (fun ls hl => ?_)
  refine lv_iconst (v := 0) hx hb dX1_countOpen_2 (by decide) ?_
  refine lv_istore_n (lv' := [(2, .int 0), (1, .int 0), (0, .ref (ad 12))]) hx hb dX1_countOpen_3 rfl hl (by decide) rfl (fun ls hl => ?_)
  have hloop_4 : ∀ (n_4 : Nat) (k : Nat) (xa xk : Int32), k ≤ 40 → 40 < k + n_4 → xk = nI k → xa = p_open (X 0) k → ∀ ls : Array Slot, lv_has ls 3 [(0, .ref (ad 12)), (1, .int xa), (2, .int xk)] → W p l e ({ frames := 0, cells := 0, slots := 0, locals := 0 } : Room) s m ([.ref (ad 12)]).toArray below meth c s.heap [] 0 0 (MQ below (vp_Si (fun r => r = p_open (X 0) 40)) ([.ref (ad 12)]).toArray s 0 0 (fun _ => False)) (F0 m 4 ls []) := by
    intro n_4
    induction n_4 with
    | zero =>
      intro k xa xk hk hn ek ea ls hl
      exfalso; omega
    | succ n_4 ih_4 =>
      intro k xa xk hk hn ek ea ls hl
      refine lv_iload_n hx hb dX1_countOpen_4 rfl (lv_at hl 2 rfl) ?_
      refine lv_bipush (v := 40) hx hb dX1_countOpen_5 (by decide) ?_
      refine lv_icmp_ge (tgt := 28) hx hb dX1_countOpen_7 (by decide) (fun c_7 => ?_) (fun c_7 => ?_)
      · have hk2 : k = 40 := nI_ge40 hk (by rw [← ek]; exact c_7)
        subst hk2
        refine lv_iload_n hx hb dX1_countOpen_28 rfl (lv_at hl 1 rfl) ?_
        exact retE hx hb hr hlocks dX1_countOpen_29 ea
      · have hlt : k < 40 := nI_lt40 (by omega) (by rw [← ek]; exact c_7)
        refine lv_aload_n hx hb dX1_countOpen_10 rfl (lv_at hl 0 rfl) ?_
        refine xget (C := RX1) (T := TX1) (N := 5) (ci := 1) (w := .ref (ad 14)) hx hb hts hi_X1 hown hK hP 12 g0_12 rfl 1 (by decide) lk_15 rfl dX1_countOpen_11 ?_
        refine lv_iload_n hx hb dX1_countOpen_14 rfl (lv_at hl 2 rfl) ?_
        refine xald (x := qv (X 0) 11 xk) hx hb hK hP 14 g0_14 (by rw [ek]; exact in40 (nI_cin hlt)) rfl dX1_countOpen_15 ?_
        refine lv_if_le (tgt := 22) hx hb dX1_countOpen_16 (by decide) (fun c_16 => ?_) (fun c_16 => ?_)
        · refine lv_iinc (v := xk + 1) (lv' := [(2, .int (xk + 1)), (0, .ref (ad 12)), (1, .int xa)]) hx hb dX1_countOpen_22 hl (k := 2) rfl rfl (by decide) rfl (fun ls hl => ?_)
          refine lv_goto (tgt := 4) hx hb dX1_countOpen_25 (by decide) ?_
          exact ih_4  (k + 1) _ _ (by omega) (by omega) (by rw [ek]; exact nI_1 k) (by rw [ea]; exact (sumI_c0 (by rw [ek, qv, nI_c hk] at c_16; exact Int32.not_lt.mpr c_16) rfl).symm) _ (lv_sub hl [1, 2, 0] rfl)
        · refine lv_iinc (v := xa + 1) (lv' := [(1, .int (xa + 1)), (0, .ref (ad 12)), (2, .int xk)]) hx hb dX1_countOpen_19 hl (k := 1) rfl rfl (by decide) rfl (fun ls hl => ?_)
          refine lv_iinc (v := xk + 1) (lv' := [(2, .int (xk + 1)), (1, .int (xa + 1)), (0, .ref (ad 12))]) hx hb dX1_countOpen_22 hl (k := 2) rfl rfl (by decide) rfl (fun ls hl => ?_)
          refine lv_goto (tgt := 4) hx hb dX1_countOpen_25 (by decide) ?_
          exact ih_4  (k + 1) _ _ (by omega) (by omega) (by rw [ek]; exact nI_1 k) (by rw [ea]; exact (sumI_ci (by rw [ek, qv, nI_c hk] at c_16; exact Int32.not_le.mp c_16) rfl).symm) _ (lv_sub hl [2, 1, 0] rfl)
  exact hloop_4  41 0 0 0 (by omega) (by omega) rfl rfl _ (lv_sub hl [2, 1, 0] rfl)
set_option maxHeartbeats 4000000 in
set_option maxRecDepth 100000 in
theorem c_X3_giverOfMost {l : Launch} {D : va_G} {cI cR : ClassId} {ad : Nat → Nat} (X : St) (t : Int32) : RoE l D cI cR (wC cI cR ad X) yX3_giverOfMost wsX3_giverOfMost ({ frames := 4, cells := 0, slots := 0, locals := 92 } : Room) [.ref (ad 1), .int t] ((p_best (X 0) t 20).1) := by
  refine OfW (cc := cX3_giverOfMost) (maxL := 6) (ret := (some .int)) (by decide +kernel) rfl (Nat.le_of_ble_eq_true rfl) (fun p e s m below meth c hx hb hr hts hown hlocks hml hnm hP hK hN ls hl => ?_)
  have hl : lv_has ls 6 [(0, .ref (ad 1)), (1, .int t)] := hl
  have lk_18 := hts (.fieldLink RX3 18 "HeadBudgets$Heads" "rank" "[I") (by decide +kernel)
  have hi_X3 : ∀ w ∈ wsX30, w ∈ wsX3_giverOfMost := by decide +kernel
  refine lv_bipush (v := (-9)) hx hb dX3_giverOfMost_0 (by decide) ?_
  refine lv_istore_n (lv' := [(2, .int ((-9))), (0, .ref (ad 1)), (1, .int t)]) hx hb dX3_giverOfMost_2 rfl hl (by decide) rfl (fun ls hl => ?_)
  refine lv_iconst (v := 0) hx hb dX3_giverOfMost_3 (by decide) ?_
  refine lv_istore_n (lv' := [(3, .int 0), (2, .int ((-9))), (0, .ref (ad 1)), (1, .int t)]) hx hb dX3_giverOfMost_4 rfl hl (by decide) rfl (fun ls hl => ?_)
  refine lv_iconst (v := 0) hx hb dX3_giverOfMost_5 (by decide) ?_
  refine lv_istore (lv' := [(4, .int 0), (3, .int 0), (2, .int ((-9))), (0, .ref (ad 1)), (1, .int t)]) hx hb dX3_giverOfMost_6 hl (by decide) rfl (fun ls hl => ?_)
  have hloop_8 : ∀ (n_8 : Nat) (k : Nat) (xb xm xk : Int32), k ≤ 20 → 20 < k + n_8 → xk = nI k → p_best (X 0) t k = (xb, xm) → ∀ ls : Array Slot, lv_has ls 6 [(0, .ref (ad 1)), (1, .int t), (2, .int xb), (3, .int xm), (4, .int xk)] → W p l e ({ frames := 4, cells := 0, slots := 0, locals := 92 } : Room) s m ([.ref (ad 1), .int t]).toArray below meth c s.heap [] 0 0 (MQ below (vp_Si (fun r => r = (p_best (X 0) t 20).1)) ([.ref (ad 1), .int t]).toArray s 0 0 (fun _ => False)) (F0 m 8 ls []) := by
    intro n_8
    induction n_8 with
    | zero =>
      intro k xb xm xk hk hn ek ea ls hl
      exfalso; omega
    | succ n_8 ih_8 =>
      intro k xb xm xk hk hn ek ea ls hl
      refine lv_iload hx hb dX3_giverOfMost_8 (lv_at hl 4 rfl) ?_
      refine lv_bipush (v := 20) hx hb dX3_giverOfMost_10 (by decide) ?_
      refine lv_icmp_ge (tgt := 72) hx hb dX3_giverOfMost_12 (by decide) (fun c_12 => ?_) (fun c_12 => ?_)
      · have hk2 : k = 20 := nI_ge20 hk (by rw [← ek]; exact c_12)
        subst hk2
        refine lv_iload_n hx hb dX3_giverOfMost_72 rfl (lv_at hl 2 rfl) ?_
        exact retE hx hb hr hlocks dX3_giverOfMost_73 (by rw [ea])
      · have hlt : k < 20 := nI_lt20 (by omega) (by rw [← ek]; exact c_12)
        have q1 := in20 (nI_hin hlt)
        rw [← ek] at q1
        refine lv_aload_n hx hb dX3_giverOfMost_15 rfl (lv_at hl 0 rfl) ?_
        refine lv_iload hx hb dX3_giverOfMost_16 (lv_at hl 4 rfl) ?_
        refine lv_iload_n hx hb dX3_giverOfMost_18 rfl (lv_at hl 1 rfl) ?_
        refine callE (As := [.int xk, .int t]) (rest := []) ⟨hx, hb, hml, hown, hts⟩ (c_X3_movable X xk t) (cwV 2 hts gX3_giverOfMost_X3_movable rfl rfl rfl (by decide +kernel) ⟨Nat.le_of_ble_eq_true rfl, Nat.le_of_ble_eq_true rfl⟩) hK hN hP 1 g0_1 rfl rfl hl.1 rfl (Nat.le_of_ble_eq_true rfl) dX3_giverOfMost_19 ⟨Nat.zero_le _, Nat.zero_le _⟩ ?_
        refine lv_istore (lv' := [(5, .int (p_mov (X 0) xk t)), (0, .ref (ad 1)), (1, .int t), (2, .int xb), (3, .int xm), (4, .int xk)]) hx hb dX3_giverOfMost_22 hl (by decide) rfl (fun ls hl => ?_)
        refine lv_iload hx hb dX3_giverOfMost_24 (lv_at hl 0 rfl) ?_
        refine lv_iload_n hx hb dX3_giverOfMost_26 rfl (lv_at hl 4 rfl) ?_
        refine lv_icmp_gt (tgt := 60) hx hb dX3_giverOfMost_27 (by decide) (fun c_27 => ?_) (fun c_27 => ?_)
        · refine lv_iload hx hb dX3_giverOfMost_60 (lv_at hl 5 rfl) ?_
          refine lv_istore_n (lv' := [(2, .int xk), (5, .int (p_mov (X 0) xk t)), (0, .ref (ad 1)), (1, .int t), (3, .int xm), (4, .int xk)]) hx hb dX3_giverOfMost_62 rfl hl (by decide) rfl (fun ls hl => ?_)
          refine lv_iload hx hb dX3_giverOfMost_63 (lv_at hl 1 rfl) ?_
          refine lv_istore_n (lv' := [(3, .int (p_mov (X 0) xk t)), (2, .int xk), (5, .int (p_mov (X 0) xk t)), (0, .ref (ad 1)), (1, .int t), (4, .int xk)]) hx hb dX3_giverOfMost_65 rfl hl (by decide) rfl (fun ls hl => ?_)
          refine lv_iinc (v := xk + 1) (lv' := [(4, .int (xk + 1)), (3, .int (p_mov (X 0) xk t)), (2, .int xk), (5, .int (p_mov (X 0) xk t)), (0, .ref (ad 1)), (1, .int t)]) hx hb dX3_giverOfMost_66 hl (k := 5) rfl rfl (by decide) rfl (fun ls hl => ?_)
          refine lv_goto (tgt := 8) hx hb dX3_giverOfMost_69 (by decide) ?_
          exact ih_8  (k + 1) _ _ _ (by omega) (by omega) (by rw [ek]; exact nI_1 k) (best_yes ea ek (by first | exact Or.inl c_27 | exact Or.inr ⟨c_33, c_38, Int32.not_le.mp c_57⟩)) _ (lv_sub hl [4, 5, 2, 1, 0] rfl)
        · refine lv_iload hx hb dX3_giverOfMost_30 (lv_at hl 0 rfl) ?_
          refine lv_iload_n hx hb dX3_giverOfMost_32 rfl (lv_at hl 4 rfl) ?_
          refine lv_icmp_ne (tgt := 66) hx hb dX3_giverOfMost_33 (by decide) (fun c_33 => ?_) (fun c_33 => ?_)
          · refine lv_iinc (v := xk + 1) (lv' := [(4, .int (xk + 1)), (5, .int (p_mov (X 0) xk t)), (0, .ref (ad 1)), (1, .int t), (2, .int xb), (3, .int xm)]) hx hb dX3_giverOfMost_66 hl (k := 5) rfl rfl (by decide) rfl (fun ls hl => ?_)
            refine lv_goto (tgt := 8) hx hb dX3_giverOfMost_69 (by decide) ?_
            exact ih_8  (k + 1) _ _ _ (by omega) (by omega) (by rw [ek]; exact nI_1 k) (best_no ea ek (by first | exact fun q => q.elim c_27 (fun q => c_33 q.1) | exact fun q => q.elim c_27 (fun q => c_38 q.2.1) | exact fun q => q.elim c_27 (fun q => Int32.not_le.mpr q.2.2 c_57))) _ (lv_sub hl [2, 3, 4, 5, 0] rfl)
          · refine lv_aload_n hx hb dX3_giverOfMost_36 rfl (lv_at hl 1 rfl) ?_
            refine lv_iload_n hx hb dX3_giverOfMost_37 rfl (lv_at hl 3 rfl) ?_
            refine callB (As := [.int xb]) (rest := []) ⟨hx, hb, hml, hown, hts⟩ (c_X3_has X xb) (cwV 1 hts gX3_giverOfMost_X3_has rfl rfl rfl (by decide +kernel) ⟨Nat.le_of_ble_eq_true rfl, Nat.le_of_ble_eq_true rfl⟩) hK hN hP 1 g0_1 rfl rfl hl.1 rfl (Nat.le_of_ble_eq_true rfl) dX3_giverOfMost_38 ⟨Nat.zero_le _, Nat.zero_le _⟩ (fun c_38 => ?_) (fun c_38 => ?_)
            · have q2 := in20h c_38
              refine lv_if_eq (tgt := 66) hx hb dX3_giverOfMost_41 (by decide) (fun h9 => absurd h9 (by decide)) (fun _ => ?_)
              refine lv_aload_n hx hb dX3_giverOfMost_44 rfl (lv_at hl 1 rfl) ?_
              refine xget (C := RX3) (T := TX3) (N := 11) (ci := 3) (w := .ref (ad 4)) hx hb hts hi_X3 hown hK hP 1 g0_1 rfl 2 (by decide) lk_18 rfl dX3_giverOfMost_45 ?_
              refine lv_iload hx hb dX3_giverOfMost_48 (lv_at hl 5 rfl) ?_
              refine xald (x := qv (X 0) 1 xk) hx hb hK hP 4 g0_4 (by assumption) rfl dX3_giverOfMost_50 ?_
              refine lv_aload_n hx hb dX3_giverOfMost_51 rfl (lv_at hl 1 rfl) ?_
              refine xget (C := RX3) (T := TX3) (N := 11) (ci := 3) (w := .ref (ad 4)) hx hb hts hi_X3 hown hK hP 1 g0_1 rfl 2 (by decide) lk_18 rfl dX3_giverOfMost_52 ?_
              refine lv_iload_n hx hb dX3_giverOfMost_55 rfl (lv_at hl 3 rfl) ?_
              refine xald (x := qv (X 0) 1 xb) hx hb hK hP 4 g0_4 (by assumption) rfl dX3_giverOfMost_56 ?_
              refine lv_icmp_le (tgt := 66) hx hb dX3_giverOfMost_57 (by decide) (fun c_57 => ?_) (fun c_57 => ?_)
              · refine lv_iinc (v := xk + 1) (lv' := [(4, .int (xk + 1)), (5, .int (p_mov (X 0) xk t)), (0, .ref (ad 1)), (1, .int t), (2, .int xb), (3, .int xm)]) hx hb dX3_giverOfMost_66 hl (k := 5) rfl rfl (by decide) rfl (fun ls hl => ?_)
                refine lv_goto (tgt := 8) hx hb dX3_giverOfMost_69 (by decide) ?_
                exact ih_8  (k + 1) _ _ _ (by omega) (by omega) (by rw [ek]; exact nI_1 k) (best_no ea ek (by first | exact fun q => q.elim c_27 (fun q => c_33 q.1) | exact fun q => q.elim c_27 (fun q => c_38 q.2.1) | exact fun q => q.elim c_27 (fun q => Int32.not_le.mpr q.2.2 c_57))) _ (lv_sub hl [2, 3, 4, 5, 0] rfl)
              · refine lv_iload hx hb dX3_giverOfMost_60 (lv_at hl 5 rfl) ?_
                refine lv_istore_n (lv' := [(2, .int xk), (5, .int (p_mov (X 0) xk t)), (0, .ref (ad 1)), (1, .int t), (3, .int xm), (4, .int xk)]) hx hb dX3_giverOfMost_62 rfl hl (by decide) rfl (fun ls hl => ?_)
                refine lv_iload hx hb dX3_giverOfMost_63 (lv_at hl 1 rfl) ?_
                refine lv_istore_n (lv' := [(3, .int (p_mov (X 0) xk t)), (2, .int xk), (5, .int (p_mov (X 0) xk t)), (0, .ref (ad 1)), (1, .int t), (4, .int xk)]) hx hb dX3_giverOfMost_65 rfl hl (by decide) rfl (fun ls hl => ?_)
                refine lv_iinc (v := xk + 1) (lv' := [(4, .int (xk + 1)), (3, .int (p_mov (X 0) xk t)), (2, .int xk), (5, .int (p_mov (X 0) xk t)), (0, .ref (ad 1)), (1, .int t)]) hx hb dX3_giverOfMost_66 hl (k := 5) rfl rfl (by decide) rfl (fun ls hl => ?_)
                refine lv_goto (tgt := 8) hx hb dX3_giverOfMost_69 (by decide) ?_
                exact ih_8  (k + 1) _ _ _ (by omega) (by omega) (by rw [ek]; exact nI_1 k) (best_yes ea ek (by first | exact Or.inl c_27 | exact Or.inr ⟨c_33, c_38, Int32.not_le.mp c_57⟩)) _ (lv_sub hl [4, 5, 2, 1, 0] rfl)
            · refine lv_if_eq (tgt := 66) hx hb dX3_giverOfMost_41 (by decide) (fun _ => ?_) (fun h9 => absurd (by decide) h9)
              refine lv_iinc (v := xk + 1) (lv' := [(4, .int (xk + 1)), (5, .int (p_mov (X 0) xk t)), (0, .ref (ad 1)), (1, .int t), (2, .int xb), (3, .int xm)]) hx hb dX3_giverOfMost_66 hl (k := 5) rfl rfl (by decide) rfl (fun ls hl => ?_)
              refine lv_goto (tgt := 8) hx hb dX3_giverOfMost_69 (by decide) ?_
              exact ih_8  (k + 1) _ _ _ (by omega) (by omega) (by rw [ek]; exact nI_1 k) (best_no ea ek (by first | exact fun q => q.elim c_27 (fun q => c_33 q.1) | exact fun q => q.elim c_27 (fun q => c_38 q.2.1) | exact fun q => q.elim c_27 (fun q => Int32.not_le.mpr q.2.2 c_57))) _ (lv_sub hl [2, 3, 4, 5, 0] rfl)
  exact hloop_8  21 0 (-9) 0 0 (by omega) (by omega) rfl rfl _ (lv_sub hl [3, 4, 2, 1, 0] rfl)
