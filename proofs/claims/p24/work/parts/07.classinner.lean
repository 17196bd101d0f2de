set_option maxHeartbeats 4000000 in
set_option maxRecDepth 100000 in
theorem c_X3_changeCommitted {l : Launch} {D : va_G} {cI cR : ClassId} {ad : Nat → Nat} (hdj : Dj 236 ad) (X : St) (h : Int32) (a : Int32) : WoV l D cI cR (Aw 236 ad) (wC cI cR ad X) (wC cI cR ad (sg X 0 (b_cc (X 0) h a))) yX3_changeCommitted wsX3_changeCommitted ({ frames := 1, cells := 0, slots := 0, locals := 21 } : Room) [.ref (ad 1), .int h, .int a] := by
  refine OfW (cc := cX3_changeCommitted) (maxL := 3) (ret := none) (by decide +kernel) rfl (Nat.le_of_ble_eq_true rfl) (fun p e s m below meth c hx hb hr hts hown hlocks hml hnm hP hK hN ls hl => ?_)
  have hl : lv_has ls 3 [(0, .ref (ad 1)), (1, .int h), (2, .int a)] := hl
  have lk_27 := hts (.fieldLink RX3 27 "HeadBudgets$Heads" "committed" "[I") (by decide +kernel)
  have hi_X3 : ∀ w ∈ wsX30, w ∈ wsX3_changeCommitted := by decide +kernel
  have hS : va_S (Aw 236 ad) s.heap s.heap [] := va_S.rf
  have hP : va_P D vwCl (wC cI cR ad X) s.heap := hP
  refine lv_aload_n hx hb dX3_changeCommitted_0 rfl (lv_at hl 0 rfl) ?_
  refine lv_iload_n hx hb dX3_changeCommitted_1 rfl (lv_at hl 1 rfl) ?_
  refine callB (As := [.int h]) (rest := []) ⟨hx, hb, hml, hown, hts⟩ (c_X3_has X h) (cwV 1 hts gX3_changeCommitted_X3_has rfl rfl rfl (by decide +kernel) ⟨Nat.le_of_ble_eq_true rfl, Nat.le_of_ble_eq_true rfl⟩) hK hN hP 1 g0_1 rfl rfl hl.1 rfl (Nat.le_of_ble_eq_true rfl) dX3_changeCommitted_2 ⟨Nat.zero_le _, Nat.zero_le _⟩ (fun c_2 => ?_) (fun c_2 => ?_)
  · refine lv_if_eq (tgt := 18) hx hb dX3_changeCommitted_5 (by decide) (fun h9 => absurd h9 (by decide)) (fun _ => ?_)
    refine lv_aload_n hx hb dX3_changeCommitted_8 rfl (lv_at hl 0 rfl) ?_
    refine xget (C := RX3) (T := TX3) (N := 11) (ci := 3) (w := .ref (ad 7)) hx hb hts hi_X3 hown hK hP 1 g0_1 rfl 5 (by decide) lk_27 rfl dX3_changeCommitted_9 ?_
    refine lv_iload_n hx hb dX3_changeCommitted_12 rfl (lv_at hl 1 rfl) ?_
    refine lv_dup2_11 hx hb dX3_changeCommitted_13 rfl rfl ?_
    refine xald (x := qv (X 0) 4 h) hx hb hK hP 7 g0_7 (in20h c_2) rfl dX3_changeCommitted_14 ?_
    refine lv_iload_n hx hb dX3_changeCommitted_15 rfl (lv_at hl 2 rfl) ?_
    refine lv_iadd hx hb dX3_changeCommitted_16 ?_
    refine xast hx hb hK hP (wC_D hdj) hS 7 g0_7 (in20h c_2) s0_4 dX3_changeCommitted_17 (fun H locs hP hS => ?_)
    obtain ⟨X_1, eX_1⟩ : ∃ Z : St, Z = u3 X 0 4 h.toNatClampNeg ((qv (X 0) 4 h) + a) := ⟨_, rfl⟩
    rw [← eX_1] at hP
    have hZ : X_1 = sg X 0 (b_cc (X 0) h a) := by
      subst eX_1
      try simp only [u3_sg, sg_sg, sg_g]
      try unfold b_cc
      try dsimp only
      all_goals repeat (first | rw [ci_t c_2] | rw [ci_f c_2])
      all_goals (first | rfl | (rw [sg_self]) | (simp only [u3_sg, sg_sg, sg_g]; done) | (simp only [u3_sg, sg_sg, sg_g]; rfl))
    exact retWV hx hb hr hlocks (by rw [← hZ]; exact hP) hS dX3_changeCommitted_18
  · refine lv_if_eq (tgt := 18) hx hb dX3_changeCommitted_5 (by decide) (fun _ => ?_) (fun h9 => absurd (by decide) h9)
    have hZ : X = sg X 0 (b_cc (X 0) h a) := by
      try simp only [u3_sg, sg_sg, sg_g]
      try unfold b_cc
      try dsimp only
      all_goals repeat (first | rw [ci_t c_2] | rw [ci_f c_2])
      all_goals (first | rfl | (rw [sg_self]) | (simp only [u3_sg, sg_sg, sg_g]; done) | (simp only [u3_sg, sg_sg, sg_g]; rfl))
    exact retWV hx hb hr hlocks (by rw [← hZ]; exact hP) hS dX3_changeCommitted_18
set_option maxHeartbeats 4000000 in
set_option maxRecDepth 100000 in
theorem c_X3_spendCommitted {l : Launch} {D : va_G} {cI cR : ClassId} {ad : Nat → Nat} (hdj : Dj 236 ad) (X : St) (h : Int32) (a : Int32) : WoV l D cI cR (Aw 236 ad) (wC cI cR ad X) (wC cI cR ad (sg X 0 (b_sc (X 0) h a))) yX3_spendCommitted wsX3_spendCommitted ({ frames := 1, cells := 0, slots := 0, locals := 21 } : Room) [.ref (ad 1), .int h, .int a] := by
  refine OfW (cc := cX3_spendCommitted) (maxL := 3) (ret := none) (by decide +kernel) rfl (Nat.le_of_ble_eq_true rfl) (fun p e s m below meth c hx hb hr hts hown hlocks hml hnm hP hK hN ls hl => ?_)
  have hl : lv_has ls 3 [(0, .ref (ad 1)), (1, .int h), (2, .int a)] := hl
  have lk_27 := hts (.fieldLink RX3 27 "HeadBudgets$Heads" "committed" "[I") (by decide +kernel)
  have lk_30 := hts (.fieldLink RX3 30 "HeadBudgets$Heads" "spent" "[I") (by decide +kernel)
  have hi_X3 : ∀ w ∈ wsX30, w ∈ wsX3_spendCommitted := by decide +kernel
  have hS : va_S (Aw 236 ad) s.heap s.heap [] := va_S.rf
  have hP : va_P D vwCl (wC cI cR ad X) s.heap := hP
  refine lv_aload_n hx hb dX3_spendCommitted_0 rfl (lv_at hl 0 rfl) ?_
  refine lv_iload_n hx hb dX3_spendCommitted_1 rfl (lv_at hl 1 rfl) ?_
  refine callB (As := [.int h]) (rest := []) ⟨hx, hb, hml, hown, hts⟩ (c_X3_has X h) (cwV 1 hts gX3_spendCommitted_X3_has rfl rfl rfl (by decide +kernel) ⟨Nat.le_of_ble_eq_true rfl, Nat.le_of_ble_eq_true rfl⟩) hK hN hP 1 g0_1 rfl rfl hl.1 rfl (Nat.le_of_ble_eq_true rfl) dX3_spendCommitted_2 ⟨Nat.zero_le _, Nat.zero_le _⟩ (fun c_2 => ?_) (fun c_2 => ?_)
  · refine lv_if_eq (tgt := 28) hx hb dX3_spendCommitted_5 (by decide) (fun h9 => absurd h9 (by decide)) (fun _ => ?_)
    refine lv_aload_n hx hb dX3_spendCommitted_8 rfl (lv_at hl 0 rfl) ?_
    refine xget (C := RX3) (T := TX3) (N := 11) (ci := 3) (w := .ref (ad 7)) hx hb hts hi_X3 hown hK hP 1 g0_1 rfl 5 (by decide) lk_27 rfl dX3_spendCommitted_9 ?_
    refine lv_iload_n hx hb dX3_spendCommitted_12 rfl (lv_at hl 1 rfl) ?_
    refine lv_dup2_11 hx hb dX3_spendCommitted_13 rfl rfl ?_
    refine xald (x := qv (X 0) 4 h) hx hb hK hP 7 g0_7 (in20h c_2) rfl dX3_spendCommitted_14 ?_
    refine lv_iload_n hx hb dX3_spendCommitted_15 rfl (lv_at hl 2 rfl) ?_
    refine lv_isub hx hb dX3_spendCommitted_16 ?_
    refine xast hx hb hK hP (wC_D hdj) hS 7 g0_7 (in20h c_2) s0_4 dX3_spendCommitted_17 (fun H locs hP hS => ?_)
    obtain ⟨X_1, eX_1⟩ : ∃ Z : St, Z = u3 X 0 4 h.toNatClampNeg ((qv (X 0) 4 h) - a) := ⟨_, rfl⟩
    rw [← eX_1] at hP
    refine lv_aload_n hx hb dX3_spendCommitted_18 rfl (lv_at hl 0 rfl) ?_
    refine xget (C := RX3) (T := TX3) (N := 11) (ci := 3) (w := .ref (ad 8)) hx hb hts hi_X3 hown hK hP 1 g0_1 rfl 6 (by decide) lk_30 rfl dX3_spendCommitted_19 ?_
    refine lv_iload_n hx hb dX3_spendCommitted_22 rfl (lv_at hl 1 rfl) ?_
    refine lv_dup2_11 hx hb dX3_spendCommitted_23 rfl rfl ?_
    refine xald (x := qv (X_1 0) 5 h) hx hb hK hP 8 g0_8 (in20h c_2) rfl dX3_spendCommitted_24 ?_
    refine lv_iload_n hx hb dX3_spendCommitted_25 rfl (lv_at hl 2 rfl) ?_
    refine lv_iadd hx hb dX3_spendCommitted_26 ?_
    refine xast hx hb hK hP (wC_D hdj) hS 8 g0_8 (in20h c_2) s0_5 dX3_spendCommitted_27 (fun H locs hP hS => ?_)
    obtain ⟨X_2, eX_2⟩ : ∃ Z : St, Z = u3 X_1 0 5 h.toNatClampNeg ((qv (X_1 0) 5 h) + a) := ⟨_, rfl⟩
    rw [← eX_2] at hP
    have hZ : X_2 = sg X 0 (b_sc (X 0) h a) := by
      subst eX_2 eX_1
      try simp only [u3_sg, sg_sg, sg_g]
      try unfold b_sc
      try dsimp only
      all_goals repeat (first | rw [ci_t c_2] | rw [ci_f c_2])
      all_goals (first | rfl | (rw [sg_self]) | (simp only [u3_sg, sg_sg, sg_g]; done) | (simp only [u3_sg, sg_sg, sg_g]; rfl))
    exact retWV hx hb hr hlocks (by rw [← hZ]; exact hP) hS dX3_spendCommitted_28
  · refine lv_if_eq (tgt := 28) hx hb dX3_spendCommitted_5 (by decide) (fun _ => ?_) (fun h9 => absurd (by decide) h9)
    have hZ : X = sg X 0 (b_sc (X 0) h a) := by
      try simp only [u3_sg, sg_sg, sg_g]
      try unfold b_sc
      try dsimp only
      all_goals repeat (first | rw [ci_t c_2] | rw [ci_f c_2])
      all_goals (first | rfl | (rw [sg_self]) | (simp only [u3_sg, sg_sg, sg_g]; done) | (simp only [u3_sg, sg_sg, sg_g]; rfl))
    exact retWV hx hb hr hlocks (by rw [← hZ]; exact hP) hS dX3_spendCommitted_28
set_option maxHeartbeats 4000000 in
set_option maxRecDepth 100000 in
theorem c_X3_moveByVirement {l : Launch} {D : va_G} {cI cR : ClassId} {ad : Nat → Nat} (hdj : Dj 236 ad) (X : St) (f : Int32) (t : Int32) (a : Int32) : WoV l D cI cR (Aw 236 ad) (wC cI cR ad X) (wC cI cR ad (sg X 0 (b_mv (X 0) f t a))) yX3_moveByVirement wsX3_moveByVirement ({ frames := 2, cells := 0, slots := 0, locals := 43 } : Room) [.ref (ad 1), .int f, .int t, .int a] := by
  refine OfW (cc := cX3_moveByVirement) (maxL := 4) (ret := none) (by decide +kernel) rfl (Nat.le_of_ble_eq_true rfl) (fun p e s m below meth c hx hb hr hts hown hlocks hml hnm hP hK hN ls hl => ?_)
  have hl : lv_has ls 4 [(0, .ref (ad 1)), (1, .int f), (2, .int t), (3, .int a)] := hl
  have lk_24 := hts (.fieldLink RX3 24 "HeadBudgets$Heads" "allotment" "[I") (by decide +kernel)
  have lk_36 := hts (.fieldLink RX3 36 "HeadBudgets$Heads" "left" "[I") (by decide +kernel)
  have hi_X3 : ∀ w ∈ wsX30, w ∈ wsX3_moveByVirement := by decide +kernel
  have hS : va_S (Aw 236 ad) s.heap s.heap [] := va_S.rf
  have hP : va_P D vwCl (wC cI cR ad X) s.heap := hP
  refine lv_aload_n hx hb dX3_moveByVirement_0 rfl (lv_at hl 0 rfl) ?_
  refine lv_iload_n hx hb dX3_moveByVirement_1 rfl (lv_at hl 1 rfl) ?_
  refine lv_iload_n hx hb dX3_moveByVirement_2 rfl (lv_at hl 2 rfl) ?_
  refine callB (As := [.int f, .int t]) (rest := []) ⟨hx, hb, hml, hown, hts⟩ (c_X3_hasBoth X f t) (cwV 2 hts gX3_moveByVirement_X3_hasBoth rfl rfl rfl (by decide +kernel) ⟨Nat.le_of_ble_eq_true rfl, Nat.le_of_ble_eq_true rfl⟩) hK hN hP 1 g0_1 rfl rfl hl.1 rfl (Nat.le_of_ble_eq_true rfl) dX3_moveByVirement_3 ⟨Nat.zero_le _, Nat.zero_le _⟩ (fun c_3 => ?_) (fun c_3 => ?_)
  · have q1 := in20h c_3.1
    have q2 := in20h c_3.2.1
    refine lv_if_eq (tgt := 39) hx hb dX3_moveByVirement_6 (by decide) (fun h9 => absurd h9 (by decide)) (fun _ => ?_)
    refine lv_aload_n hx hb dX3_moveByVirement_9 rfl (lv_at hl 0 rfl) ?_
    refine xget (C := RX3) (T := TX3) (N := 11) (ci := 3) (w := .ref (ad 6)) hx hb hts hi_X3 hown hK hP 1 g0_1 rfl 4 (by decide) lk_24 rfl dX3_moveByVirement_10 ?_
    refine lv_iload_n hx hb dX3_moveByVirement_13 rfl (lv_at hl 1 rfl) ?_
    refine lv_dup2_11 hx hb dX3_moveByVirement_14 rfl rfl ?_
    refine xald (x := qv (X 0) 3 f) hx hb hK hP 6 g0_6 (by assumption) rfl dX3_moveByVirement_15 ?_
    refine lv_iload_n hx hb dX3_moveByVirement_16 rfl (lv_at hl 3 rfl) ?_
    refine lv_isub hx hb dX3_moveByVirement_17 ?_
    refine xast hx hb hK hP (wC_D hdj) hS 6 g0_6 (by assumption) s0_3 dX3_moveByVirement_18 (fun H locs hP hS => ?_)
    obtain ⟨X_1, eX_1⟩ : ∃ Z : St, Z = u3 X 0 3 f.toNatClampNeg ((qv (X 0) 3 f) - a) := ⟨_, rfl⟩
    rw [← eX_1] at hP
    refine lv_aload_n hx hb dX3_moveByVirement_19 rfl (lv_at hl 0 rfl) ?_
    refine xget (C := RX3) (T := TX3) (N := 11) (ci := 3) (w := .ref (ad 10)) hx hb hts hi_X3 hown hK hP 1 g0_1 rfl 8 (by decide) lk_36 rfl dX3_moveByVirement_20 ?_
    refine lv_iload_n hx hb dX3_moveByVirement_23 rfl (lv_at hl 1 rfl) ?_
    refine lv_dup2_11 hx hb dX3_moveByVirement_24 rfl rfl ?_
    refine xald (x := qv (X_1 0) 7 f) hx hb hK hP 10 g0_10 (by assumption) rfl dX3_moveByVirement_25 ?_
    refine lv_iload_n hx hb dX3_moveByVirement_26 rfl (lv_at hl 3 rfl) ?_
    refine lv_iadd hx hb dX3_moveByVirement_27 ?_
    refine xast hx hb hK hP (wC_D hdj) hS 10 g0_10 (by assumption) s0_7 dX3_moveByVirement_28 (fun H locs hP hS => ?_)
    obtain ⟨X_2, eX_2⟩ : ∃ Z : St, Z = u3 X_1 0 7 f.toNatClampNeg ((qv (X_1 0) 7 f) + a) := ⟨_, rfl⟩
    rw [← eX_2] at hP
    refine lv_aload_n hx hb dX3_moveByVirement_29 rfl (lv_at hl 0 rfl) ?_
    refine xget (C := RX3) (T := TX3) (N := 11) (ci := 3) (w := .ref (ad 6)) hx hb hts hi_X3 hown hK hP 1 g0_1 rfl 4 (by decide) lk_24 rfl dX3_moveByVirement_30 ?_
    refine lv_iload_n hx hb dX3_moveByVirement_33 rfl (lv_at hl 2 rfl) ?_
    refine lv_dup2_11 hx hb dX3_moveByVirement_34 rfl rfl ?_
    refine xald (x := qv (X_2 0) 3 t) hx hb hK hP 6 g0_6 (by assumption) rfl dX3_moveByVirement_35 ?_
    refine lv_iload_n hx hb dX3_moveByVirement_36 rfl (lv_at hl 3 rfl) ?_
    refine lv_iadd hx hb dX3_moveByVirement_37 ?_
    refine xast hx hb hK hP (wC_D hdj) hS 6 g0_6 (by assumption) s0_3 dX3_moveByVirement_38 (fun H locs hP hS => ?_)
    obtain ⟨X_3, eX_3⟩ : ∃ Z : St, Z = u3 X_2 0 3 t.toNatClampNeg ((qv (X_2 0) 3 t) + a) := ⟨_, rfl⟩
    rw [← eX_3] at hP
    have hZ : X_3 = sg X 0 (b_mv (X 0) f t a) := by
      subst eX_3 eX_2 eX_1
      try simp only [u3_sg, sg_sg, sg_g]
      try unfold b_mv n_mv
      try dsimp only
      all_goals repeat (first | rw [ci_t c_3] | rw [ci_f c_3])
      all_goals (first | rfl | (rw [sg_self]) | (simp only [u3_sg, sg_sg, sg_g]; done) | (simp only [u3_sg, sg_sg, sg_g]; rfl))
    exact retWV hx hb hr hlocks (by rw [← hZ]; exact hP) hS dX3_moveByVirement_39
  · refine lv_if_eq (tgt := 39) hx hb dX3_moveByVirement_6 (by decide) (fun _ => ?_) (fun h9 => absurd (by decide) h9)
    have hZ : X = sg X 0 (b_mv (X 0) f t a) := by
      try simp only [u3_sg, sg_sg, sg_g]
      try unfold b_mv n_mv
      try dsimp only
      all_goals repeat (first | rw [ci_t c_3] | rw [ci_f c_3])
      all_goals (first | rfl | (rw [sg_self]) | (simp only [u3_sg, sg_sg, sg_g]; done) | (simp only [u3_sg, sg_sg, sg_g]; rfl))
    exact retWV hx hb hr hlocks (by rw [← hZ]; exact hP) hS dX3_moveByVirement_39
set_option maxHeartbeats 4000000 in
set_option maxRecDepth 100000 in
theorem c_X3_add {l : Launch} {D : va_G} {cI cR : ClassId} {ad : Nat → Nat} (hdj : Dj 236 ad) (X : St) (a : Int32) (k : Int32) : WoE l D cI cR (Aw 236 ad) (wC cI cR ad X) (wC cI cR ad (sg X 0 (b_add (X 0) a k))) yX3_add wsX3_add ({ frames := 1, cells := 0, slots := 0, locals := 21 } : Room) [.ref (ad 1), .int a, .int k] (a_add (X 0)) := by
  refine OfW (cc := cX3_add) (maxL := 4) (ret := (some .int)) (by decide +kernel) rfl (Nat.le_of_ble_eq_true rfl) (fun p e s m below meth c hx hb hr hts hown hlocks hml hnm hP hK hN ls hl => ?_)
  have hl : lv_has ls 4 [(0, .ref (ad 1)), (1, .int a), (2, .int k)] := hl
  have lk_48 := hts (.fieldLink RX3 48 "HeadBudgets$Heads" "made" "I") (by decide +kernel)
  have lk_9 := hts (.fieldLink RX3 9 "HeadBudgets$Heads" "above" "[I") (by decide +kernel)
  have lk_15 := hts (.fieldLink RX3 15 "HeadBudgets$Heads" "depth" "[I") (by decide +kernel)
  have lk_18 := hts (.fieldLink RX3 18 "HeadBudgets$Heads" "rank" "[I") (by decide +kernel)
  have lk_39 := hts (.fieldLink RX3 39 "HeadBudgets$Heads" "share" "[I") (by decide +kernel)
  have hi_X3 : ∀ w ∈ wsX30, w ∈ wsX3_add := by decide +kernel
  have hS : va_S (Aw 236 ad) s.heap s.heap [] := va_S.rf
  have hP : va_P D vwCl (wC cI cR ad X) s.heap := hP
  refine lv_aload_n hx hb dX3_add_0 rfl (lv_at hl 0 rfl) ?_
  refine xget (C := RX3) (T := TX3) (N := 11) (ci := 3) (w := .int (X 0 14 1)) hx hb hts hi_X3 hown hK hP 1 g0_1 rfl 10 (by decide) lk_48 rfl dX3_add_1 ?_
  refine lv_istore_n (lv' := [(3, .int (X 0 14 1)), (0, .ref (ad 1)), (1, .int a), (2, .int k)]) hx hb dX3_add_4 rfl hl (by decide) rfl (fun ls hl => ?_)
  refine lv_iload_n hx hb dX3_add_5 rfl (lv_at hl 0 rfl) ?_
  refine lv_if_lt (tgt := 15) hx hb dX3_add_6 (by decide) (fun c_6 => ?_) (fun c_6 => ?_)
  · refine lv_bipush (v := (-3)) hx hb dX3_add_15 (by decide) ?_
    have hZ : X = sg X 0 (b_add (X 0) a k) := by
      try simp only [u3_sg, sg_sg, sg_g]
      try unfold b_add n_add
      try dsimp only
      all_goals repeat (first | rw [ci_t c_6] | rw [ci_f c_6])
      all_goals (first | rfl | (rw [sg_self]) | (simp only [u3_sg, sg_sg, sg_g]; done) | (simp only [u3_sg, sg_sg, sg_g]; rfl))
    have hV : (-3) = a_add (X 0) := by
      try simp only [u3_sg, sg_sg, sg_g]
      try unfold a_add
      try dsimp only
      all_goals repeat (first | rw [ci_t c_6] | rw [ci_f c_6])
      all_goals (first | rfl | (rw [sg_self]) | (simp only [u3_sg, sg_sg, sg_g]; done) | (simp only [u3_sg, sg_sg, sg_g]; rfl))
    exact retWE hx hb hr hlocks (by rw [← hZ]; exact hP) hS dX3_add_17 hV
  · refine lv_iload_n hx hb dX3_add_9 rfl (lv_at hl 0 rfl) ?_
    refine lv_bipush (v := 20) hx hb dX3_add_10 (by decide) ?_
    refine lv_icmp_lt (tgt := 18) hx hb dX3_add_12 (by decide) (fun c_12 => ?_) (fun c_12 => ?_)
    · refine lv_aload_n hx hb dX3_add_18 rfl (lv_at hl 1 rfl) ?_
      refine xget (C := RX3) (T := TX3) (N := 11) (ci := 3) (w := .ref (ad 2)) hx hb hts hi_X3 hown hK hP 1 g0_1 rfl 0 (by decide) lk_9 rfl dX3_add_19 ?_
      refine lv_iload_n hx hb dX3_add_22 rfl (lv_at hl 0 rfl) ?_
      refine lv_iload_n hx hb dX3_add_23 rfl (lv_at hl 2 rfl) ?_
      refine xast hx hb hK hP (wC_D hdj) hS 2 g0_2 (in_made c_6 c_12) s0_0 dX3_add_24 (fun H locs hP hS => ?_)
      obtain ⟨X_1, eX_1⟩ : ∃ Z : St, Z = u3 X 0 0 (X 0 14 1).toNatClampNeg a := ⟨_, rfl⟩
      rw [← eX_1] at hP
      refine lv_aload_n hx hb dX3_add_25 rfl (lv_at hl 1 rfl) ?_
      refine xget (C := RX3) (T := TX3) (N := 11) (ci := 3) (w := .ref (ad 3)) hx hb hts hi_X3 hown hK hP 1 g0_1 rfl 1 (by decide) lk_15 rfl dX3_add_26 ?_
      refine lv_iload_n hx hb dX3_add_29 rfl (lv_at hl 0 rfl) ?_
      refine lv_aload_n hx hb dX3_add_30 rfl (lv_at hl 1 rfl) ?_
      refine lv_iload_n hx hb dX3_add_31 rfl (lv_at hl 2 rfl) ?_
      refine callB (As := [.int a]) (rest := [.int (X 0 14 1), .ref (ad 3)]) ⟨hx, hb, hml, hown, hts⟩ (c_X3_has X_1 a) (cwV 1 hts gX3_add_X3_has rfl rfl rfl (by decide +kernel) ⟨Nat.le_of_ble_eq_true rfl, Nat.le_of_ble_eq_true rfl⟩) hK hN hP 1 g0_1 rfl rfl hl.1 rfl (Nat.le_of_ble_eq_true rfl) dX3_add_32 ⟨Nat.zero_le _, Nat.zero_le _⟩ (fun c_32 => ?_) (fun c_32 => ?_)
      · refine lv_if_eq (tgt := 49) hx hb dX3_add_35 (by decide) (fun h9 => absurd h9 (by decide)) (fun _ => ?_)
        refine lv_aload_n hx hb dX3_add_38 rfl (lv_at hl 1 rfl) ?_
        refine xget (C := RX3) (T := TX3) (N := 11) (ci := 3) (w := .ref (ad 3)) hx hb hts hi_X3 hown hK hP 1 g0_1 rfl 1 (by decide) lk_15 rfl dX3_add_39 ?_
        refine lv_iload_n hx hb dX3_add_42 rfl (lv_at hl 2 rfl) ?_
        refine xald (x := qv (X_1 0) 9 a) hx hb hK hP 3 g0_3 (in20h c_32) rfl dX3_add_43 ?_
        refine lv_iconst (v := 1) hx hb dX3_add_44 (by decide) ?_
        refine lv_iadd hx hb dX3_add_45 ?_
        refine lv_goto (tgt := 50) hx hb dX3_add_46 (by decide) ?_
        refine xast hx hb hK hP (wC_D hdj) hS 3 g0_3 (in_made c_6 c_12) s0_9 dX3_add_50 (fun H locs hP hS => ?_)
        obtain ⟨X_2, eX_2⟩ : ∃ Z : St, Z = u3 X_1 0 9 (X 0 14 1).toNatClampNeg ((qv (X_1 0) 9 a) + 1) := ⟨_, rfl⟩
        rw [← eX_2] at hP
        refine lv_aload_n hx hb dX3_add_51 rfl (lv_at hl 1 rfl) ?_
        refine xget (C := RX3) (T := TX3) (N := 11) (ci := 3) (w := .ref (ad 4)) hx hb hts hi_X3 hown hK hP 1 g0_1 rfl 2 (by decide) lk_18 rfl dX3_add_52 ?_
        refine lv_iload_n hx hb dX3_add_55 rfl (lv_at hl 0 rfl) ?_
        refine lv_iload_n hx hb dX3_add_56 rfl (lv_at hl 3 rfl) ?_
        refine xast hx hb hK hP (wC_D hdj) hS 4 g0_4 (in_made c_6 c_12) s0_1 dX3_add_57 (fun H locs hP hS => ?_)
        obtain ⟨X_3, eX_3⟩ : ∃ Z : St, Z = u3 X_2 0 1 (X 0 14 1).toNatClampNeg k := ⟨_, rfl⟩
        rw [← eX_3] at hP
        refine lv_aload_n hx hb dX3_add_58 rfl (lv_at hl 1 rfl) ?_
        refine xget (C := RX3) (T := TX3) (N := 11) (ci := 3) (w := .ref (ad 11)) hx hb hts hi_X3 hown hK hP 1 g0_1 rfl 9 (by decide) lk_39 rfl dX3_add_59 ?_
        refine lv_iload_n hx hb dX3_add_62 rfl (lv_at hl 0 rfl) ?_
        refine lv_bipush (v := 50) hx hb dX3_add_63 (by decide) ?_
        refine xast hx hb hK hP (wC_D hdj) hS 11 g0_11 (in_made c_6 c_12) s0_8 dX3_add_65 (fun H locs hP hS => ?_)
        obtain ⟨X_4, eX_4⟩ : ∃ Z : St, Z = u3 X_3 0 8 (X 0 14 1).toNatClampNeg 50 := ⟨_, rfl⟩
        rw [← eX_4] at hP
        refine lv_aload_n hx hb dX3_add_66 rfl (lv_at hl 1 rfl) ?_
        refine lv_dup hx hb dX3_add_67 rfl ?_
        refine xget (C := RX3) (T := TX3) (N := 11) (ci := 3) (w := .int (X_4 0 14 1)) hx hb hts hi_X3 hown hK hP 1 g0_1 rfl 10 (by decide) lk_48 rfl dX3_add_68 ?_
        refine lv_iconst (v := 1) hx hb dX3_add_71 (by decide) ?_
        refine lv_iadd hx hb dX3_add_72 ?_
        refine xput (C := RX3) (T := TX3) (N := 11) (ci := 3) hx hb hts hi_X3 tyX3 tyX3_ok nmX3 hown hK hP (wC_D hdj) hS 1 g0_1 rfl 10 (by decide) lk_48 rfl (by decide +kernel) (Nat.le_of_ble_eq_true rfl) s0_heads dX3_add_73 (fun H locs hP hS => ?_)
        obtain ⟨X_5, eX_5⟩ : ∃ Z : St, Z = u3 X_4 0 14 1 ((X_4 0 14 1) + 1) := ⟨_, rfl⟩
        rw [← eX_5] at hP
        refine lv_iload_n hx hb dX3_add_76 rfl (lv_at hl 0 rfl) ?_
        have hZ : X_5 = sg X 0 (b_add (X 0) a k) := by
          subst eX_5 eX_4 eX_3 eX_2 eX_1
          try simp only [u3_sg, sg_sg, sg_g] at c_32
          try simp only [u3_sg, sg_sg, sg_g]
          try unfold b_add n_add
          try dsimp only
          all_goals repeat (first | rw [ci_t c_6] | rw [ci_f c_6] | rw [ci_t c_12] | rw [ci_f c_12] | rw [ci_t c_32] | rw [ci_f c_32])
          all_goals (first | rfl | (rw [sg_self]) | (simp only [u3_sg, sg_sg, sg_g]; done) | (simp only [u3_sg, sg_sg, sg_g]; rfl))
        have hV : X 0 14 1 = a_add (X 0) := by
          subst eX_5 eX_4 eX_3 eX_2 eX_1
          try simp only [u3_sg, sg_sg, sg_g] at c_32
          try simp only [u3_sg, sg_sg, sg_g]
          try unfold a_add
          try dsimp only
          all_goals repeat (first | rw [ci_t c_6] | rw [ci_f c_6] | rw [ci_t c_12] | rw [ci_f c_12] | rw [ci_t c_32] | rw [ci_f c_32])
          all_goals (first | rfl | (rw [sg_self]) | (simp only [u3_sg, sg_sg, sg_g]; done) | (simp only [u3_sg, sg_sg, sg_g]; rfl))
        exact retWE hx hb hr hlocks (by rw [← hZ]; exact hP) hS dX3_add_77 hV
      · refine lv_if_eq (tgt := 49) hx hb dX3_add_35 (by decide) (fun _ => ?_) (fun h9 => absurd (by decide) h9)
        refine lv_iconst (v := 0) hx hb dX3_add_49 (by decide) ?_
        refine xast hx hb hK hP (wC_D hdj) hS 3 g0_3 (in_made c_6 c_12) s0_9 dX3_add_50 (fun H locs hP hS => ?_)
        obtain ⟨X_6, eX_6⟩ : ∃ Z : St, Z = u3 X_1 0 9 (X 0 14 1).toNatClampNeg 0 := ⟨_, rfl⟩
        rw [← eX_6] at hP
        refine lv_aload_n hx hb dX3_add_51 rfl (lv_at hl 1 rfl) ?_
        refine xget (C := RX3) (T := TX3) (N := 11) (ci := 3) (w := .ref (ad 4)) hx hb hts hi_X3 hown hK hP 1 g0_1 rfl 2 (by decide) lk_18 rfl dX3_add_52 ?_
        refine lv_iload_n hx hb dX3_add_55 rfl (lv_at hl 0 rfl) ?_
        refine lv_iload_n hx hb dX3_add_56 rfl (lv_at hl 3 rfl) ?_
        refine xast hx hb hK hP (wC_D hdj) hS 4 g0_4 (in_made c_6 c_12) s0_1 dX3_add_57 (fun H locs hP hS => ?_)
        obtain ⟨X_7, eX_7⟩ : ∃ Z : St, Z = u3 X_6 0 1 (X 0 14 1).toNatClampNeg k := ⟨_, rfl⟩
        rw [← eX_7] at hP
        refine lv_aload_n hx hb dX3_add_58 rfl (lv_at hl 1 rfl) ?_
        refine xget (C := RX3) (T := TX3) (N := 11) (ci := 3) (w := .ref (ad 11)) hx hb hts hi_X3 hown hK hP 1 g0_1 rfl 9 (by decide) lk_39 rfl dX3_add_59 ?_
        refine lv_iload_n hx hb dX3_add_62 rfl (lv_at hl 0 rfl) ?_
        refine lv_bipush (v := 50) hx hb dX3_add_63 (by decide) ?_
        refine xast hx hb hK hP (wC_D hdj) hS 11 g0_11 (in_made c_6 c_12) s0_8 dX3_add_65 (fun H locs hP hS => ?_)
        obtain ⟨X_8, eX_8⟩ : ∃ Z : St, Z = u3 X_7 0 8 (X 0 14 1).toNatClampNeg 50 := ⟨_, rfl⟩
        rw [← eX_8] at hP
        refine lv_aload_n hx hb dX3_add_66 rfl (lv_at hl 1 rfl) ?_
        refine lv_dup hx hb dX3_add_67 rfl ?_
        refine xget (C := RX3) (T := TX3) (N := 11) (ci := 3) (w := .int (X_8 0 14 1)) hx hb hts hi_X3 hown hK hP 1 g0_1 rfl 10 (by decide) lk_48 rfl dX3_add_68 ?_
        refine lv_iconst (v := 1) hx hb dX3_add_71 (by decide) ?_
        refine lv_iadd hx hb dX3_add_72 ?_
        refine xput (C := RX3) (T := TX3) (N := 11) (ci := 3) hx hb hts hi_X3 tyX3 tyX3_ok nmX3 hown hK hP (wC_D hdj) hS 1 g0_1 rfl 10 (by decide) lk_48 rfl (by decide +kernel) (Nat.le_of_ble_eq_true rfl) s0_heads dX3_add_73 (fun H locs hP hS => ?_)
        obtain ⟨X_9, eX_9⟩ : ∃ Z : St, Z = u3 X_8 0 14 1 ((X_8 0 14 1) + 1) := ⟨_, rfl⟩
        rw [← eX_9] at hP
        refine lv_iload_n hx hb dX3_add_76 rfl (lv_at hl 0 rfl) ?_
        have hZ : X_9 = sg X 0 (b_add (X 0) a k) := by
          subst eX_9 eX_8 eX_7 eX_6 eX_1
          try simp only [u3_sg, sg_sg, sg_g] at c_32
          try simp only [u3_sg, sg_sg, sg_g]
          try unfold b_add n_add
          try dsimp only
          all_goals repeat (first | rw [ci_t c_6] | rw [ci_f c_6] | rw [ci_t c_12] | rw [ci_f c_12] | rw [ci_t c_32] | rw [ci_f c_32])
          all_goals (first | rfl | (rw [sg_self]) | (simp only [u3_sg, sg_sg, sg_g]; done) | (simp only [u3_sg, sg_sg, sg_g]; rfl))
        have hV : X 0 14 1 = a_add (X 0) := by
          subst eX_9 eX_8 eX_7 eX_6 eX_1
          try simp only [u3_sg, sg_sg, sg_g] at c_32
          try simp only [u3_sg, sg_sg, sg_g]
          try unfold a_add
          try dsimp only
          all_goals repeat (first | rw [ci_t c_6] | rw [ci_f c_6] | rw [ci_t c_12] | rw [ci_f c_12] | rw [ci_t c_32] | rw [ci_f c_32])
          all_goals (first | rfl | (rw [sg_self]) | (simp only [u3_sg, sg_sg, sg_g]; done) | (simp only [u3_sg, sg_sg, sg_g]; rfl))
        exact retWE hx hb hr hlocks (by rw [← hZ]; exact hP) hS dX3_add_77 hV
    · refine lv_bipush (v := (-3)) hx hb dX3_add_15 (by decide) ?_
      have hZ : X = sg X 0 (b_add (X 0) a k) := by
        try simp only [u3_sg, sg_sg, sg_g]
        try unfold b_add n_add
        try dsimp only
        all_goals repeat (first | rw [ci_t c_6] | rw [ci_f c_6] | rw [ci_t c_12] | rw [ci_f c_12])
        all_goals (first | rfl | (rw [sg_self]) | (simp only [u3_sg, sg_sg, sg_g]; done) | (simp only [u3_sg, sg_sg, sg_g]; rfl))
      have hV : (-3) = a_add (X 0) := by
        try simp only [u3_sg, sg_sg, sg_g]
        try unfold a_add
        try dsimp only
        all_goals repeat (first | rw [ci_t c_6] | rw [ci_f c_6] | rw [ci_t c_12] | rw [ci_f c_12])
        all_goals (first | rfl | (rw [sg_self]) | (simp only [u3_sg, sg_sg, sg_g]; done) | (simp only [u3_sg, sg_sg, sg_g]; rfl))
      exact retWE hx hb hr hlocks (by rw [← hZ]; exact hP) hS dX3_add_17 hV
set_option maxHeartbeats 4000000 in
set_option maxRecDepth 100000 in
theorem c_X1_add {l : Launch} {D : va_G} {cI cR : ClassId} {ad : Nat → Nat} (hdj : Dj 236 ad) (X : St) (h : Int32) (a : Int32) (y : Int32) : WoE l D cI cR (Aw 236 ad) (wC cI cR ad X) (wC cI cR ad (sg X 0 (b_addC (X 0) h a y))) yX1_add wsX1_add ({ frames := 0, cells := 0, slots := 0, locals := 0 } : Room) [.ref (ad 12), .int h, .int a, .int y] (a_addC (X 0)) := by
  refine OfW (cc := cX1_add) (maxL := 5) (ret := (some .int)) (by decide +kernel) rfl (Nat.le_of_ble_eq_true rfl) (fun p e s m below meth c hx hb hr hts hown hlocks hml hnm hP hK hN ls hl => ?_)
  have hl : lv_has ls 5 [(0, .ref (ad 12)), (1, .int h), (2, .int a), (3, .int y)] := hl
  have lk_30 := hts (.fieldLink RX1 30 "HeadBudgets$Commitments" "made" "I") (by decide +kernel)
  have lk_9 := hts (.fieldLink RX1 9 "HeadBudgets$Commitments" "head" "[I") (by decide +kernel)
  have lk_15 := hts (.fieldLink RX1 15 "HeadBudgets$Commitments" "open" "[I") (by decide +kernel)
  have lk_21 := hts (.fieldLink RX1 21 "HeadBudgets$Commitments" "year" "[I") (by decide +kernel)
  have hi_X1 : ∀ w ∈ wsX10, w ∈ wsX1_add := by decide +kernel
  have hS : va_S (Aw 236 ad) s.heap s.heap [] := va_S.rf
  have hP : va_P D vwCl (wC cI cR ad X) s.heap := hP
  refine lv_aload_n hx hb dX1_add_0 rfl (lv_at hl 0 rfl) ?_
  refine xget (C := RX1) (T := TX1) (N := 5) (ci := 1) (w := .int (X 0 14 2)) hx hb hts hi_X1 hown hK hP 12 g0_12 rfl 4 (by decide) lk_30 rfl dX1_add_1 ?_
  refine lv_istore (lv' := [(4, .int (X 0 14 2)), (0, .ref (ad 12)), (1, .int h), (2, .int a), (3, .int y)]) hx hb dX1_add_4 hl (by decide) rfl (fun ls hl => ?_)
  refine lv_iload hx hb dX1_add_6 (lv_at hl 0 rfl) ?_
  refine lv_if_lt (tgt := 18) hx hb dX1_add_8 (by decide) (fun c_8 => ?_) (fun c_8 => ?_)
  · refine lv_bipush (v := (-3)) hx hb dX1_add_18 (by decide) ?_
    have hZ : X = sg X 0 (b_addC (X 0) h a y) := by
      try simp only [u3_sg, sg_sg, sg_g]
      try unfold b_addC n_addC
      try dsimp only
      all_goals repeat (first | rw [ci_t c_8] | rw [ci_f c_8])
      all_goals (first | rfl | (rw [sg_self]) | (simp only [u3_sg, sg_sg, sg_g]; done) | (simp only [u3_sg, sg_sg, sg_g]; rfl))
    have hV : (-3) = a_addC (X 0) := by
      try simp only [u3_sg, sg_sg, sg_g]
      try unfold a_addC
      try dsimp only
      all_goals repeat (first | rw [ci_t c_8] | rw [ci_f c_8])
      all_goals (first | rfl | (rw [sg_self]) | (simp only [u3_sg, sg_sg, sg_g]; done) | (simp only [u3_sg, sg_sg, sg_g]; rfl))
    exact retWE hx hb hr hlocks (by rw [← hZ]; exact hP) hS dX1_add_20 hV
  · refine lv_iload hx hb dX1_add_11 (lv_at hl 0 rfl) ?_
    refine lv_bipush (v := 40) hx hb dX1_add_13 (by decide) ?_
    refine lv_icmp_lt (tgt := 21) hx hb dX1_add_15 (by decide) (fun c_15 => ?_) (fun c_15 => ?_)
    · refine lv_aload_n hx hb dX1_add_21 rfl (lv_at hl 1 rfl) ?_
      refine xget (C := RX1) (T := TX1) (N := 5) (ci := 1) (w := .ref (ad 13)) hx hb hts hi_X1 hown hK hP 12 g0_12 rfl 0 (by decide) lk_9 rfl dX1_add_22 ?_
      refine lv_iload hx hb dX1_add_25 (lv_at hl 0 rfl) ?_
      refine lv_iload_n hx hb dX1_add_27 rfl (lv_at hl 2 rfl) ?_
      refine xast hx hb hK hP (wC_D hdj) hS 13 g0_13 (in_madeC c_8 c_15) s0_10 dX1_add_28 (fun H locs hP hS => ?_)
      obtain ⟨X_1, eX_1⟩ : ∃ Z : St, Z = u3 X 0 10 (X 0 14 2).toNatClampNeg h := ⟨_, rfl⟩
      rw [← eX_1] at hP
      refine lv_aload_n hx hb dX1_add_29 rfl (lv_at hl 1 rfl) ?_
      refine xget (C := RX1) (T := TX1) (N := 5) (ci := 1) (w := .ref (ad 14)) hx hb hts hi_X1 hown hK hP 12 g0_12 rfl 1 (by decide) lk_15 rfl dX1_add_30 ?_
      refine lv_iload hx hb dX1_add_33 (lv_at hl 0 rfl) ?_
      refine lv_iload_n hx hb dX1_add_35 rfl (lv_at hl 3 rfl) ?_
      refine xast hx hb hK hP (wC_D hdj) hS 14 g0_14 (in_madeC c_8 c_15) s0_11 dX1_add_36 (fun H locs hP hS => ?_)
      obtain ⟨X_2, eX_2⟩ : ∃ Z : St, Z = u3 X_1 0 11 (X 0 14 2).toNatClampNeg a := ⟨_, rfl⟩
      rw [← eX_2] at hP
      refine lv_aload_n hx hb dX1_add_37 rfl (lv_at hl 1 rfl) ?_
      refine xget (C := RX1) (T := TX1) (N := 5) (ci := 1) (w := .ref (ad 16)) hx hb hts hi_X1 hown hK hP 12 g0_12 rfl 3 (by decide) lk_21 rfl dX1_add_38 ?_
      refine lv_iload hx hb dX1_add_41 (lv_at hl 0 rfl) ?_
      refine lv_iload_n hx hb dX1_add_43 rfl (lv_at hl 4 rfl) ?_
      refine xast hx hb hK hP (wC_D hdj) hS 16 g0_16 (in_madeC c_8 c_15) s0_13 dX1_add_44 (fun H locs hP hS => ?_)
      obtain ⟨X_3, eX_3⟩ : ∃ Z : St, Z = u3 X_2 0 13 (X 0 14 2).toNatClampNeg y := ⟨_, rfl⟩
      rw [← eX_3] at hP
      refine lv_aload_n hx hb dX1_add_45 rfl (lv_at hl 1 rfl) ?_
      refine lv_dup hx hb dX1_add_46 rfl ?_
      refine xget (C := RX1) (T := TX1) (N := 5) (ci := 1) (w := .int (X_3 0 14 2)) hx hb hts hi_X1 hown hK hP 12 g0_12 rfl 4 (by decide) lk_30 rfl dX1_add_47 ?_
      refine lv_iconst (v := 1) hx hb dX1_add_50 (by decide) ?_
      refine lv_iadd hx hb dX1_add_51 ?_
      refine xput (C := RX1) (T := TX1) (N := 5) (ci := 1) hx hb hts hi_X1 tyX1 tyX1_ok nmX1 hown hK hP (wC_D hdj) hS 12 g0_12 rfl 4 (by decide) lk_30 rfl (by decide +kernel) (Nat.le_of_ble_eq_true rfl) s0_comms dX1_add_52 (fun H locs hP hS => ?_)
      obtain ⟨X_4, eX_4⟩ : ∃ Z : St, Z = u3 X_3 0 14 2 ((X_3 0 14 2) + 1) := ⟨_, rfl⟩
      rw [← eX_4] at hP
      refine lv_iload hx hb dX1_add_55 (lv_at hl 0 rfl) ?_
      have hZ : X_4 = sg X 0 (b_addC (X 0) h a y) := by
        subst eX_4 eX_3 eX_2 eX_1
        try simp only [u3_sg, sg_sg, sg_g]
        try unfold b_addC n_addC
        try dsimp only
        all_goals repeat (first | rw [ci_t c_8] | rw [ci_f c_8] | rw [ci_t c_15] | rw [ci_f c_15])
        all_goals (first | rfl | (rw [sg_self]) | (simp only [u3_sg, sg_sg, sg_g]; done) | (simp only [u3_sg, sg_sg, sg_g]; rfl))
      have hV : X 0 14 2 = a_addC (X 0) := by
        subst eX_4 eX_3 eX_2 eX_1
        try simp only [u3_sg, sg_sg, sg_g]
        try unfold a_addC
        try dsimp only
        all_goals repeat (first | rw [ci_t c_8] | rw [ci_f c_8] | rw [ci_t c_15] | rw [ci_f c_15])
        all_goals (first | rfl | (rw [sg_self]) | (simp only [u3_sg, sg_sg, sg_g]; done) | (simp only [u3_sg, sg_sg, sg_g]; rfl))
      exact retWE hx hb hr hlocks (by rw [← hZ]; exact hP) hS dX1_add_57 hV
    · refine lv_bipush (v := (-3)) hx hb dX1_add_18 (by decide) ?_
      have hZ : X = sg X 0 (b_addC (X 0) h a y) := by
        try simp only [u3_sg, sg_sg, sg_g]
        try unfold b_addC n_addC
        try dsimp only
        all_goals repeat (first | rw [ci_t c_8] | rw [ci_f c_8] | rw [ci_t c_15] | rw [ci_f c_15])
        all_goals (first | rfl | (rw [sg_self]) | (simp only [u3_sg, sg_sg, sg_g]; done) | (simp only [u3_sg, sg_sg, sg_g]; rfl))
      have hV : (-3) = a_addC (X 0) := by
        try simp only [u3_sg, sg_sg, sg_g]
        try unfold a_addC
        try dsimp only
        all_goals repeat (first | rw [ci_t c_8] | rw [ci_f c_8] | rw [ci_t c_15] | rw [ci_f c_15])
        all_goals (first | rfl | (rw [sg_self]) | (simp only [u3_sg, sg_sg, sg_g]; done) | (simp only [u3_sg, sg_sg, sg_g]; rfl))
      exact retWE hx hb hr hlocks (by rw [← hZ]; exact hP) hS dX1_add_20 hV
set_option maxHeartbeats 4000000 in
set_option maxRecDepth 100000 in
theorem c_X0_freeOpenOf {l : Launch} {D : va_G} {cI cR : ClassId} {ad : Nat → Nat} (hdj : Dj 236 ad) (X : St) (q : Int32) : WoE l D cI cR (Aw 236 ad) (wC cI cR ad X) (wC cI cR ad (sg X 0 (b_free0 (X 0) q))) yX0_freeOpenOf wsX0_freeOpenOf ({ frames := 2, cells := 0, slots := 0, locals := 43 } : Room) [.ref (ad 0), .int q] (a_free0 (X 0) q) := by
  refine OfW (cc := cX0_freeOpenOf) (maxL := 3) (ret := (some .int)) (by decide +kernel) rfl (Nat.le_of_ble_eq_true rfl) (fun p e s m below meth c hx hb hr hts hown hlocks hml hnm hP hK hN ls hl => ?_)
  have hl : lv_has ls 3 [(0, .ref (ad 0)), (1, .int q)] := hl
  have lk_21 := hts (.fieldLink RX0 21 "HeadBudgets$Books" "commitments" "LHeadBudgets$Commitments;") (by decide +kernel)
  have lk_49 := hts (.fieldLink RX0 49 "HeadBudgets$Commitments" "open" "[I") (by decide +kernel)
  have lk_12 := hts (.fieldLink RX0 12 "HeadBudgets$Books" "heads" "LHeadBudgets$Heads;") (by decide +kernel)
  have lk_53 := hts (.fieldLink RX0 53 "HeadBudgets$Commitments" "head" "[I") (by decide +kernel)
  have hi_X0 : ∀ w ∈ wsX00, w ∈ wsX0_freeOpenOf := by decide +kernel
  have hi_X1 : ∀ w ∈ wsX10, w ∈ wsX0_freeOpenOf := by decide +kernel
  have hS : va_S (Aw 236 ad) s.heap s.heap [] := va_S.rf
  have hP : va_P D vwCl (wC cI cR ad X) s.heap := hP
  refine lv_aload_n hx hb dX0_freeOpenOf_0 rfl (lv_at hl 0 rfl) ?_
  refine xget (C := RX0) (T := TX0) (N := 6) (ci := 0) (w := .ref (ad 12)) hx hb hts hi_X0 hown hK hP 0 g0_0 rfl 1 (by decide) lk_21 rfl dX0_freeOpenOf_1 ?_
  refine lv_iload_n hx hb dX0_freeOpenOf_4 rfl (lv_at hl 1 rfl) ?_
  refine callB (As := [.int q]) (rest := []) ⟨hx, hb, hml, hown, hts⟩ (c_X1_has X q) (cwV 1 hts gX0_freeOpenOf_X1_has rfl rfl rfl (by decide +kernel) ⟨Nat.le_of_ble_eq_true rfl, Nat.le_of_ble_eq_true rfl⟩) hK hN hP 12 g0_12 rfl rfl hl.1 rfl (Nat.le_of_ble_eq_true rfl) dX0_freeOpenOf_5 ⟨Nat.zero_le _, Nat.zero_le _⟩ (fun c_5 => ?_) (fun c_5 => ?_)
  · refine lv_if_ne (tgt := 13) hx hb dX0_freeOpenOf_8 (by decide) (fun _ => ?_) (fun h9 => absurd h9 (by decide))
    refine lv_aload_n hx hb dX0_freeOpenOf_13 rfl (lv_at hl 0 rfl) ?_
    refine xget (C := RX0) (T := TX0) (N := 6) (ci := 0) (w := .ref (ad 12)) hx hb hts hi_X0 hown hK hP 0 g0_0 rfl 1 (by decide) lk_21 rfl dX0_freeOpenOf_14 ?_
    refine xget (C := RX1) (T := TX1) (N := 5) (ci := 1) (w := .ref (ad 14)) hx hb hts hi_X1 hown hK hP 12 g0_12 rfl 1 (by decide) lk_49 rfl dX0_freeOpenOf_17 ?_
    refine lv_iload_n hx hb dX0_freeOpenOf_20 rfl (lv_at hl 1 rfl) ?_
    refine xald (x := qv (X 0) 11 q) hx hb hK hP 14 g0_14 (in40h c_5) rfl dX0_freeOpenOf_21 ?_
    refine lv_istore_n (lv' := [(2, .int (qv (X 0) 11 q)), (0, .ref (ad 0)), (1, .int q)]) hx hb dX0_freeOpenOf_22 rfl hl (by decide) rfl (fun ls hl => ?_)
    refine lv_aload_n hx hb dX0_freeOpenOf_23 rfl (lv_at hl 1 rfl) ?_
    refine xget (C := RX0) (T := TX0) (N := 6) (ci := 0) (w := .ref (ad 12)) hx hb hts hi_X0 hown hK hP 0 g0_0 rfl 1 (by decide) lk_21 rfl dX0_freeOpenOf_24 ?_
    refine xget (C := RX1) (T := TX1) (N := 5) (ci := 1) (w := .ref (ad 14)) hx hb hts hi_X1 hown hK hP 12 g0_12 rfl 1 (by decide) lk_49 rfl dX0_freeOpenOf_27 ?_
    refine lv_iload_n hx hb dX0_freeOpenOf_30 rfl (lv_at hl 2 rfl) ?_
    refine lv_iconst (v := 0) hx hb dX0_freeOpenOf_31 (by decide) ?_
    refine xast hx hb hK hP (wC_D hdj) hS 14 g0_14 (in40h c_5) s0_11 dX0_freeOpenOf_32 (fun H locs hP hS => ?_)
    obtain ⟨X_1, eX_1⟩ : ∃ Z : St, Z = u3 X 0 11 q.toNatClampNeg 0 := ⟨_, rfl⟩
    rw [← eX_1] at hP
    refine lv_aload_n hx hb dX0_freeOpenOf_33 rfl (lv_at hl 1 rfl) ?_
    refine xget (C := RX0) (T := TX0) (N := 6) (ci := 0) (w := .ref (ad 1)) hx hb hts hi_X0 hown hK hP 0 g0_0 rfl 0 (by decide) lk_12 rfl dX0_freeOpenOf_34 ?_
    refine lv_aload_n hx hb dX0_freeOpenOf_37 rfl (lv_at hl 1 rfl) ?_
    refine xget (C := RX0) (T := TX0) (N := 6) (ci := 0) (w := .ref (ad 12)) hx hb hts hi_X0 hown hK hP 0 g0_0 rfl 1 (by decide) lk_21 rfl dX0_freeOpenOf_38 ?_
    refine xget (C := RX1) (T := TX1) (N := 5) (ci := 1) (w := .ref (ad 13)) hx hb hts hi_X1 hown hK hP 12 g0_12 rfl 0 (by decide) lk_53 rfl dX0_freeOpenOf_41 ?_
    refine lv_iload_n hx hb dX0_freeOpenOf_44 rfl (lv_at hl 2 rfl) ?_
    refine xald (x := qv (X_1 0) 10 q) hx hb hK hP 13 g0_13 (in40h c_5) rfl dX0_freeOpenOf_45 ?_
    refine lv_iload_n hx hb dX0_freeOpenOf_46 rfl (lv_at hl 0 rfl) ?_
    refine lv_ineg hx hb dX0_freeOpenOf_47 ?_
    refine callWV (As := [.int (qv (X_1 0) 10 q), .int (-(qv (X 0) 11 q))]) (rest := []) ⟨hx, hb, hml, hown, hts⟩ (c_X3_changeCommitted hdj X_1 (qv (X_1 0) 10 q) (-(qv (X 0) 11 q))) (cwV 2 hts gX0_freeOpenOf_X3_changeCommitted rfl rfl rfl (by decide +kernel) ⟨Nat.le_of_ble_eq_true rfl, Nat.le_of_ble_eq_true rfl⟩) hK hN hP 1 g0_1 rfl rfl hl.1 rfl (Nat.le_of_ble_eq_true rfl) dX0_freeOpenOf_48 ⟨Nat.zero_le _, Nat.zero_le _⟩ hS (fun _ h9 => h9) (fun H locs hP hS => ?_)
    obtain ⟨X_2, eX_2⟩ : ∃ Z : St, Z = sg X_1 0 (b_cc (X_1 0) (qv (X_1 0) 10 q) (-(qv (X 0) 11 q))) := ⟨_, rfl⟩
    rw [← eX_2] at hP
    refine lv_iload_n hx hb dX0_freeOpenOf_51 rfl (lv_at hl 0 rfl) ?_
    have hZ : X_2 = sg X 0 (b_free0 (X 0) q) := by
      subst eX_2 eX_1
      try simp only [u3_sg, sg_sg, sg_g]
      try unfold b_free0
      try dsimp only
      all_goals repeat (first | rw [ci_t c_5] | rw [ci_f c_5])
      all_goals (first | rfl | (rw [sg_self]) | (simp only [u3_sg, sg_sg, sg_g]; done) | (simp only [u3_sg, sg_sg, sg_g]; rfl))
    have hV : qv (X 0) 11 q = a_free0 (X 0) q := by
      subst eX_2 eX_1
      try simp only [u3_sg, sg_sg, sg_g]
      try unfold a_free0
      try dsimp only
      all_goals repeat (first | rw [ci_t c_5] | rw [ci_f c_5])
      all_goals (first | rfl | (rw [sg_self]) | (simp only [u3_sg, sg_sg, sg_g]; done) | (simp only [u3_sg, sg_sg, sg_g]; rfl))
    exact retWE hx hb hr hlocks (by rw [← hZ]; exact hP) hS dX0_freeOpenOf_52 hV
  · refine lv_if_ne (tgt := 13) hx hb dX0_freeOpenOf_8 (by decide) (fun h9 => absurd (by decide) h9) (fun _ => ?_)
    refine lv_iconst (v := 0) hx hb dX0_freeOpenOf_11 (by decide) ?_
    have hZ : X = sg X 0 (b_free0 (X 0) q) := by
      try simp only [u3_sg, sg_sg, sg_g]
      try unfold b_free0
      try dsimp only
      all_goals repeat (first | rw [ci_t c_5] | rw [ci_f c_5])
      all_goals (first | rfl | (rw [sg_self]) | (simp only [u3_sg, sg_sg, sg_g]; done) | (simp only [u3_sg, sg_sg, sg_g]; rfl))
    have hV : 0 = a_free0 (X 0) q := by
      try simp only [u3_sg, sg_sg, sg_g]
      try unfold a_free0
      try dsimp only
      all_goals repeat (first | rw [ci_t c_5] | rw [ci_f c_5])
      all_goals (first | rfl | (rw [sg_self]) | (simp only [u3_sg, sg_sg, sg_g]; done) | (simp only [u3_sg, sg_sg, sg_g]; rfl))
    exact retWE hx hb hr hlocks (by rw [← hZ]; exact hP) hS dX0_freeOpenOf_12 hV
set_option maxHeartbeats 4000000 in
set_option maxRecDepth 100000 in
theorem c_X3_carryForward {l : Launch} {D : va_G} {cI cR : ClassId} {ad : Nat → Nat} (hdj : Dj 236 ad) (X : St) (q : Int32) : WoV l D cI cR (Aw 236 ad) (wC cI cR ad X) (wC cI cR ad (sg X 0 (b_cf (X 0) q 20))) yX3_carryForward wsX3_carryForward ({ frames := 2, cells := 0, slots := 0, locals := 42 } : Room) [.ref (ad 1), .int q] := by
  refine OfW (cc := cX3_carryForward) (maxL := 4) (ret := none) (by decide +kernel) rfl (Nat.le_of_ble_eq_true rfl) (fun p e s m below meth c hx hb hr hts hown hlocks hml hnm hP hK hN ls hl => ?_)
  have hl : lv_has ls 4 [(0, .ref (ad 1)), (1, .int q)] := hl
  have lk_24 := hts (.fieldLink RX3 24 "HeadBudgets$Heads" "allotment" "[I") (by decide +kernel)
  have lk_27 := hts (.fieldLink RX3 27 "HeadBudgets$Heads" "committed" "[I") (by decide +kernel)
  have lk_33 := hts (.fieldLink RX3 33 "HeadBudgets$Heads" "allotted" "[I") (by decide +kernel)
  have lk_30 := hts (.fieldLink RX3 30 "HeadBudgets$Heads" "spent" "[I") (by decide +kernel)
  have lk_36 := hts (.fieldLink RX3 36 "HeadBudgets$Heads" "left" "[I") (by decide +kernel)
  have hi_X3 : ∀ w ∈ wsX30, w ∈ wsX3_carryForward := by decide +kernel
  have hS : va_S (Aw 236 ad) s.heap s.heap [] := va_S.rf
  have hP : va_P D vwCl (wC cI cR ad X) s.heap := hP
  refine lv_iconst (v := 0) hx hb dX3_carryForward_0 (by decide) ?_
  refine lv_istore_n (lv' := [(2, .int 0), (0, .ref (ad 1)), (1, .int q)]) hx hb dX3_carryForward_1 rfl hl (by decide) rfl (fun ls hl => ?_)
  have hloop_2 : ∀ (n_2 : Nat) (k : Nat) (xk : Int32) (XL_2 : St) (H : Heap) (locs : List Loc), va_P D vwCl (wC cI cR ad XL_2) H → va_S (Aw 236 ad) s.heap H locs → k ≤ 20 → 20 < k + n_2 → xk = nI k → XL_2 = sg X 0 (b_cf (X 0) q k) → ∀ ls : Array Slot, lv_has ls 4 [(0, .ref (ad 1)), (1, .int q), (2, .int xk)] → W p l e ({ frames := 2, cells := 0, slots := 0, locals := 42 } : Room) s m ([.ref (ad 1), .int q]).toArray below meth c H locs 0 0 (MQ below (va_Qv (S := Unit) (fun _ => True) (fun _ t => va_P D vwCl (wC cI cR ad (sg X 0 (b_cf (X 0) q 20))) t.heap) (Aw 236 ad)) ([.ref (ad 1), .int q]).toArray s 0 0 (Aw 236 ad)) (F0 m 2 ls []) := by
    intro n_2
    induction n_2 with
    | zero =>
      intro k xk XL_2 H locs hP hS hk hn ek ea ls hl
      exfalso; omega
    | succ n_2 ih_2 =>
      intro k xk XL_2 H locs hP hS hk hn ek ea ls hl
      refine lv_iload_n hx hb dX3_carryForward_2 rfl (lv_at hl 2 rfl) ?_
      refine lv_bipush (v := 20) hx hb dX3_carryForward_3 (by decide) ?_
      refine lv_icmp_ge (tgt := 59) hx hb dX3_carryForward_5 (by decide) (fun c_5 => ?_) (fun c_5 => ?_)
      · have hk2 : k = 20 := nI_ge20 hk (by rw [← ek]; exact c_5)
        subst hk2
        rw [ea] at hP
        exact retWV hx hb hr hlocks hP hS dX3_carryForward_59
      · have hlt : k < 20 := nI_lt20 (by omega) (by rw [← ek]; exact c_5)
        have q1 := in20 (nI_hin hlt)
        rw [← ek] at q1
        refine lv_aload_n hx hb dX3_carryForward_8 rfl (lv_at hl 0 rfl) ?_
        refine lv_iload_n hx hb dX3_carryForward_9 rfl (lv_at hl 2 rfl) ?_
        refine callE (As := [.int xk]) (rest := []) ⟨hx, hb, hml, hown, hts⟩ (c_X3_freeOf XL_2 xk) (cwV 1 hts gX3_carryForward_X3_freeOf rfl rfl rfl (by decide +kernel) ⟨Nat.le_of_ble_eq_true rfl, Nat.le_of_ble_eq_true rfl⟩) hK hN hP 1 g0_1 rfl rfl hl.1 rfl (Nat.le_of_ble_eq_true rfl) dX3_carryForward_10 ⟨Nat.zero_le _, Nat.zero_le _⟩ ?_
        refine lv_iload_n hx hb dX3_carryForward_13 rfl (lv_at hl 1 rfl) ?_
        refine callNE (As := [.int (p_free (XL_2 0) xk), .int q]) (rest := []) ⟨hx, hb, hml, hown, hts⟩ (c_X5_partOf (p_free (XL_2 0) xk) q) ⟨va_cnB 2 hts gX3_carryForward_X5_partOf_n77 rfl rfl rfl hN.2.2.2.2.2 (hts (.initialized RX5) (by decide +kernel)) (by decide +kernel) ⟨Nat.le_of_ble_eq_true rfl, Nat.le_of_ble_eq_true rfl⟩, hts (.static yX5_partOf) (by decide +kernel), trivial⟩ hK hN rfl hl.1 rfl (Nat.le_of_ble_eq_true rfl) dX3_carryForward_14 ⟨Nat.zero_le _, Nat.zero_le _⟩ ?_
        refine lv_istore_n (lv' := [(3, .int (p_part (p_free (XL_2 0) xk) q)), (0, .ref (ad 1)), (1, .int q), (2, .int xk)]) hx hb dX3_carryForward_17 rfl hl (by decide) rfl (fun ls hl => ?_)
        refine lv_aload_n hx hb dX3_carryForward_18 rfl (lv_at hl 1 rfl) ?_
        refine xget (C := RX3) (T := TX3) (N := 11) (ci := 3) (w := .ref (ad 6)) hx hb hts hi_X3 hown hK hP 1 g0_1 rfl 4 (by decide) lk_24 rfl dX3_carryForward_19 ?_
        refine lv_iload_n hx hb dX3_carryForward_22 rfl (lv_at hl 3 rfl) ?_
        refine lv_aload_n hx hb dX3_carryForward_23 rfl (lv_at hl 1 rfl) ?_
        refine xget (C := RX3) (T := TX3) (N := 11) (ci := 3) (w := .ref (ad 7)) hx hb hts hi_X3 hown hK hP 1 g0_1 rfl 5 (by decide) lk_27 rfl dX3_carryForward_24 ?_
        refine lv_iload_n hx hb dX3_carryForward_27 rfl (lv_at hl 3 rfl) ?_
        refine xald (x := qv (XL_2 0) 4 xk) hx hb hK hP 7 g0_7 q1 rfl dX3_carryForward_28 ?_
        refine lv_iload_n hx hb dX3_carryForward_29 rfl (lv_at hl 0 rfl) ?_
        refine lv_iadd hx hb dX3_carryForward_30 ?_
        refine xast hx hb hK hP (wC_D hdj) hS 6 g0_6 q1 s0_3 dX3_carryForward_31 (fun H locs hP hS => ?_)
        obtain ⟨X_1, eX_1⟩ : ∃ Z : St, Z = u3 XL_2 0 3 xk.toNatClampNeg ((qv (XL_2 0) 4 xk) + (p_part (p_free (XL_2 0) xk) q)) := ⟨_, rfl⟩
        rw [← eX_1] at hP
        refine lv_aload_n hx hb dX3_carryForward_32 rfl (lv_at hl 1 rfl) ?_
        refine xget (C := RX3) (T := TX3) (N := 11) (ci := 3) (w := .ref (ad 9)) hx hb hts hi_X3 hown hK hP 1 g0_1 rfl 7 (by decide) lk_33 rfl dX3_carryForward_33 ?_
        refine lv_iload_n hx hb dX3_carryForward_36 rfl (lv_at hl 3 rfl) ?_
        refine lv_iload_n hx hb dX3_carryForward_37 rfl (lv_at hl 0 rfl) ?_
        refine xast hx hb hK hP (wC_D hdj) hS 9 g0_9 q1 s0_6 dX3_carryForward_38 (fun H locs hP hS => ?_)
        obtain ⟨X_2, eX_2⟩ : ∃ Z : St, Z = u3 X_1 0 6 xk.toNatClampNeg (p_part (p_free (XL_2 0) xk) q) := ⟨_, rfl⟩
        rw [← eX_2] at hP
        refine lv_aload_n hx hb dX3_carryForward_39 rfl (lv_at hl 1 rfl) ?_
        refine xget (C := RX3) (T := TX3) (N := 11) (ci := 3) (w := .ref (ad 8)) hx hb hts hi_X3 hown hK hP 1 g0_1 rfl 6 (by decide) lk_30 rfl dX3_carryForward_40 ?_
        refine lv_iload_n hx hb dX3_carryForward_43 rfl (lv_at hl 3 rfl) ?_
        refine lv_iconst (v := 0) hx hb dX3_carryForward_44 (by decide) ?_
        refine xast hx hb hK hP (wC_D hdj) hS 8 g0_8 q1 s0_5 dX3_carryForward_45 (fun H locs hP hS => ?_)
        obtain ⟨X_3, eX_3⟩ : ∃ Z : St, Z = u3 X_2 0 5 xk.toNatClampNeg 0 := ⟨_, rfl⟩
        rw [← eX_3] at hP
        refine lv_aload_n hx hb dX3_carryForward_46 rfl (lv_at hl 1 rfl) ?_
        refine xget (C := RX3) (T := TX3) (N := 11) (ci := 3) (w := .ref (ad 10)) hx hb hts hi_X3 hown hK hP 1 g0_1 rfl 8 (by decide) lk_36 rfl dX3_carryForward_47 ?_
        refine lv_iload_n hx hb dX3_carryForward_50 rfl (lv_at hl 3 rfl) ?_
        refine lv_iconst (v := 0) hx hb dX3_carryForward_51 (by decide) ?_
        refine xast hx hb hK hP (wC_D hdj) hS 10 g0_10 q1 s0_7 dX3_carryForward_52 (fun H locs hP hS => ?_)
        obtain ⟨X_4, eX_4⟩ : ∃ Z : St, Z = u3 X_3 0 7 xk.toNatClampNeg 0 := ⟨_, rfl⟩
        rw [← eX_4] at hP
        refine lv_iinc (v := xk + 1) (lv' := [(2, .int (xk + 1)), (3, .int (p_part (p_free (XL_2 0) xk) q)), (0, .ref (ad 1)), (1, .int q)]) hx hb dX3_carryForward_53 hl (k := 3) rfl rfl (by decide) rfl (fun ls hl => ?_)
        refine lv_goto (tgt := 2) hx hb dX3_carryForward_56 (by decide) ?_
        have hz : X_4 = sg X 0 (b_cf (X 0) q (k + 1)) := by
          subst eX_4 eX_3 eX_2 eX_1
          subst ea
          simp only [u3_sg, sg_sg, sg_g]
          rw [ek]
          rfl
        exact ih_2  (k + 1) _ X_4 _ _ hP hS (by omega) (by omega) (by rw [ek]; exact nI_1 k) hz _ (lv_sub hl [2, 3, 0] rfl)
  exact hloop_2  21 0 0 X _ _ hP hS (by omega) (by omega) rfl (by exact (sg_self X 0).symm) _ (lv_sub hl [1, 2, 0] rfl)
set_option maxHeartbeats 4000000 in
set_option maxRecDepth 100000 in
theorem c_X3_copyFrom {l : Launch} {D : va_G} {cI cR : ClassId} {ad : Nat → Nat} (hdj : Dj 236 ad) (X : St) (g g2 : Nat) (hg : g < 13) (hg2 : g2 < 13) (hne : ¬ g2 = g) : WoV l D cI cR (Aw 236 ad) (wC cI cR ad X) (wC cI cR ad (cpH X g g2)) yX3_copyFrom wsX3_copyFrom ({ frames := 1, cells := 0, slots := 0, locals := 60 } : Room) [.ref (ad (17 * g + 1)), .ref (ad (17 * g2 + 1))] := by
  refine OfW (cc := cX3_copyFrom) (maxL := 2) (ret := none) (by decide +kernel) rfl (Nat.le_of_ble_eq_true rfl) (fun p e s m below meth c hx hb hr hts hown hlocks hml hnm hP hK hN ls hl => ?_)
  have hl : lv_has ls 2 [(0, .ref (ad (17 * g + 1))), (1, .ref (ad (17 * g2 + 1)))] := hl
  have lk_9 := hts (.fieldLink RX3 9 "HeadBudgets$Heads" "above" "[I") (by decide +kernel)
  have lk_15 := hts (.fieldLink RX3 15 "HeadBudgets$Heads" "depth" "[I") (by decide +kernel)
  have lk_18 := hts (.fieldLink RX3 18 "HeadBudgets$Heads" "rank" "[I") (by decide +kernel)
  have lk_21 := hts (.fieldLink RX3 21 "HeadBudgets$Heads" "frozen" "[I") (by decide +kernel)
  have lk_24 := hts (.fieldLink RX3 24 "HeadBudgets$Heads" "allotment" "[I") (by decide +kernel)
  have lk_27 := hts (.fieldLink RX3 27 "HeadBudgets$Heads" "committed" "[I") (by decide +kernel)
  have lk_30 := hts (.fieldLink RX3 30 "HeadBudgets$Heads" "spent" "[I") (by decide +kernel)
  have lk_33 := hts (.fieldLink RX3 33 "HeadBudgets$Heads" "allotted" "[I") (by decide +kernel)
  have lk_36 := hts (.fieldLink RX3 36 "HeadBudgets$Heads" "left" "[I") (by decide +kernel)
  have lk_39 := hts (.fieldLink RX3 39 "HeadBudgets$Heads" "share" "[I") (by decide +kernel)
  have lk_48 := hts (.fieldLink RX3 48 "HeadBudgets$Heads" "made" "I") (by decide +kernel)
  have hi_X3 : ∀ w ∈ wsX30, w ∈ wsX3_copyFrom := by decide +kernel
  have hS : va_S (Aw 236 ad) s.heap s.heap [] := va_S.rf
  have hP : va_P D vwCl (wC cI cR ad X) s.heap := hP
  refine lv_aload_n hx hb dX3_copyFrom_0 rfl (lv_at hl 1 rfl) ?_
  refine xget (C := RX3) (T := TX3) (N := 11) (ci := 3) (w := .ref (ad (17 * g2 + 2))) hx hb hts hi_X3 hown hK hP (17 * g2 + 1) (gg_1 hg2) rfl 0 (by decide) lk_9 rfl dX3_copyFrom_1 ?_
  refine lv_iconst (v := 0) hx hb dX3_copyFrom_4 (by decide) ?_
  refine lv_aload_n hx hb dX3_copyFrom_5 rfl (lv_at hl 0 rfl) ?_
  refine xget (C := RX3) (T := TX3) (N := 11) (ci := 3) (w := .ref (ad (17 * g + 2))) hx hb hts hi_X3 hown hK hP (17 * g + 1) (gg_1 hg) rfl 0 (by decide) lk_9 rfl dX3_copyFrom_6 ?_
  refine lv_iconst (v := 0) hx hb dX3_copyFrom_9 (by decide) ?_
  refine lv_bipush (v := 20) hx hb dX3_copyFrom_10 (by decide) ?_
  refine va_copyi hx hb (by rw [hml]; exact hl.1.symm) hown (hts (.methodLink RX3 42 arraycopyName) (by decide +kernel)) (hts (.native arraycopyName) (by decide +kernel)) (hts (.static arraycopyName) (by decide +kernel)) (hts (.initialized "java/lang/System") (by decide +kernel)) hK hP (wC_D hdj) hS (17 * g2 + 2) (17 * g + 2) 0 0 (gg_2 hg2) (gg_2 hg) rfl rfl rfl (by decide) (by decide) (by decide) (by decide) (by decide) (fun _ _ => rfl) (Nat.le_of_ble_eq_true rfl) (Nat.le_of_ble_eq_true rfl) dX3_copyFrom_12 (fun H locs hP _ hS => ?_)
  obtain ⟨X_1, eX_1⟩ : ∃ Z : St, Z = uc X g 0 (va_cpy (X g2 0) (X g 0) 0 0 20) := ⟨_, rfl⟩
  have hP : va_P D vwCl (wC cI cR ad X_1) H := by
    rw [eX_1, ← sc_0 hg]; exact hP
  refine lv_aload_n hx hb dX3_copyFrom_15 rfl (lv_at hl 1 rfl) ?_
  refine xget (C := RX3) (T := TX3) (N := 11) (ci := 3) (w := .ref (ad (17 * g2 + 3))) hx hb hts hi_X3 hown hK hP (17 * g2 + 1) (gg_1 hg2) rfl 1 (by decide) lk_15 rfl dX3_copyFrom_16 ?_
  refine lv_iconst (v := 0) hx hb dX3_copyFrom_19 (by decide) ?_
  refine lv_aload_n hx hb dX3_copyFrom_20 rfl (lv_at hl 0 rfl) ?_
  refine xget (C := RX3) (T := TX3) (N := 11) (ci := 3) (w := .ref (ad (17 * g + 3))) hx hb hts hi_X3 hown hK hP (17 * g + 1) (gg_1 hg) rfl 1 (by decide) lk_15 rfl dX3_copyFrom_21 ?_
  refine lv_iconst (v := 0) hx hb dX3_copyFrom_24 (by decide) ?_
  refine lv_bipush (v := 20) hx hb dX3_copyFrom_25 (by decide) ?_
  refine va_copyi hx hb (by rw [hml]; exact hl.1.symm) hown (hts (.methodLink RX3 42 arraycopyName) (by decide +kernel)) (hts (.native arraycopyName) (by decide +kernel)) (hts (.static arraycopyName) (by decide +kernel)) (hts (.initialized "java/lang/System") (by decide +kernel)) hK hP (wC_D hdj) hS (17 * g2 + 3) (17 * g + 3) 0 0 (gg_3 hg2) (gg_3 hg) rfl rfl rfl (by decide) (by decide) (by decide) (by decide) (by decide) (fun _ _ => rfl) (Nat.le_of_ble_eq_true rfl) (Nat.le_of_ble_eq_true rfl) dX3_copyFrom_27 (fun H locs hP _ hS => ?_)
  obtain ⟨X_2, eX_2⟩ : ∃ Z : St, Z = uc X_1 g 9 (va_cpy (X_1 g2 9) (X_1 g 9) 0 0 20) := ⟨_, rfl⟩
  have hP : va_P D vwCl (wC cI cR ad X_2) H := by
    rw [eX_2, ← sc_9 hg]; exact hP
  refine lv_aload_n hx hb dX3_copyFrom_30 rfl (lv_at hl 1 rfl) ?_
  refine xget (C := RX3) (T := TX3) (N := 11) (ci := 3) (w := .ref (ad (17 * g2 + 4))) hx hb hts hi_X3 hown hK hP (17 * g2 + 1) (gg_1 hg2) rfl 2 (by decide) lk_18 rfl dX3_copyFrom_31 ?_
  refine lv_iconst (v := 0) hx hb dX3_copyFrom_34 (by decide) ?_
  refine lv_aload_n hx hb dX3_copyFrom_35 rfl (lv_at hl 0 rfl) ?_
  refine xget (C := RX3) (T := TX3) (N := 11) (ci := 3) (w := .ref (ad (17 * g + 4))) hx hb hts hi_X3 hown hK hP (17 * g + 1) (gg_1 hg) rfl 2 (by decide) lk_18 rfl dX3_copyFrom_36 ?_
  refine lv_iconst (v := 0) hx hb dX3_copyFrom_39 (by decide) ?_
  refine lv_bipush (v := 20) hx hb dX3_copyFrom_40 (by decide) ?_
  refine va_copyi hx hb (by rw [hml]; exact hl.1.symm) hown (hts (.methodLink RX3 42 arraycopyName) (by decide +kernel)) (hts (.native arraycopyName) (by decide +kernel)) (hts (.static arraycopyName) (by decide +kernel)) (hts (.initialized "java/lang/System") (by decide +kernel)) hK hP (wC_D hdj) hS (17 * g2 + 4) (17 * g + 4) 0 0 (gg_4 hg2) (gg_4 hg) rfl rfl rfl (by decide) (by decide) (by decide) (by decide) (by decide) (fun _ _ => rfl) (Nat.le_of_ble_eq_true rfl) (Nat.le_of_ble_eq_true rfl) dX3_copyFrom_42 (fun H locs hP _ hS => ?_)
  obtain ⟨X_3, eX_3⟩ : ∃ Z : St, Z = uc X_2 g 1 (va_cpy (X_2 g2 1) (X_2 g 1) 0 0 20) := ⟨_, rfl⟩
  have hP : va_P D vwCl (wC cI cR ad X_3) H := by
    rw [eX_3, ← sc_1 hg]; exact hP
  refine lv_aload_n hx hb dX3_copyFrom_45 rfl (lv_at hl 1 rfl) ?_
  refine xget (C := RX3) (T := TX3) (N := 11) (ci := 3) (w := .ref (ad (17 * g2 + 5))) hx hb hts hi_X3 hown hK hP (17 * g2 + 1) (gg_1 hg2) rfl 3 (by decide) lk_21 rfl dX3_copyFrom_46 ?_
  refine lv_iconst (v := 0) hx hb dX3_copyFrom_49 (by decide) ?_
  refine lv_aload_n hx hb dX3_copyFrom_50 rfl (lv_at hl 0 rfl) ?_
  refine xget (C := RX3) (T := TX3) (N := 11) (ci := 3) (w := .ref (ad (17 * g + 5))) hx hb hts hi_X3 hown hK hP (17 * g + 1) (gg_1 hg) rfl 3 (by decide) lk_21 rfl dX3_copyFrom_51 ?_
  refine lv_iconst (v := 0) hx hb dX3_copyFrom_54 (by decide) ?_
  refine lv_bipush (v := 20) hx hb dX3_copyFrom_55 (by decide) ?_
  refine va_copyi hx hb (by rw [hml]; exact hl.1.symm) hown (hts (.methodLink RX3 42 arraycopyName) (by decide +kernel)) (hts (.native arraycopyName) (by decide +kernel)) (hts (.static arraycopyName) (by decide +kernel)) (hts (.initialized "java/lang/System") (by decide +kernel)) hK hP (wC_D hdj) hS (17 * g2 + 5) (17 * g + 5) 0 0 (gg_5 hg2) (gg_5 hg) rfl rfl rfl (by decide) (by decide) (by decide) (by decide) (by decide) (fun _ _ => rfl) (Nat.le_of_ble_eq_true rfl) (Nat.le_of_ble_eq_true rfl) dX3_copyFrom_57 (fun H locs hP _ hS => ?_)
  obtain ⟨X_4, eX_4⟩ : ∃ Z : St, Z = uc X_3 g 2 (va_cpy (X_3 g2 2) (X_3 g 2) 0 0 20) := ⟨_, rfl⟩
  have hP : va_P D vwCl (wC cI cR ad X_4) H := by
    rw [eX_4, ← sc_2 hg]; exact hP
  refine lv_aload_n hx hb dX3_copyFrom_60 rfl (lv_at hl 1 rfl) ?_
  refine xget (C := RX3) (T := TX3) (N := 11) (ci := 3) (w := .ref (ad (17 * g2 + 6))) hx hb hts hi_X3 hown hK hP (17 * g2 + 1) (gg_1 hg2) rfl 4 (by decide) lk_24 rfl dX3_copyFrom_61 ?_
  refine lv_iconst (v := 0) hx hb dX3_copyFrom_64 (by decide) ?_
  refine lv_aload_n hx hb dX3_copyFrom_65 rfl (lv_at hl 0 rfl) ?_
  refine xget (C := RX3) (T := TX3) (N := 11) (ci := 3) (w := .ref (ad (17 * g + 6))) hx hb hts hi_X3 hown hK hP (17 * g + 1) (gg_1 hg) rfl 4 (by decide) lk_24 rfl dX3_copyFrom_66 ?_
  refine lv_iconst (v := 0) hx hb dX3_copyFrom_69 (by decide) ?_
  refine lv_bipush (v := 20) hx hb dX3_copyFrom_70 (by decide) ?_
  refine va_copyi hx hb (by rw [hml]; exact hl.1.symm) hown (hts (.methodLink RX3 42 arraycopyName) (by decide +kernel)) (hts (.native arraycopyName) (by decide +kernel)) (hts (.static arraycopyName) (by decide +kernel)) (hts (.initialized "java/lang/System") (by decide +kernel)) hK hP (wC_D hdj) hS (17 * g2 + 6) (17 * g + 6) 0 0 (gg_6 hg2) (gg_6 hg) rfl rfl rfl (by decide) (by decide) (by decide) (by decide) (by decide) (fun _ _ => rfl) (Nat.le_of_ble_eq_true rfl) (Nat.le_of_ble_eq_true rfl) dX3_copyFrom_72 (fun H locs hP _ hS => ?_)
  obtain ⟨X_5, eX_5⟩ : ∃ Z : St, Z = uc X_4 g 3 (va_cpy (X_4 g2 3) (X_4 g 3) 0 0 20) := ⟨_, rfl⟩
  have hP : va_P D vwCl (wC cI cR ad X_5) H := by
    rw [eX_5, ← sc_3 hg]; exact hP
  refine lv_aload_n hx hb dX3_copyFrom_75 rfl (lv_at hl 1 rfl) ?_
  refine xget (C := RX3) (T := TX3) (N := 11) (ci := 3) (w := .ref (ad (17 * g2 + 7))) hx hb hts hi_X3 hown hK hP (17 * g2 + 1) (gg_1 hg2) rfl 5 (by decide) lk_27 rfl dX3_copyFrom_76 ?_
  refine lv_iconst (v := 0) hx hb dX3_copyFrom_79 (by decide) ?_
  refine lv_aload_n hx hb dX3_copyFrom_80 rfl (lv_at hl 0 rfl) ?_
  refine xget (C := RX3) (T := TX3) (N := 11) (ci := 3) (w := .ref (ad (17 * g + 7))) hx hb hts hi_X3 hown hK hP (17 * g + 1) (gg_1 hg) rfl 5 (by decide) lk_27 rfl dX3_copyFrom_81 ?_
  refine lv_iconst (v := 0) hx hb dX3_copyFrom_84 (by decide) ?_
  refine lv_bipush (v := 20) hx hb dX3_copyFrom_85 (by decide) ?_
  refine va_copyi hx hb (by rw [hml]; exact hl.1.symm) hown (hts (.methodLink RX3 42 arraycopyName) (by decide +kernel)) (hts (.native arraycopyName) (by decide +kernel)) (hts (.static arraycopyName) (by decide +kernel)) (hts (.initialized "java/lang/System") (by decide +kernel)) hK hP (wC_D hdj) hS (17 * g2 + 7) (17 * g + 7) 0 0 (gg_7 hg2) (gg_7 hg) rfl rfl rfl (by decide) (by decide) (by decide) (by decide) (by decide) (fun _ _ => rfl) (Nat.le_of_ble_eq_true rfl) (Nat.le_of_ble_eq_true rfl) dX3_copyFrom_87 (fun H locs hP _ hS => ?_)
  obtain ⟨X_6, eX_6⟩ : ∃ Z : St, Z = uc X_5 g 4 (va_cpy (X_5 g2 4) (X_5 g 4) 0 0 20) := ⟨_, rfl⟩
  have hP : va_P D vwCl (wC cI cR ad X_6) H := by
    rw [eX_6, ← sc_4 hg]; exact hP
  refine lv_aload_n hx hb dX3_copyFrom_90 rfl (lv_at hl 1 rfl) ?_
  refine xget (C := RX3) (T := TX3) (N := 11) (ci := 3) (w := .ref (ad (17 * g2 + 8))) hx hb hts hi_X3 hown hK hP (17 * g2 + 1) (gg_1 hg2) rfl 6 (by decide) lk_30 rfl dX3_copyFrom_91 ?_
  refine lv_iconst (v := 0) hx hb dX3_copyFrom_94 (by decide) ?_
  refine lv_aload_n hx hb dX3_copyFrom_95 rfl (lv_at hl 0 rfl) ?_
  refine xget (C := RX3) (T := TX3) (N := 11) (ci := 3) (w := .ref (ad (17 * g + 8))) hx hb hts hi_X3 hown hK hP (17 * g + 1) (gg_1 hg) rfl 6 (by decide) lk_30 rfl dX3_copyFrom_96 ?_
  refine lv_iconst (v := 0) hx hb dX3_copyFrom_99 (by decide) ?_
  refine lv_bipush (v := 20) hx hb dX3_copyFrom_100 (by decide) ?_
  refine va_copyi hx hb (by rw [hml]; exact hl.1.symm) hown (hts (.methodLink RX3 42 arraycopyName) (by decide +kernel)) (hts (.native arraycopyName) (by decide +kernel)) (hts (.static arraycopyName) (by decide +kernel)) (hts (.initialized "java/lang/System") (by decide +kernel)) hK hP (wC_D hdj) hS (17 * g2 + 8) (17 * g + 8) 0 0 (gg_8 hg2) (gg_8 hg) rfl rfl rfl (by decide) (by decide) (by decide) (by decide) (by decide) (fun _ _ => rfl) (Nat.le_of_ble_eq_true rfl) (Nat.le_of_ble_eq_true rfl) dX3_copyFrom_102 (fun H locs hP _ hS => ?_)
  obtain ⟨X_7, eX_7⟩ : ∃ Z : St, Z = uc X_6 g 5 (va_cpy (X_6 g2 5) (X_6 g 5) 0 0 20) := ⟨_, rfl⟩
  have hP : va_P D vwCl (wC cI cR ad X_7) H := by
    rw [eX_7, ← sc_5 hg]; exact hP
  refine lv_aload_n hx hb dX3_copyFrom_105 rfl (lv_at hl 1 rfl) ?_
  refine xget (C := RX3) (T := TX3) (N := 11) (ci := 3) (w := .ref (ad (17 * g2 + 9))) hx hb hts hi_X3 hown hK hP (17 * g2 + 1) (gg_1 hg2) rfl 7 (by decide) lk_33 rfl dX3_copyFrom_106 ?_
  refine lv_iconst (v := 0) hx hb dX3_copyFrom_109 (by decide) ?_
  refine lv_aload_n hx hb dX3_copyFrom_110 rfl (lv_at hl 0 rfl) ?_
  refine xget (C := RX3) (T := TX3) (N := 11) (ci := 3) (w := .ref (ad (17 * g + 9))) hx hb hts hi_X3 hown hK hP (17 * g + 1) (gg_1 hg) rfl 7 (by decide) lk_33 rfl dX3_copyFrom_111 ?_
  refine lv_iconst (v := 0) hx hb dX3_copyFrom_114 (by decide) ?_
  refine lv_bipush (v := 20) hx hb dX3_copyFrom_115 (by decide) ?_
  refine va_copyi hx hb (by rw [hml]; exact hl.1.symm) hown (hts (.methodLink RX3 42 arraycopyName) (by decide +kernel)) (hts (.native arraycopyName) (by decide +kernel)) (hts (.static arraycopyName) (by decide +kernel)) (hts (.initialized "java/lang/System") (by decide +kernel)) hK hP (wC_D hdj) hS (17 * g2 + 9) (17 * g + 9) 0 0 (gg_9 hg2) (gg_9 hg) rfl rfl rfl (by decide) (by decide) (by decide) (by decide) (by decide) (fun _ _ => rfl) (Nat.le_of_ble_eq_true rfl) (Nat.le_of_ble_eq_true rfl) dX3_copyFrom_117 (fun H locs hP _ hS => ?_)
  obtain ⟨X_8, eX_8⟩ : ∃ Z : St, Z = uc X_7 g 6 (va_cpy (X_7 g2 6) (X_7 g 6) 0 0 20) := ⟨_, rfl⟩
  have hP : va_P D vwCl (wC cI cR ad X_8) H := by
    rw [eX_8, ← sc_6 hg]; exact hP
  refine lv_aload_n hx hb dX3_copyFrom_120 rfl (lv_at hl 1 rfl) ?_
  refine xget (C := RX3) (T := TX3) (N := 11) (ci := 3) (w := .ref (ad (17 * g2 + 10))) hx hb hts hi_X3 hown hK hP (17 * g2 + 1) (gg_1 hg2) rfl 8 (by decide) lk_36 rfl dX3_copyFrom_121 ?_
  refine lv_iconst (v := 0) hx hb dX3_copyFrom_124 (by decide) ?_
  refine lv_aload_n hx hb dX3_copyFrom_125 rfl (lv_at hl 0 rfl) ?_
  refine xget (C := RX3) (T := TX3) (N := 11) (ci := 3) (w := .ref (ad (17 * g + 10))) hx hb hts hi_X3 hown hK hP (17 * g + 1) (gg_1 hg) rfl 8 (by decide) lk_36 rfl dX3_copyFrom_126 ?_
  refine lv_iconst (v := 0) hx hb dX3_copyFrom_129 (by decide) ?_
  refine lv_bipush (v := 20) hx hb dX3_copyFrom_130 (by decide) ?_
  refine va_copyi hx hb (by rw [hml]; exact hl.1.symm) hown (hts (.methodLink RX3 42 arraycopyName) (by decide +kernel)) (hts (.native arraycopyName) (by decide +kernel)) (hts (.static arraycopyName) (by decide +kernel)) (hts (.initialized "java/lang/System") (by decide +kernel)) hK hP (wC_D hdj) hS (17 * g2 + 10) (17 * g + 10) 0 0 (gg_10 hg2) (gg_10 hg) rfl rfl rfl (by decide) (by decide) (by decide) (by decide) (by decide) (fun _ _ => rfl) (Nat.le_of_ble_eq_true rfl) (Nat.le_of_ble_eq_true rfl) dX3_copyFrom_132 (fun H locs hP _ hS => ?_)
  obtain ⟨X_9, eX_9⟩ : ∃ Z : St, Z = uc X_8 g 7 (va_cpy (X_8 g2 7) (X_8 g 7) 0 0 20) := ⟨_, rfl⟩
  have hP : va_P D vwCl (wC cI cR ad X_9) H := by
    rw [eX_9, ← sc_7 hg]; exact hP
  refine lv_aload_n hx hb dX3_copyFrom_135 rfl (lv_at hl 1 rfl) ?_
  refine xget (C := RX3) (T := TX3) (N := 11) (ci := 3) (w := .ref (ad (17 * g2 + 11))) hx hb hts hi_X3 hown hK hP (17 * g2 + 1) (gg_1 hg2) rfl 9 (by decide) lk_39 rfl dX3_copyFrom_136 ?_
  refine lv_iconst (v := 0) hx hb dX3_copyFrom_139 (by decide) ?_
  refine lv_aload_n hx hb dX3_copyFrom_140 rfl (lv_at hl 0 rfl) ?_
  refine xget (C := RX3) (T := TX3) (N := 11) (ci := 3) (w := .ref (ad (17 * g + 11))) hx hb hts hi_X3 hown hK hP (17 * g + 1) (gg_1 hg) rfl 9 (by decide) lk_39 rfl dX3_copyFrom_141 ?_
  refine lv_iconst (v := 0) hx hb dX3_copyFrom_144 (by decide) ?_
  refine lv_bipush (v := 20) hx hb dX3_copyFrom_145 (by decide) ?_
  refine va_copyi hx hb (by rw [hml]; exact hl.1.symm) hown (hts (.methodLink RX3 42 arraycopyName) (by decide +kernel)) (hts (.native arraycopyName) (by decide +kernel)) (hts (.static arraycopyName) (by decide +kernel)) (hts (.initialized "java/lang/System") (by decide +kernel)) hK hP (wC_D hdj) hS (17 * g2 + 11) (17 * g + 11) 0 0 (gg_11 hg2) (gg_11 hg) rfl rfl rfl (by decide) (by decide) (by decide) (by decide) (by decide) (fun _ _ => rfl) (Nat.le_of_ble_eq_true rfl) (Nat.le_of_ble_eq_true rfl) dX3_copyFrom_147 (fun H locs hP _ hS => ?_)
  obtain ⟨X_10, eX_10⟩ : ∃ Z : St, Z = uc X_9 g 8 (va_cpy (X_9 g2 8) (X_9 g 8) 0 0 20) := ⟨_, rfl⟩
  have hP : va_P D vwCl (wC cI cR ad X_10) H := by
    rw [eX_10, ← sc_8 hg]; exact hP
  refine lv_aload_n hx hb dX3_copyFrom_150 rfl (lv_at hl 0 rfl) ?_
  refine lv_aload_n hx hb dX3_copyFrom_151 rfl (lv_at hl 1 rfl) ?_
  refine xget (C := RX3) (T := TX3) (N := 11) (ci := 3) (w := .int (X_10 g2 14 1)) hx hb hts hi_X3 hown hK hP (17 * g2 + 1) (gg_1 hg2) rfl 10 (by decide) lk_48 rfl dX3_copyFrom_152 ?_
  refine xput (C := RX3) (T := TX3) (N := 11) (ci := 3) hx hb hts hi_X3 tyX3 tyX3_ok nmX3 hown hK hP (wC_D hdj) hS (17 * g + 1) (gg_1 hg) rfl 10 (by decide) lk_48 rfl (by decide +kernel) (Nat.le_of_ble_eq_true rfl) (sn_heads hg) dX3_copyFrom_155 (fun H locs hP hS => ?_)
  obtain ⟨X_11, eX_11⟩ : ∃ Z : St, Z = u3 X_10 g 14 1 (X_10 g2 14 1) := ⟨_, rfl⟩
  rw [← eX_11] at hP
  have hP : va_P D vwCl (wC cI cR ad (cpH X g g2)) H := by
    refine wC_ext hP ?_ ?_ ?_ ?_ ?_
    · intro a f i ha hf hi
      by_cases e : a = g
      · subst e
        rcases (show f = 0 ∨ f = 1 ∨ f = 2 ∨ f = 3 ∨ f = 4 ∨ f = 5 ∨ f = 6 ∨ f = 7 ∨ f = 8 ∨ f = 9 by omega) with rfl | rfl | rfl | rfl | rfl | rfl | rfl | rfl | rfl | rfl <;> simp [eX_1, eX_2, eX_3, eX_4, eX_5, eX_6, eX_7, eX_8, eX_9, eX_10, eX_11, cpH, cpC, sg, uc, u3, b2, va_cpy, hne, hi]
      · simp [eX_1, eX_2, eX_3, eX_4, eX_5, eX_6, eX_7, eX_8, eX_9, eX_10, eX_11, cpH, cpC, sg, uc, u3, e]
    · intro a f i ha hf0 hf hi
      by_cases e : a = g
      · subst e
        rcases (show f = 10 ∨ f = 11 ∨ f = 12 ∨ f = 13 by omega) with rfl | rfl | rfl | rfl <;> simp [eX_1, eX_2, eX_3, eX_4, eX_5, eX_6, eX_7, eX_8, eX_9, eX_10, eX_11, cpH, cpC, sg, uc, u3, b2, va_cpy, hne, hi]
      · simp [eX_1, eX_2, eX_3, eX_4, eX_5, eX_6, eX_7, eX_8, eX_9, eX_10, eX_11, cpH, cpC, sg, uc, u3, e]
    · intro a i ha hi
      by_cases e : a = g
      · subst e
        rcases (show i = 0 ∨ i = 1 ∨ i = 2 ∨ i = 3 ∨ i = 4 ∨ i = 5 by omega) with rfl | rfl | rfl | rfl | rfl | rfl <;> simp [eX_1, eX_2, eX_3, eX_4, eX_5, eX_6, eX_7, eX_8, eX_9, eX_10, eX_11, cpH, cpC, sg, uc, u3, b2, hne]
      · simp [eX_1, eX_2, eX_3, eX_4, eX_5, eX_6, eX_7, eX_8, eX_9, eX_10, eX_11, cpH, cpC, sg, uc, u3, e]
    · intro f i hf hi
      simp [eX_1, eX_2, eX_3, eX_4, eX_5, eX_6, eX_7, eX_8, eX_9, eX_10, eX_11, cpH, cpC, sg, uc, u3, show ¬ (13 : Nat) = g by omega]
    · intro i hi
      simp [eX_1, eX_2, eX_3, eX_4, eX_5, eX_6, eX_7, eX_8, eX_9, eX_10, eX_11, cpH, cpC, sg, uc, u3, show ¬ (14 : Nat) = g by omega]
  exact retWV hx hb hr hlocks hP hS dX3_copyFrom_158
set_option maxHeartbeats 4000000 in
set_option maxRecDepth 100000 in
theorem c_X1_copyFrom {l : Launch} {D : va_G} {cI cR : ClassId} {ad : Nat → Nat} (hdj : Dj 236 ad) (X : St) (g g2 : Nat) (hg : g < 13) (hg2 : g2 < 13) (hne : ¬ g2 = g) : WoV l D cI cR (Aw 236 ad) (wC cI cR ad X) (wC cI cR ad (cpC X g g2)) yX1_copyFrom wsX1_copyFrom ({ frames := 1, cells := 0, slots := 0, locals := 60 } : Room) [.ref (ad (17 * g + 12)), .ref (ad (17 * g2 + 12))] := by
  refine OfW (cc := cX1_copyFrom) (maxL := 2) (ret := none) (by decide +kernel) rfl (Nat.le_of_ble_eq_true rfl) (fun p e s m below meth c hx hb hr hts hown hlocks hml hnm hP hK hN ls hl => ?_)
  have hl : lv_has ls 2 [(0, .ref (ad (17 * g + 12))), (1, .ref (ad (17 * g2 + 12)))] := hl
  have lk_9 := hts (.fieldLink RX1 9 "HeadBudgets$Commitments" "head" "[I") (by decide +kernel)
  have lk_15 := hts (.fieldLink RX1 15 "HeadBudgets$Commitments" "open" "[I") (by decide +kernel)
  have lk_18 := hts (.fieldLink RX1 18 "HeadBudgets$Commitments" "paid" "[I") (by decide +kernel)
  have lk_21 := hts (.fieldLink RX1 21 "HeadBudgets$Commitments" "year" "[I") (by decide +kernel)
  have lk_30 := hts (.fieldLink RX1 30 "HeadBudgets$Commitments" "made" "I") (by decide +kernel)
  have hi_X1 : ∀ w ∈ wsX10, w ∈ wsX1_copyFrom := by decide +kernel
  have hS : va_S (Aw 236 ad) s.heap s.heap [] := va_S.rf
  have hP : va_P D vwCl (wC cI cR ad X) s.heap := hP
  refine lv_aload_n hx hb dX1_copyFrom_0 rfl (lv_at hl 1 rfl) ?_
  refine xget (C := RX1) (T := TX1) (N := 5) (ci := 1) (w := .ref (ad (17 * g2 + 13))) hx hb hts hi_X1 hown hK hP (17 * g2 + 12) (gg_12 hg2) rfl 0 (by decide) lk_9 rfl dX1_copyFrom_1 ?_
  refine lv_iconst (v := 0) hx hb dX1_copyFrom_4 (by decide) ?_
  refine lv_aload_n hx hb dX1_copyFrom_5 rfl (lv_at hl 0 rfl) ?_
  refine xget (C := RX1) (T := TX1) (N := 5) (ci := 1) (w := .ref (ad (17 * g + 13))) hx hb hts hi_X1 hown hK hP (17 * g + 12) (gg_12 hg) rfl 0 (by decide) lk_9 rfl dX1_copyFrom_6 ?_
  refine lv_iconst (v := 0) hx hb dX1_copyFrom_9 (by decide) ?_
  refine lv_bipush (v := 40) hx hb dX1_copyFrom_10 (by decide) ?_
  refine va_copyi hx hb (by rw [hml]; exact hl.1.symm) hown (hts (.methodLink RX1 24 arraycopyName) (by decide +kernel)) (hts (.native arraycopyName) (by decide +kernel)) (hts (.static arraycopyName) (by decide +kernel)) (hts (.initialized "java/lang/System") (by decide +kernel)) hK hP (wC_D hdj) hS (17 * g2 + 13) (17 * g + 13) 0 0 (gg_13 hg2) (gg_13 hg) rfl rfl rfl (by decide) (by decide) (by decide) (by decide) (by decide) (fun _ _ => rfl) (Nat.le_of_ble_eq_true rfl) (Nat.le_of_ble_eq_true rfl) dX1_copyFrom_12 (fun H locs hP _ hS => ?_)
  obtain ⟨X_1, eX_1⟩ : ∃ Z : St, Z = uc X g 10 (va_cpy (X g2 10) (X g 10) 0 0 40) := ⟨_, rfl⟩
  have hP : va_P D vwCl (wC cI cR ad X_1) H := by
    rw [eX_1, ← sc_10 hg]; exact hP
  refine lv_aload_n hx hb dX1_copyFrom_15 rfl (lv_at hl 1 rfl) ?_
  refine xget (C := RX1) (T := TX1) (N := 5) (ci := 1) (w := .ref (ad (17 * g2 + 14))) hx hb hts hi_X1 hown hK hP (17 * g2 + 12) (gg_12 hg2) rfl 1 (by decide) lk_15 rfl dX1_copyFrom_16 ?_
  refine lv_iconst (v := 0) hx hb dX1_copyFrom_19 (by decide) ?_
  refine lv_aload_n hx hb dX1_copyFrom_20 rfl (lv_at hl 0 rfl) ?_
  refine xget (C := RX1) (T := TX1) (N := 5) (ci := 1) (w := .ref (ad (17 * g + 14))) hx hb hts hi_X1 hown hK hP (17 * g + 12) (gg_12 hg) rfl 1 (by decide) lk_15 rfl dX1_copyFrom_21 ?_
  refine lv_iconst (v := 0) hx hb dX1_copyFrom_24 (by decide) ?_
  refine lv_bipush (v := 40) hx hb dX1_copyFrom_25 (by decide) ?_
  refine va_copyi hx hb (by rw [hml]; exact hl.1.symm) hown (hts (.methodLink RX1 24 arraycopyName) (by decide +kernel)) (hts (.native arraycopyName) (by decide +kernel)) (hts (.static arraycopyName) (by decide +kernel)) (hts (.initialized "java/lang/System") (by decide +kernel)) hK hP (wC_D hdj) hS (17 * g2 + 14) (17 * g + 14) 0 0 (gg_14 hg2) (gg_14 hg) rfl rfl rfl (by decide) (by decide) (by decide) (by decide) (by decide) (fun _ _ => rfl) (Nat.le_of_ble_eq_true rfl) (Nat.le_of_ble_eq_true rfl) dX1_copyFrom_27 (fun H locs hP _ hS => ?_)
  obtain ⟨X_2, eX_2⟩ : ∃ Z : St, Z = uc X_1 g 11 (va_cpy (X_1 g2 11) (X_1 g 11) 0 0 40) := ⟨_, rfl⟩
  have hP : va_P D vwCl (wC cI cR ad X_2) H := by
    rw [eX_2, ← sc_11 hg]; exact hP
  refine lv_aload_n hx hb dX1_copyFrom_30 rfl (lv_at hl 1 rfl) ?_
  refine xget (C := RX1) (T := TX1) (N := 5) (ci := 1) (w := .ref (ad (17 * g2 + 15))) hx hb hts hi_X1 hown hK hP (17 * g2 + 12) (gg_12 hg2) rfl 2 (by decide) lk_18 rfl dX1_copyFrom_31 ?_
  refine lv_iconst (v := 0) hx hb dX1_copyFrom_34 (by decide) ?_
  refine lv_aload_n hx hb dX1_copyFrom_35 rfl (lv_at hl 0 rfl) ?_
  refine xget (C := RX1) (T := TX1) (N := 5) (ci := 1) (w := .ref (ad (17 * g + 15))) hx hb hts hi_X1 hown hK hP (17 * g + 12) (gg_12 hg) rfl 2 (by decide) lk_18 rfl dX1_copyFrom_36 ?_
  refine lv_iconst (v := 0) hx hb dX1_copyFrom_39 (by decide) ?_
  refine lv_bipush (v := 40) hx hb dX1_copyFrom_40 (by decide) ?_
  refine va_copyi hx hb (by rw [hml]; exact hl.1.symm) hown (hts (.methodLink RX1 24 arraycopyName) (by decide +kernel)) (hts (.native arraycopyName) (by decide +kernel)) (hts (.static arraycopyName) (by decide +kernel)) (hts (.initialized "java/lang/System") (by decide +kernel)) hK hP (wC_D hdj) hS (17 * g2 + 15) (17 * g + 15) 0 0 (gg_15 hg2) (gg_15 hg) rfl rfl rfl (by decide) (by decide) (by decide) (by decide) (by decide) (fun _ _ => rfl) (Nat.le_of_ble_eq_true rfl) (Nat.le_of_ble_eq_true rfl) dX1_copyFrom_42 (fun H locs hP _ hS => ?_)
  obtain ⟨X_3, eX_3⟩ : ∃ Z : St, Z = uc X_2 g 12 (va_cpy (X_2 g2 12) (X_2 g 12) 0 0 40) := ⟨_, rfl⟩
  have hP : va_P D vwCl (wC cI cR ad X_3) H := by
    rw [eX_3, ← sc_12 hg]; exact hP
  refine lv_aload_n hx hb dX1_copyFrom_45 rfl (lv_at hl 1 rfl) ?_
  refine xget (C := RX1) (T := TX1) (N := 5) (ci := 1) (w := .ref (ad (17 * g2 + 16))) hx hb hts hi_X1 hown hK hP (17 * g2 + 12) (gg_12 hg2) rfl 3 (by decide) lk_21 rfl dX1_copyFrom_46 ?_
  refine lv_iconst (v := 0) hx hb dX1_copyFrom_49 (by decide) ?_
  refine lv_aload_n hx hb dX1_copyFrom_50 rfl (lv_at hl 0 rfl) ?_
  refine xget (C := RX1) (T := TX1) (N := 5) (ci := 1) (w := .ref (ad (17 * g + 16))) hx hb hts hi_X1 hown hK hP (17 * g + 12) (gg_12 hg) rfl 3 (by decide) lk_21 rfl dX1_copyFrom_51 ?_
  refine lv_iconst (v := 0) hx hb dX1_copyFrom_54 (by decide) ?_
  refine lv_bipush (v := 40) hx hb dX1_copyFrom_55 (by decide) ?_
  refine va_copyi hx hb (by rw [hml]; exact hl.1.symm) hown (hts (.methodLink RX1 24 arraycopyName) (by decide +kernel)) (hts (.native arraycopyName) (by decide +kernel)) (hts (.static arraycopyName) (by decide +kernel)) (hts (.initialized "java/lang/System") (by decide +kernel)) hK hP (wC_D hdj) hS (17 * g2 + 16) (17 * g + 16) 0 0 (gg_16 hg2) (gg_16 hg) rfl rfl rfl (by decide) (by decide) (by decide) (by decide) (by decide) (fun _ _ => rfl) (Nat.le_of_ble_eq_true rfl) (Nat.le_of_ble_eq_true rfl) dX1_copyFrom_57 (fun H locs hP _ hS => ?_)
  obtain ⟨X_4, eX_4⟩ : ∃ Z : St, Z = uc X_3 g 13 (va_cpy (X_3 g2 13) (X_3 g 13) 0 0 40) := ⟨_, rfl⟩
  have hP : va_P D vwCl (wC cI cR ad X_4) H := by
    rw [eX_4, ← sc_13 hg]; exact hP
  refine lv_aload_n hx hb dX1_copyFrom_60 rfl (lv_at hl 0 rfl) ?_
  refine lv_aload_n hx hb dX1_copyFrom_61 rfl (lv_at hl 1 rfl) ?_
  refine xget (C := RX1) (T := TX1) (N := 5) (ci := 1) (w := .int (X_4 g2 14 2)) hx hb hts hi_X1 hown hK hP (17 * g2 + 12) (gg_12 hg2) rfl 4 (by decide) lk_30 rfl dX1_copyFrom_62 ?_
  refine xput (C := RX1) (T := TX1) (N := 5) (ci := 1) hx hb hts hi_X1 tyX1 tyX1_ok nmX1 hown hK hP (wC_D hdj) hS (17 * g + 12) (gg_12 hg) rfl 4 (by decide) lk_30 rfl (by decide +kernel) (Nat.le_of_ble_eq_true rfl) (sn_comms hg) dX1_copyFrom_65 (fun H locs hP hS => ?_)
  obtain ⟨X_5, eX_5⟩ : ∃ Z : St, Z = u3 X_4 g 14 2 (X_4 g2 14 2) := ⟨_, rfl⟩
  rw [← eX_5] at hP
  have hP : va_P D vwCl (wC cI cR ad (cpC X g g2)) H := by
    refine wC_ext hP ?_ ?_ ?_ ?_ ?_
    · intro a f i ha hf hi
      by_cases e : a = g
      · subst e
        rcases (show f = 0 ∨ f = 1 ∨ f = 2 ∨ f = 3 ∨ f = 4 ∨ f = 5 ∨ f = 6 ∨ f = 7 ∨ f = 8 ∨ f = 9 by omega) with rfl | rfl | rfl | rfl | rfl | rfl | rfl | rfl | rfl | rfl <;> simp [eX_1, eX_2, eX_3, eX_4, eX_5, cpH, cpC, sg, uc, u3, b2, va_cpy, hne, hi]
      · simp [eX_1, eX_2, eX_3, eX_4, eX_5, cpH, cpC, sg, uc, u3, e]
    · intro a f i ha hf0 hf hi
      by_cases e : a = g
      · subst e
        rcases (show f = 10 ∨ f = 11 ∨ f = 12 ∨ f = 13 by omega) with rfl | rfl | rfl | rfl <;> simp [eX_1, eX_2, eX_3, eX_4, eX_5, cpH, cpC, sg, uc, u3, b2, va_cpy, hne, hi]
      · simp [eX_1, eX_2, eX_3, eX_4, eX_5, cpH, cpC, sg, uc, u3, e]
    · intro a i ha hi
      by_cases e : a = g
      · subst e
        rcases (show i = 0 ∨ i = 1 ∨ i = 2 ∨ i = 3 ∨ i = 4 ∨ i = 5 by omega) with rfl | rfl | rfl | rfl | rfl | rfl <;> simp [eX_1, eX_2, eX_3, eX_4, eX_5, cpH, cpC, sg, uc, u3, b2, hne]
      · simp [eX_1, eX_2, eX_3, eX_4, eX_5, cpH, cpC, sg, uc, u3, e]
    · intro f i hf hi
      simp [eX_1, eX_2, eX_3, eX_4, eX_5, cpH, cpC, sg, uc, u3, show ¬ (13 : Nat) = g by omega]
    · intro i hi
      simp [eX_1, eX_2, eX_3, eX_4, eX_5, cpH, cpC, sg, uc, u3, show ¬ (14 : Nat) = g by omega]
  exact retWV hx hb hr hlocks hP hS dX1_copyFrom_68
set_option maxHeartbeats 4000000 in
set_option maxRecDepth 100000 in
theorem c_X0_copyFrom {l : Launch} {D : va_G} {cI cR : ClassId} {ad : Nat → Nat} (hdj : Dj 236 ad) (X : St) (g g2 : Nat) (hg : g < 13) (hg2 : g2 < 13) (hne : ¬ g2 = g) : WoV l D cI cR (Aw 236 ad) (wC cI cR ad X) (wC cI cR ad (sg X g (X g2))) yX0_copyFrom wsX0_copyFrom ({ frames := 2, cells := 0, slots := 0, locals := 81 } : Room) [.ref (ad (17 * g + 0)), .ref (ad (17 * g2 + 0))] := by
  refine OfW (cc := cX0_copyFrom) (maxL := 2) (ret := none) (by decide +kernel) rfl (Nat.le_of_ble_eq_true rfl) (fun p e s m below meth c hx hb hr hts hown hlocks hml hnm hP hK hN ls hl => ?_)
  have hl : lv_has ls 2 [(0, .ref (ad (17 * g + 0))), (1, .ref (ad (17 * g2 + 0)))] := hl
  have lk_12 := hts (.fieldLink RX0 12 "HeadBudgets$Books" "heads" "LHeadBudgets$Heads;") (by decide +kernel)
  have lk_21 := hts (.fieldLink RX0 21 "HeadBudgets$Books" "commitments" "LHeadBudgets$Commitments;") (by decide +kernel)
  have lk_36 := hts (.fieldLink RX0 36 "HeadBudgets$Books" "year" "I") (by decide +kernel)
  have lk_25 := hts (.fieldLink RX0 25 "HeadBudgets$Books" "carriedPart" "I") (by decide +kernel)
  have lk_39 := hts (.fieldLink RX0 39 "HeadBudgets$Books" "lapsed" "I") (by decide +kernel)
  have lk_42 := hts (.fieldLink RX0 42 "HeadBudgets$Books" "spent" "I") (by decide +kernel)
  have hi_X0 : ∀ w ∈ wsX00, w ∈ wsX0_copyFrom := by decide +kernel
  have hS : va_S (Aw 236 ad) s.heap s.heap [] := va_S.rf
  have hP : va_P D vwCl (wC cI cR ad X) s.heap := hP
  refine lv_aload_n hx hb dX0_copyFrom_0 rfl (lv_at hl 0 rfl) ?_
  refine xget (C := RX0) (T := TX0) (N := 6) (ci := 0) (w := .ref (ad (17 * g + 1))) hx hb hts hi_X0 hown hK hP (17 * g + 0) (gg_0 hg) rfl 0 (by decide) lk_12 rfl dX0_copyFrom_1 ?_
  refine lv_aload_n hx hb dX0_copyFrom_4 rfl (lv_at hl 1 rfl) ?_
  refine xget (C := RX0) (T := TX0) (N := 6) (ci := 0) (w := .ref (ad (17 * g2 + 1))) hx hb hts hi_X0 hown hK hP (17 * g2 + 0) (gg_0 hg2) rfl 0 (by decide) lk_12 rfl dX0_copyFrom_5 ?_
  refine callWV (As := [.ref (ad (17 * g2 + 1))]) (rest := []) ⟨hx, hb, hml, hown, hts⟩ (c_X3_copyFrom hdj X g g2 hg hg2 hne) (cwV 1 hts gX0_copyFrom_X3_copyFrom rfl rfl rfl (by decide +kernel) ⟨Nat.le_of_ble_eq_true rfl, Nat.le_of_ble_eq_true rfl⟩) hK hN hP (17 * g + 1) (gg_1 hg) rfl rfl hl.1 rfl (Nat.le_of_ble_eq_true rfl) dX0_copyFrom_8 ⟨Nat.zero_le _, Nat.zero_le _⟩ hS (fun _ h9 => h9) (fun H locs hP hS => ?_)
  obtain ⟨X_1, eX_1⟩ : ∃ Z : St, Z = cpH X g g2 := ⟨_, rfl⟩
  rw [← eX_1] at hP
  refine lv_aload_n hx hb dX0_copyFrom_11 rfl (lv_at hl 0 rfl) ?_
  refine xget (C := RX0) (T := TX0) (N := 6) (ci := 0) (w := .ref (ad (17 * g + 12))) hx hb hts hi_X0 hown hK hP (17 * g + 0) (gg_0 hg) rfl 1 (by decide) lk_21 rfl dX0_copyFrom_12 ?_
  refine lv_aload_n hx hb dX0_copyFrom_15 rfl (lv_at hl 1 rfl) ?_
  refine xget (C := RX0) (T := TX0) (N := 6) (ci := 0) (w := .ref (ad (17 * g2 + 12))) hx hb hts hi_X0 hown hK hP (17 * g2 + 0) (gg_0 hg2) rfl 1 (by decide) lk_21 rfl dX0_copyFrom_16 ?_
  refine callWV (As := [.ref (ad (17 * g2 + 12))]) (rest := []) ⟨hx, hb, hml, hown, hts⟩ (c_X1_copyFrom hdj X_1 g g2 hg hg2 hne) (cwV 1 hts gX0_copyFrom_X1_copyFrom rfl rfl rfl (by decide +kernel) ⟨Nat.le_of_ble_eq_true rfl, Nat.le_of_ble_eq_true rfl⟩) hK hN hP (17 * g + 12) (gg_12 hg) rfl rfl hl.1 rfl (Nat.le_of_ble_eq_true rfl) dX0_copyFrom_19 ⟨Nat.zero_le _, Nat.zero_le _⟩ hS (fun _ h9 => h9) (fun H locs hP hS => ?_)
  obtain ⟨X_2, eX_2⟩ : ∃ Z : St, Z = cpC X_1 g g2 := ⟨_, rfl⟩
  rw [← eX_2] at hP
  refine lv_aload_n hx hb dX0_copyFrom_22 rfl (lv_at hl 0 rfl) ?_
  refine lv_aload_n hx hb dX0_copyFrom_23 rfl (lv_at hl 1 rfl) ?_
  refine xget (C := RX0) (T := TX0) (N := 6) (ci := 0) (w := .int (X_2 g2 14 0)) hx hb hts hi_X0 hown hK hP (17 * g2 + 0) (gg_0 hg2) rfl 2 (by decide) lk_36 rfl dX0_copyFrom_24 ?_
  refine xput (C := RX0) (T := TX0) (N := 6) (ci := 0) hx hb hts hi_X0 tyX0 tyX0_ok nmX0 hown hK hP (wC_D hdj) hS (17 * g + 0) (gg_0 hg) rfl 2 (by decide) lk_36 rfl (by decide +kernel) (Nat.le_of_ble_eq_true rfl) (sn_year hg) dX0_copyFrom_27 (fun H locs hP hS => ?_)
  obtain ⟨X_3, eX_3⟩ : ∃ Z : St, Z = u3 X_2 g 14 0 (X_2 g2 14 0) := ⟨_, rfl⟩
  rw [← eX_3] at hP
  refine lv_aload_n hx hb dX0_copyFrom_30 rfl (lv_at hl 0 rfl) ?_
  refine lv_aload_n hx hb dX0_copyFrom_31 rfl (lv_at hl 1 rfl) ?_
  refine xget (C := RX0) (T := TX0) (N := 6) (ci := 0) (w := .int (X_3 g2 14 3)) hx hb hts hi_X0 hown hK hP (17 * g2 + 0) (gg_0 hg2) rfl 3 (by decide) lk_25 rfl dX0_copyFrom_32 ?_
  refine xput (C := RX0) (T := TX0) (N := 6) (ci := 0) hx hb hts hi_X0 tyX0 tyX0_ok nmX0 hown hK hP (wC_D hdj) hS (17 * g + 0) (gg_0 hg) rfl 3 (by decide) lk_25 rfl (by decide +kernel) (Nat.le_of_ble_eq_true rfl) (sn_carried hg) dX0_copyFrom_35 (fun H locs hP hS => ?_)
  obtain ⟨X_4, eX_4⟩ : ∃ Z : St, Z = u3 X_3 g 14 3 (X_3 g2 14 3) := ⟨_, rfl⟩
  rw [← eX_4] at hP
  refine lv_aload_n hx hb dX0_copyFrom_38 rfl (lv_at hl 0 rfl) ?_
  refine lv_aload_n hx hb dX0_copyFrom_39 rfl (lv_at hl 1 rfl) ?_
  refine xget (C := RX0) (T := TX0) (N := 6) (ci := 0) (w := .int (X_4 g2 14 4)) hx hb hts hi_X0 hown hK hP (17 * g2 + 0) (gg_0 hg2) rfl 4 (by decide) lk_39 rfl dX0_copyFrom_40 ?_
  refine xput (C := RX0) (T := TX0) (N := 6) (ci := 0) hx hb hts hi_X0 tyX0 tyX0_ok nmX0 hown hK hP (wC_D hdj) hS (17 * g + 0) (gg_0 hg) rfl 4 (by decide) lk_39 rfl (by decide +kernel) (Nat.le_of_ble_eq_true rfl) (sn_lapsed hg) dX0_copyFrom_43 (fun H locs hP hS => ?_)
  obtain ⟨X_5, eX_5⟩ : ∃ Z : St, Z = u3 X_4 g 14 4 (X_4 g2 14 4) := ⟨_, rfl⟩
  rw [← eX_5] at hP
  refine lv_aload_n hx hb dX0_copyFrom_46 rfl (lv_at hl 0 rfl) ?_
  refine lv_aload_n hx hb dX0_copyFrom_47 rfl (lv_at hl 1 rfl) ?_
  refine xget (C := RX0) (T := TX0) (N := 6) (ci := 0) (w := .int (X_5 g2 14 5)) hx hb hts hi_X0 hown hK hP (17 * g2 + 0) (gg_0 hg2) rfl 5 (by decide) lk_42 rfl dX0_copyFrom_48 ?_
  refine xput (C := RX0) (T := TX0) (N := 6) (ci := 0) hx hb hts hi_X0 tyX0 tyX0_ok nmX0 hown hK hP (wC_D hdj) hS (17 * g + 0) (gg_0 hg) rfl 5 (by decide) lk_42 rfl (by decide +kernel) (Nat.le_of_ble_eq_true rfl) (sn_spent hg) dX0_copyFrom_51 (fun H locs hP hS => ?_)
  obtain ⟨X_6, eX_6⟩ : ∃ Z : St, Z = u3 X_5 g 14 5 (X_5 g2 14 5) := ⟨_, rfl⟩
  rw [← eX_6] at hP
  have hP : va_P D vwCl (wC cI cR ad (sg X g (X g2))) H := by
    refine wC_ext hP ?_ ?_ ?_ ?_ ?_
    · intro a f i ha hf hi
      by_cases e : a = g
      · subst e
        rcases (show f = 0 ∨ f = 1 ∨ f = 2 ∨ f = 3 ∨ f = 4 ∨ f = 5 ∨ f = 6 ∨ f = 7 ∨ f = 8 ∨ f = 9 by omega) with rfl | rfl | rfl | rfl | rfl | rfl | rfl | rfl | rfl | rfl <;> simp [eX_1, eX_2, eX_3, eX_4, eX_5, eX_6, cpH, cpC, sg, uc, u3, b2, va_cpy, hne, hi]
      · simp [eX_1, eX_2, eX_3, eX_4, eX_5, eX_6, cpH, cpC, sg, uc, u3, e]
    · intro a f i ha hf0 hf hi
      by_cases e : a = g
      · subst e
        rcases (show f = 10 ∨ f = 11 ∨ f = 12 ∨ f = 13 by omega) with rfl | rfl | rfl | rfl <;> simp [eX_1, eX_2, eX_3, eX_4, eX_5, eX_6, cpH, cpC, sg, uc, u3, b2, va_cpy, hne, hi]
      · simp [eX_1, eX_2, eX_3, eX_4, eX_5, eX_6, cpH, cpC, sg, uc, u3, e]
    · intro a i ha hi
      by_cases e : a = g
      · subst e
        rcases (show i = 0 ∨ i = 1 ∨ i = 2 ∨ i = 3 ∨ i = 4 ∨ i = 5 by omega) with rfl | rfl | rfl | rfl | rfl | rfl <;> simp [eX_1, eX_2, eX_3, eX_4, eX_5, eX_6, cpH, cpC, sg, uc, u3, b2, hne]
      · simp [eX_1, eX_2, eX_3, eX_4, eX_5, eX_6, cpH, cpC, sg, uc, u3, e]
    · intro f i hf hi
      simp [eX_1, eX_2, eX_3, eX_4, eX_5, eX_6, cpH, cpC, sg, uc, u3, show ¬ (13 : Nat) = g by omega]
    · intro i hi
      simp [eX_1, eX_2, eX_3, eX_4, eX_5, eX_6, cpH, cpC, sg, uc, u3, show ¬ (14 : Nat) = g by omega]
  exact retWV hx hb hr hlocks hP hS dX0_copyFrom_54
set_option maxHeartbeats 4000000 in
set_option maxRecDepth 100000 in
theorem c_X4_recall {l : Launch} {D : va_G} {cI cR : ClassId} {ad : Nat → Nat} (X : St) (i : Int32) : RoQ l D cI cR (wC cI cR ad X) yX4_recall wsX4_recall ({ frames := 1, cells := 0, slots := 0, locals := 22 } : Room) [.ref (ad 234), .int i] (p_rec ad X i) := by
  refine OfW (cc := cX4_recall) (maxL := 2) (ret := (some (.object "HeadBudgets$Deed"))) (by decide +kernel) rfl (Nat.le_of_ble_eq_true rfl) (fun p e s m below meth c hx hb hr hts hown hlocks hml hnm hP hK hN ls hl => ?_)
  have hl : lv_has ls 2 [(0, .ref (ad 234)), (1, .int i)] := hl
  have lk_18 := hts (.fieldLink RX4 18 "HeadBudgets$Memory" "held" "I") (by decide +kernel)
  have lk_11 := hts (.fieldLink RX4 11 "HeadBudgets$Memory" "places" "[LHeadBudgets$Deed;") (by decide +kernel)
  have lk_22 := hts (.fieldLink RX4 22 "HeadBudgets$Memory" "oldest" "I") (by decide +kernel)
  have hi_X4 : ∀ w ∈ wsX40, w ∈ wsX4_recall := by decide +kernel
  refine lv_iload_n hx hb dX4_recall_0 rfl (lv_at hl 1 rfl) ?_
  refine lv_if_lt (tgt := 12) hx hb dX4_recall_1 (by decide) (fun c_1 => ?_) (fun c_1 => ?_)
  · refine lv_null hx hb dX4_recall_12 ?_
    exact retQ (q := none) hx hb hr hlocks dX4_recall_13 rfl (p_rec_none (by first | exact Or.inl c_1 | exact Or.inr c_9)).symm
  · refine lv_iload_n hx hb dX4_recall_4 rfl (lv_at hl 1 rfl) ?_
    refine lv_aload_n hx hb dX4_recall_5 rfl (lv_at hl 0 rfl) ?_
    refine xget (C := RX4) (T := TX4) (N := 4) (ci := 4) (w := .int (X 14 0 1)) hx hb hts hi_X4 hown hK hP 234 g0_234 rfl 2 (by decide) lk_18 rfl dX4_recall_6 ?_
    refine lv_icmp_lt (tgt := 14) hx hb dX4_recall_9 (by decide) (fun c_9 => ?_) (fun c_9 => ?_)
    · refine lv_aload_n hx hb dX4_recall_14 rfl (lv_at hl 0 rfl) ?_
      refine xget (C := RX4) (T := TX4) (N := 4) (ci := 4) (w := .ref (ad 235)) hx hb hts hi_X4 hown hK hP 234 g0_234 rfl 0 (by decide) lk_11 rfl dX4_recall_15 ?_
      refine lv_aload_n hx hb dX4_recall_18 rfl (lv_at hl 0 rfl) ?_
      refine xget (C := RX4) (T := TX4) (N := 4) (ci := 4) (w := .int (X 14 0 0)) hx hb hts hi_X4 hown hK hP 234 g0_234 rfl 1 (by decide) lk_22 rfl dX4_recall_19 ?_
      refine lv_aload_n hx hb dX4_recall_22 rfl (lv_at hl 0 rfl) ?_
      refine xget (C := RX4) (T := TX4) (N := 4) (ci := 4) (w := .int (X 14 0 1)) hx hb hts hi_X4 hown hK hP 234 g0_234 rfl 2 (by decide) lk_18 rfl dX4_recall_23 ?_
      refine lv_iadd hx hb dX4_recall_26 ?_
      refine lv_iconst (v := 1) hx hb dX4_recall_27 (by decide) ?_
      refine lv_isub hx hb dX4_recall_28 ?_
      refine lv_iload_n hx hb dX4_recall_29 rfl (lv_at hl 1 rfl) ?_
      refine lv_isub hx hb dX4_recall_30 ?_
      refine lv_bipush (v := 12) hx hb dX4_recall_31 (by decide) ?_
      refine callSE (As := [.int ((((X 14 0 0) + (X 14 0 1)) - 1) - i), .int 12]) (rest := [.ref (ad 235)]) ⟨hx, hb, hml, hown, hts⟩ (c_J9_floorMod_7cf53 ((((X 14 0 0) + (X 14 0 1)) - 1) - i) 12 (by decide)) (va_cwS 2 hts gX4_recall_J9_floorMod_7cf53 rfl rfl rfl (by decide +kernel) ⟨Nat.le_of_ble_eq_true rfl, Nat.le_of_ble_eq_true rfl⟩) hK hN rfl hl.1 rfl (Nat.le_of_ble_eq_true rfl) dX4_recall_33 ⟨Nat.zero_le _, Nat.zero_le _⟩ ?_
      refine va_aldq (C := "HeadBudgets$Deed") hx hb hK hP 235 1 g0_235 rfl (fm_in _) dX4_recall_36 ?_
      exact retQ (q := some (ad (221 + (p_fm ((((X 14 0 0) + (X 14 0 1)) - 1) - i) 12).toNatClampNeg))) hx hb hr hlocks dX4_recall_37 rfl (p_rec_some (fun q => q.elim c_1 (fun z => z c_9))).symm
    · refine lv_null hx hb dX4_recall_12 ?_
      exact retQ (q := none) hx hb hr hlocks dX4_recall_13 rfl (p_rec_none (by first | exact Or.inl c_1 | exact Or.inr c_9)).symm
set_option maxHeartbeats 4000000 in
set_option maxRecDepth 100000 in
theorem c_X4_rememberWith {l : Launch} {D : va_G} {cI cR : ClassId} {ad : Nat → Nat} (hdj : Dj 236 ad) (X : St) (k : Int32) (s1 : Int32) (t : Int32) (a : Int32) : WoV l D cI cR (Aw 236 ad) (wC cI cR ad X) (wC cI cR ad (N_rem X k s1 t a)) yX4_rememberWith wsX4_rememberWith ({ frames := 3, cells := 0, slots := 0, locals := 102 } : Room) [.ref (ad 234), .int k, .ref (ad 0), .int s1, .int t, .int a] := by
  refine OfW (cc := cX4_rememberWith) (maxL := 7) (ret := none) (by decide +kernel) rfl (Nat.le_of_ble_eq_true rfl) (fun p e s m below meth c hx hb hr hts hown hlocks hml hnm hP hK hN ls hl => ?_)
  have hl : lv_has ls 7 [(0, .ref (ad 234)), (1, .int k), (2, .ref (ad 0)), (3, .int s1), (4, .int t), (5, .int a)] := hl
  have lk_18 := hts (.fieldLink RX4 18 "HeadBudgets$Memory" "held" "I") (by decide +kernel)
  have lk_22 := hts (.fieldLink RX4 22 "HeadBudgets$Memory" "oldest" "I") (by decide +kernel)
  have lk_35 := hts (.fieldLink RX4 35 "HeadBudgets$Memory" "latestNumber" "I") (by decide +kernel)
  have lk_42 := hts (.fieldLink RX4 42 "HeadBudgets$Deed" "before" "LHeadBudgets$Books;") (by decide +kernel)
  have lk_52 := hts (.fieldLink RX4 52 "HeadBudgets$Deed" "number" "I") (by decide +kernel)
  have lk_55 := hts (.fieldLink RX4 55 "HeadBudgets$Deed" "kind" "I") (by decide +kernel)
  have lk_58 := hts (.fieldLink RX4 58 "HeadBudgets$Deed" "subject" "I") (by decide +kernel)
  have lk_61 := hts (.fieldLink RX4 61 "HeadBudgets$Deed" "taker" "I") (by decide +kernel)
  have lk_64 := hts (.fieldLink RX4 64 "HeadBudgets$Deed" "amount" "I") (by decide +kernel)
  have hi_X2 : ∀ w ∈ wsX20, w ∈ wsX4_rememberWith := by decide +kernel
  have hi_X4 : ∀ w ∈ wsX40, w ∈ wsX4_rememberWith := by decide +kernel
  have hS : va_S (Aw 236 ad) s.heap s.heap [] := va_S.rf
  have hP : va_P D vwCl (wC cI cR ad X) s.heap := hP
  refine lv_aload_n hx hb dX4_rememberWith_0 rfl (lv_at hl 0 rfl) ?_
  refine xget (C := RX4) (T := TX4) (N := 4) (ci := 4) (w := .int (X 14 0 1)) hx hb hts hi_X4 hown hK hP 234 g0_234 rfl 2 (by decide) lk_18 rfl dX4_rememberWith_1 ?_
  refine lv_bipush (v := 12) hx hb dX4_rememberWith_4 (by decide) ?_
  refine lv_icmp_ge (tgt := 22) hx hb dX4_rememberWith_6 (by decide) (fun c_6 => ?_) (fun c_6 => ?_)
  · refine lv_aload_n hx hb dX4_rememberWith_22 rfl (lv_at hl 0 rfl) ?_
    refine lv_aload_n hx hb dX4_rememberWith_23 rfl (lv_at hl 0 rfl) ?_
    refine xget (C := RX4) (T := TX4) (N := 4) (ci := 4) (w := .int (X 14 0 0)) hx hb hts hi_X4 hown hK hP 234 g0_234 rfl 1 (by decide) lk_22 rfl dX4_rememberWith_24 ?_
    refine lv_iconst (v := 1) hx hb dX4_rememberWith_27 (by decide) ?_
    refine lv_iadd hx hb dX4_rememberWith_28 ?_
    refine lv_bipush (v := 12) hx hb dX4_rememberWith_29 (by decide) ?_
    refine callSE (As := [.int ((X 14 0 0) + 1), .int 12]) (rest := [.ref (ad 234)]) ⟨hx, hb, hml, hown, hts⟩ (c_J9_floorMod_7cf53 ((X 14 0 0) + 1) 12 (by decide)) (va_cwS 2 hts gX4_rememberWith_J9_floorMod_7cf53 rfl rfl rfl (by decide +kernel) ⟨Nat.le_of_ble_eq_true rfl, Nat.le_of_ble_eq_true rfl⟩) hK hN rfl hl.1 rfl (Nat.le_of_ble_eq_true rfl) dX4_rememberWith_31 ⟨Nat.zero_le _, Nat.zero_le _⟩ ?_
    refine xput (C := RX4) (T := TX4) (N := 4) (ci := 4) hx hb hts hi_X4 tyX4 tyX4_ok nmX4 hown hK hP (wC_D hdj) hS 234 g0_234 rfl 1 (by decide) lk_22 rfl (by decide +kernel) (Nat.le_of_ble_eq_true rfl) s0_m0 dX4_rememberWith_34 (fun H locs hP hS => ?_)
    obtain ⟨X_1, eX_1⟩ : ∃ Z : St, Z = u3 X 14 0 0 (p_fm ((X 14 0 0) + 1) 12) := ⟨_, rfl⟩
    rw [← eX_1] at hP
    refine lv_aload_n hx hb dX4_rememberWith_37 rfl (lv_at hl 0 rfl) ?_
    refine lv_dup hx hb dX4_rememberWith_38 rfl ?_
    refine xget (C := RX4) (T := TX4) (N := 4) (ci := 4) (w := .int (X_1 14 0 2)) hx hb hts hi_X4 hown hK hP 234 g0_234 rfl 3 (by decide) lk_35 rfl dX4_rememberWith_39 ?_
    refine lv_iconst (v := 1) hx hb dX4_rememberWith_42 (by decide) ?_
    refine lv_iadd hx hb dX4_rememberWith_43 ?_
    refine xput (C := RX4) (T := TX4) (N := 4) (ci := 4) hx hb hts hi_X4 tyX4 tyX4_ok nmX4 hown hK hP (wC_D hdj) hS 234 g0_234 rfl 3 (by decide) lk_35 rfl (by decide +kernel) (Nat.le_of_ble_eq_true rfl) s0_m2 dX4_rememberWith_44 (fun H locs hP hS => ?_)
    obtain ⟨X_2, eX_2⟩ : ∃ Z : St, Z = u3 X_1 14 0 2 ((X_1 14 0 2) + 1) := ⟨_, rfl⟩
    rw [← eX_2] at hP
    refine lv_aload_n hx hb dX4_rememberWith_47 rfl (lv_at hl 0 rfl) ?_
    refine lv_iconst (v := 0) hx hb dX4_rememberWith_48 (by decide) ?_
    refine callQ (As := [.int 0]) (rest := []) ⟨hx, hb, hml, hown, hts⟩ (c_X4_recall X_2 0) (cwV 1 hts gX4_rememberWith_X4_recall rfl rfl rfl (by decide +kernel) ⟨Nat.le_of_ble_eq_true rfl, Nat.le_of_ble_eq_true rfl⟩) hK hN hP 234 g0_234 rfl rfl hl.1 rfl (Nat.le_of_ble_eq_true rfl) dX4_rememberWith_49 ⟨Nat.zero_le _, Nat.zero_le _⟩ ?_
    by_cases c_49 : p_norec X_2 0
    · rw [p_rec_none c_49]
      refine W.eq (g2 := F0 m 52 ls [.null]) rfl ?_
      refine lv_astoreN (lv' := [(6, .null), (0, .ref (ad 234)), (1, .int k), (2, .ref (ad 0)), (3, .int s1), (4, .int t), (5, .int a)]) hx hb dX4_rememberWith_52 hl (by decide) rfl (fun ls hl => ?_)
      refine lv_aloadN hx hb dX4_rememberWith_54 (lv_at hl 0 rfl) ?_
      refine lv_ifnullN (tgt := 103) hx hb dX4_rememberWith_56 (by decide) ?_
      have hZ : X_2 = N_rem X k s1 t a := by
        have e2 : X_2 = m_num X := by
          rw [eX_2, eX_1]
          unfold m_num m_held
          first | rw [ci_t c_6] | rw [ci_f c_6]
        unfold N_rem
        rw [← e2, ci_t c_49]
      exact retWV hx hb hr hlocks (by rw [← hZ]; exact hP) hS dX4_rememberWith_103
    · rw [p_rec_some c_49]
      obtain ⟨z_49, ez_49, hz_49⟩ : ∃ z : Nat, z = (p_slot X_2 0).toNatClampNeg ∧ z < 12 := ⟨_, rfl, slot_lt _ _⟩
      rw [← ez_49]
      refine W.eq (g2 := F0 m 52 ls [.ref (ad (221 + z_49))]) rfl ?_
      refine lv_astore (lv' := [(6, .ref (ad (221 + z_49))), (0, .ref (ad 234)), (1, .int k), (2, .ref (ad 0)), (3, .int s1), (4, .int t), (5, .int a)]) hx hb dX4_rememberWith_52 hl (by decide) rfl (fun ls hl => ?_)
      refine lv_aload hx hb dX4_rememberWith_54 (lv_at hl 0 rfl) ?_
      refine lv_ifnull hx hb dX4_rememberWith_56 ?_
      refine lv_aload hx hb dX4_rememberWith_59 (lv_at hl 0 rfl) ?_
      refine xget (C := RX2) (T := TX2) (N := 6) (ci := 2) (w := .ref (ad (17 * (z_49 + 1)))) hx hb hts hi_X2 hown hK hP ((221 + z_49)) (gd hz_49) rfl 0 (by decide) lk_42 rfl dX4_rememberWith_61 ?_
      refine lv_aload_n hx hb dX4_rememberWith_64 rfl (lv_at hl 3 rfl) ?_
      refine callWV (As := [.ref (ad 0)]) (rest := []) ⟨hx, hb, hml, hown, hts⟩ (c_X0_copyFrom hdj X_2 ((z_49 + 1)) 0 (by omega) (by decide) (by omega)) (cwV 1 hts gX4_rememberWith_X0_copyFrom rfl rfl rfl (by decide +kernel) ⟨Nat.le_of_ble_eq_true rfl, Nat.le_of_ble_eq_true rfl⟩) hK hN hP (17 * (z_49 + 1) + 0) (gg_0 (show (z_49 + 1) < 13 by omega)) rfl rfl hl.1 rfl (Nat.le_of_ble_eq_true rfl) dX4_rememberWith_65 ⟨Nat.zero_le _, Nat.zero_le _⟩ hS (fun _ h9 => h9) (fun H locs hP hS => ?_)
      obtain ⟨X_3, eX_3⟩ : ∃ Z : St, Z = sg X_2 ((z_49 + 1)) (X_2 0) := ⟨_, rfl⟩
      rw [← eX_3] at hP
      refine lv_aload hx hb dX4_rememberWith_68 (lv_at hl 0 rfl) ?_
      refine lv_aload_n hx hb dX4_rememberWith_70 rfl (lv_at hl 1 rfl) ?_
      refine xget (C := RX4) (T := TX4) (N := 4) (ci := 4) (w := .int (X_3 14 0 2)) hx hb hts hi_X4 hown hK hP 234 g0_234 rfl 3 (by decide) lk_35 rfl dX4_rememberWith_71 ?_
      refine xput (C := RX2) (T := TX2) (N := 6) (ci := 2) hx hb hts hi_X2 tyX2 tyX2_ok nmX2 hown hK hP (wC_D hdj) hS ((221 + z_49)) (gd hz_49) rfl 1 (by decide) lk_52 rfl (by decide +kernel) (Nat.le_of_ble_eq_true rfl) (sd_0 hz_49) dX4_rememberWith_74 (fun H locs hP hS => ?_)
      obtain ⟨X_4, eX_4⟩ : ∃ Z : St, Z = u3 X_3 13 0 z_49 (X_3 14 0 2) := ⟨_, rfl⟩
      rw [← eX_4] at hP
      refine lv_aload hx hb dX4_rememberWith_77 (lv_at hl 0 rfl) ?_
      refine lv_iload_n hx hb dX4_rememberWith_79 rfl (lv_at hl 2 rfl) ?_
      refine xput (C := RX2) (T := TX2) (N := 6) (ci := 2) hx hb hts hi_X2 tyX2 tyX2_ok nmX2 hown hK hP (wC_D hdj) hS ((221 + z_49)) (gd hz_49) rfl 2 (by decide) lk_55 rfl (by decide +kernel) (Nat.le_of_ble_eq_true rfl) (sd_1 hz_49) dX4_rememberWith_80 (fun H locs hP hS => ?_)
      obtain ⟨X_5, eX_5⟩ : ∃ Z : St, Z = u3 X_4 13 1 z_49 k := ⟨_, rfl⟩
      rw [← eX_5] at hP
      refine lv_aload hx hb dX4_rememberWith_83 (lv_at hl 0 rfl) ?_
      refine lv_iload_n hx hb dX4_rememberWith_85 rfl (lv_at hl 4 rfl) ?_
      refine xput (C := RX2) (T := TX2) (N := 6) (ci := 2) hx hb hts hi_X2 tyX2 tyX2_ok nmX2 hown hK hP (wC_D hdj) hS ((221 + z_49)) (gd hz_49) rfl 3 (by decide) lk_58 rfl (by decide +kernel) (Nat.le_of_ble_eq_true rfl) (sd_2 hz_49) dX4_rememberWith_86 (fun H locs hP hS => ?_)
      obtain ⟨X_6, eX_6⟩ : ∃ Z : St, Z = u3 X_5 13 2 z_49 s1 := ⟨_, rfl⟩
      rw [← eX_6] at hP
      refine lv_aload hx hb dX4_rememberWith_89 (lv_at hl 0 rfl) ?_
      refine lv_iload hx hb dX4_rememberWith_91 (lv_at hl 5 rfl) ?_
      refine xput (C := RX2) (T := TX2) (N := 6) (ci := 2) hx hb hts hi_X2 tyX2 tyX2_ok nmX2 hown hK hP (wC_D hdj) hS ((221 + z_49)) (gd hz_49) rfl 4 (by decide) lk_61 rfl (by decide +kernel) (Nat.le_of_ble_eq_true rfl) (sd_3 hz_49) dX4_rememberWith_93 (fun H locs hP hS => ?_)
      obtain ⟨X_7, eX_7⟩ : ∃ Z : St, Z = u3 X_6 13 3 z_49 t := ⟨_, rfl⟩
      rw [← eX_7] at hP
      refine lv_aload hx hb dX4_rememberWith_96 (lv_at hl 0 rfl) ?_
      refine lv_iload hx hb dX4_rememberWith_98 (lv_at hl 6 rfl) ?_
      refine xput (C := RX2) (T := TX2) (N := 6) (ci := 2) hx hb hts hi_X2 tyX2 tyX2_ok nmX2 hown hK hP (wC_D hdj) hS ((221 + z_49)) (gd hz_49) rfl 5 (by decide) lk_64 rfl (by decide +kernel) (Nat.le_of_ble_eq_true rfl) (sd_4 hz_49) dX4_rememberWith_100 (fun H locs hP hS => ?_)
      obtain ⟨X_8, eX_8⟩ : ∃ Z : St, Z = u3 X_7 13 4 z_49 a := ⟨_, rfl⟩
      rw [← eX_8] at hP
      have hZ : X_8 = N_rem X k s1 t a := by
        have e2 : X_2 = m_num X := by
          rw [eX_2, eX_1]
          unfold m_num m_held
          first | rw [ci_t c_6] | rw [ci_f c_6]
        unfold N_rem
        rw [← e2, ci_f c_49, ← ez_49]
        subst eX_8 eX_7 eX_6 eX_5 eX_4 eX_3
        rfl
      exact retWV hx hb hr hlocks (by rw [← hZ]; exact hP) hS dX4_rememberWith_103
  · refine lv_aload_n hx hb dX4_rememberWith_9 rfl (lv_at hl 0 rfl) ?_
    refine lv_dup hx hb dX4_rememberWith_10 rfl ?_
    refine xget (C := RX4) (T := TX4) (N := 4) (ci := 4) (w := .int (X 14 0 1)) hx hb hts hi_X4 hown hK hP 234 g0_234 rfl 2 (by decide) lk_18 rfl dX4_rememberWith_11 ?_
    refine lv_iconst (v := 1) hx hb dX4_rememberWith_14 (by decide) ?_
    refine lv_iadd hx hb dX4_rememberWith_15 ?_
    refine xput (C := RX4) (T := TX4) (N := 4) (ci := 4) hx hb hts hi_X4 tyX4 tyX4_ok nmX4 hown hK hP (wC_D hdj) hS 234 g0_234 rfl 2 (by decide) lk_18 rfl (by decide +kernel) (Nat.le_of_ble_eq_true rfl) s0_m1 dX4_rememberWith_16 (fun H locs hP hS => ?_)
    obtain ⟨X_9, eX_9⟩ : ∃ Z : St, Z = u3 X 14 0 1 ((X 14 0 1) + 1) := ⟨_, rfl⟩
    rw [← eX_9] at hP
    refine lv_goto (tgt := 37) hx hb dX4_rememberWith_19 (by decide) ?_
    refine lv_aload_n hx hb dX4_rememberWith_37 rfl (lv_at hl 0 rfl) ?_
    refine lv_dup hx hb dX4_rememberWith_38 rfl ?_
    refine xget (C := RX4) (T := TX4) (N := 4) (ci := 4) (w := .int (X_9 14 0 2)) hx hb hts hi_X4 hown hK hP 234 g0_234 rfl 3 (by decide) lk_35 rfl dX4_rememberWith_39 ?_
    refine lv_iconst (v := 1) hx hb dX4_rememberWith_42 (by decide) ?_
    refine lv_iadd hx hb dX4_rememberWith_43 ?_
    refine xput (C := RX4) (T := TX4) (N := 4) (ci := 4) hx hb hts hi_X4 tyX4 tyX4_ok nmX4 hown hK hP (wC_D hdj) hS 234 g0_234 rfl 3 (by decide) lk_35 rfl (by decide +kernel) (Nat.le_of_ble_eq_true rfl) s0_m2 dX4_rememberWith_44 (fun H locs hP hS => ?_)
    obtain ⟨X_10, eX_10⟩ : ∃ Z : St, Z = u3 X_9 14 0 2 ((X_9 14 0 2) + 1) := ⟨_, rfl⟩
    rw [← eX_10] at hP
    refine lv_aload_n hx hb dX4_rememberWith_47 rfl (lv_at hl 0 rfl) ?_
    refine lv_iconst (v := 0) hx hb dX4_rememberWith_48 (by decide) ?_
    refine callQ (As := [.int 0]) (rest := []) ⟨hx, hb, hml, hown, hts⟩ (c_X4_recall X_10 0) (cwV 1 hts gX4_rememberWith_X4_recall rfl rfl rfl (by decide +kernel) ⟨Nat.le_of_ble_eq_true rfl, Nat.le_of_ble_eq_true rfl⟩) hK hN hP 234 g0_234 rfl rfl hl.1 rfl (Nat.le_of_ble_eq_true rfl) dX4_rememberWith_49 ⟨Nat.zero_le _, Nat.zero_le _⟩ ?_
    by_cases c_49 : p_norec X_10 0
    · rw [p_rec_none c_49]
      refine W.eq (g2 := F0 m 52 ls [.null]) rfl ?_
      refine lv_astoreN (lv' := [(6, .null), (0, .ref (ad 234)), (1, .int k), (2, .ref (ad 0)), (3, .int s1), (4, .int t), (5, .int a)]) hx hb dX4_rememberWith_52 hl (by decide) rfl (fun ls hl => ?_)
      refine lv_aloadN hx hb dX4_rememberWith_54 (lv_at hl 0 rfl) ?_
      refine lv_ifnullN (tgt := 103) hx hb dX4_rememberWith_56 (by decide) ?_
      have hZ : X_10 = N_rem X k s1 t a := by
        have e2 : X_10 = m_num X := by
          rw [eX_10, eX_9]
          unfold m_num m_held
          first | rw [ci_t c_6] | rw [ci_f c_6]
        unfold N_rem
        rw [← e2, ci_t c_49]
      exact retWV hx hb hr hlocks (by rw [← hZ]; exact hP) hS dX4_rememberWith_103
    · rw [p_rec_some c_49]
      obtain ⟨z_49, ez_49, hz_49⟩ : ∃ z : Nat, z = (p_slot X_10 0).toNatClampNeg ∧ z < 12 := ⟨_, rfl, slot_lt _ _⟩
      rw [← ez_49]
      refine W.eq (g2 := F0 m 52 ls [.ref (ad (221 + z_49))]) rfl ?_
      refine lv_astore (lv' := [(6, .ref (ad (221 + z_49))), (0, .ref (ad 234)), (1, .int k), (2, .ref (ad 0)), (3, .int s1), (4, .int t), (5, .int a)]) hx hb dX4_rememberWith_52 hl (by decide) rfl (fun ls hl => ?_)
      refine lv_aload hx hb dX4_rememberWith_54 (lv_at hl 0 rfl) ?_
      refine lv_ifnull hx hb dX4_rememberWith_56 ?_
      refine lv_aload hx hb dX4_rememberWith_59 (lv_at hl 0 rfl) ?_
      refine xget (C := RX2) (T := TX2) (N := 6) (ci := 2) (w := .ref (ad (17 * (z_49 + 1)))) hx hb hts hi_X2 hown hK hP ((221 + z_49)) (gd hz_49) rfl 0 (by decide) lk_42 rfl dX4_rememberWith_61 ?_
      refine lv_aload_n hx hb dX4_rememberWith_64 rfl (lv_at hl 3 rfl) ?_
      refine callWV (As := [.ref (ad 0)]) (rest := []) ⟨hx, hb, hml, hown, hts⟩ (c_X0_copyFrom hdj X_10 ((z_49 + 1)) 0 (by omega) (by decide) (by omega)) (cwV 1 hts gX4_rememberWith_X0_copyFrom rfl rfl rfl (by decide +kernel) ⟨Nat.le_of_ble_eq_true rfl, Nat.le_of_ble_eq_true rfl⟩) hK hN hP (17 * (z_49 + 1) + 0) (gg_0 (show (z_49 + 1) < 13 by omega)) rfl rfl hl.1 rfl (Nat.le_of_ble_eq_true rfl) dX4_rememberWith_65 ⟨Nat.zero_le _, Nat.zero_le _⟩ hS (fun _ h9 => h9) (fun H locs hP hS => ?_)
      obtain ⟨X_11, eX_11⟩ : ∃ Z : St, Z = sg X_10 ((z_49 + 1)) (X_10 0) := ⟨_, rfl⟩
      rw [← eX_11] at hP
      refine lv_aload hx hb dX4_rememberWith_68 (lv_at hl 0 rfl) ?_
      refine lv_aload_n hx hb dX4_rememberWith_70 rfl (lv_at hl 1 rfl) ?_
      refine xget (C := RX4) (T := TX4) (N := 4) (ci := 4) (w := .int (X_11 14 0 2)) hx hb hts hi_X4 hown hK hP 234 g0_234 rfl 3 (by decide) lk_35 rfl dX4_rememberWith_71 ?_
      refine xput (C := RX2) (T := TX2) (N := 6) (ci := 2) hx hb hts hi_X2 tyX2 tyX2_ok nmX2 hown hK hP (wC_D hdj) hS ((221 + z_49)) (gd hz_49) rfl 1 (by decide) lk_52 rfl (by decide +kernel) (Nat.le_of_ble_eq_true rfl) (sd_0 hz_49) dX4_rememberWith_74 (fun H locs hP hS => ?_)
      obtain ⟨X_12, eX_12⟩ : ∃ Z : St, Z = u3 X_11 13 0 z_49 (X_11 14 0 2) := ⟨_, rfl⟩
      rw [← eX_12] at hP
      refine lv_aload hx hb dX4_rememberWith_77 (lv_at hl 0 rfl) ?_
      refine lv_iload_n hx hb dX4_rememberWith_79 rfl (lv_at hl 2 rfl) ?_
      refine xput (C := RX2) (T := TX2) (N := 6) (ci := 2) hx hb hts hi_X2 tyX2 tyX2_ok nmX2 hown hK hP (wC_D hdj) hS ((221 + z_49)) (gd hz_49) rfl 2 (by decide) lk_55 rfl (by decide +kernel) (Nat.le_of_ble_eq_true rfl) (sd_1 hz_49) dX4_rememberWith_80 (fun H locs hP hS => ?_)
      obtain ⟨X_13, eX_13⟩ : ∃ Z : St, Z = u3 X_12 13 1 z_49 k := ⟨_, rfl⟩
      rw [← eX_13] at hP
      refine lv_aload hx hb dX4_rememberWith_83 (lv_at hl 0 rfl) ?_
      refine lv_iload_n hx hb dX4_rememberWith_85 rfl (lv_at hl 4 rfl) ?_
      refine xput (C := RX2) (T := TX2) (N := 6) (ci := 2) hx hb hts hi_X2 tyX2 tyX2_ok nmX2 hown hK hP (wC_D hdj) hS ((221 + z_49)) (gd hz_49) rfl 3 (by decide) lk_58 rfl (by decide +kernel) (Nat.le_of_ble_eq_true rfl) (sd_2 hz_49) dX4_rememberWith_86 (fun H locs hP hS => ?_)
      obtain ⟨X_14, eX_14⟩ : ∃ Z : St, Z = u3 X_13 13 2 z_49 s1 := ⟨_, rfl⟩
      rw [← eX_14] at hP
      refine lv_aload hx hb dX4_rememberWith_89 (lv_at hl 0 rfl) ?_
      refine lv_iload hx hb dX4_rememberWith_91 (lv_at hl 5 rfl) ?_
      refine xput (C := RX2) (T := TX2) (N := 6) (ci := 2) hx hb hts hi_X2 tyX2 tyX2_ok nmX2 hown hK hP (wC_D hdj) hS ((221 + z_49)) (gd hz_49) rfl 4 (by decide) lk_61 rfl (by decide +kernel) (Nat.le_of_ble_eq_true rfl) (sd_3 hz_49) dX4_rememberWith_93 (fun H locs hP hS => ?_)
      obtain ⟨X_15, eX_15⟩ : ∃ Z : St, Z = u3 X_14 13 3 z_49 t := ⟨_, rfl⟩
      rw [← eX_15] at hP
      refine lv_aload hx hb dX4_rememberWith_96 (lv_at hl 0 rfl) ?_
      refine lv_iload hx hb dX4_rememberWith_98 (lv_at hl 6 rfl) ?_
      refine xput (C := RX2) (T := TX2) (N := 6) (ci := 2) hx hb hts hi_X2 tyX2 tyX2_ok nmX2 hown hK hP (wC_D hdj) hS ((221 + z_49)) (gd hz_49) rfl 5 (by decide) lk_64 rfl (by decide +kernel) (Nat.le_of_ble_eq_true rfl) (sd_4 hz_49) dX4_rememberWith_100 (fun H locs hP hS => ?_)
      obtain ⟨X_16, eX_16⟩ : ∃ Z : St, Z = u3 X_15 13 4 z_49 a := ⟨_, rfl⟩
      rw [← eX_16] at hP
      have hZ : X_16 = N_rem X k s1 t a := by
        have e2 : X_10 = m_num X := by
          rw [eX_10, eX_9]
          unfold m_num m_held
          first | rw [ci_t c_6] | rw [ci_f c_6]
        unfold N_rem
        rw [← e2, ci_f c_49, ← ez_49]
        subst eX_16 eX_15 eX_14 eX_13 eX_12 eX_11
        rfl
      exact retWV hx hb hr hlocks (by rw [← hZ]; exact hP) hS dX4_rememberWith_103
set_option maxHeartbeats 4000000 in
set_option maxRecDepth 100000 in
theorem c_X4_remember {l : Launch} {D : va_G} {cI cR : ClassId} {ad : Nat → Nat} (hdj : Dj 236 ad) (X : St) (k : Int32) : WoV l D cI cR (Aw 236 ad) (wC cI cR ad X) (wC cI cR ad (N_rem X k (-9) (-9) 0)) yX4_remember wsX4_remember ({ frames := 4, cells := 0, slots := 0, locals := 128 } : Room) [.ref (ad 234), .int k, .ref (ad 0)] := by
  refine OfW (cc := cX4_remember) (maxL := 3) (ret := none) (by decide +kernel) rfl (Nat.le_of_ble_eq_true rfl) (fun p e s m below meth c hx hb hr hts hown hlocks hml hnm hP hK hN ls hl => ?_)
  have hl : lv_has ls 3 [(0, .ref (ad 234)), (1, .int k), (2, .ref (ad 0))] := hl
  have hS : va_S (Aw 236 ad) s.heap s.heap [] := va_S.rf
  have hP : va_P D vwCl (wC cI cR ad X) s.heap := hP
  refine lv_aload_n hx hb dX4_remember_0 rfl (lv_at hl 0 rfl) ?_
  refine lv_iload_n hx hb dX4_remember_1 rfl (lv_at hl 1 rfl) ?_
  refine lv_aload_n hx hb dX4_remember_2 rfl (lv_at hl 2 rfl) ?_
  refine lv_bipush (v := (-9)) hx hb dX4_remember_3 (by decide) ?_
  refine lv_bipush (v := (-9)) hx hb dX4_remember_5 (by decide) ?_
  refine lv_iconst (v := 0) hx hb dX4_remember_7 (by decide) ?_
  refine callWV (As := [.int k, .ref (ad 0), .int ((-9)), .int ((-9)), .int 0]) (rest := []) ⟨hx, hb, hml, hown, hts⟩ (c_X4_rememberWith hdj X k ((-9)) ((-9)) 0) (cwV 5 hts gX4_remember_X4_rememberWith rfl rfl rfl (by decide +kernel) ⟨Nat.le_of_ble_eq_true rfl, Nat.le_of_ble_eq_true rfl⟩) hK hN hP 234 g0_234 rfl rfl hl.1 rfl (Nat.le_of_ble_eq_true rfl) dX4_remember_8 ⟨Nat.zero_le _, Nat.zero_le _⟩ hS (fun _ h9 => h9) (fun H locs hP hS => ?_)
  obtain ⟨X_1, eX_1⟩ : ∃ Z : St, Z = N_rem X k ((-9)) ((-9)) 0 := ⟨_, rfl⟩
  rw [← eX_1] at hP
  have hZ : X_1 = N_rem X k (-9) (-9) 0 := by
    subst eX_1
    try simp only [u3_sg, sg_sg, sg_g]
    try dsimp only
    all_goals (first | rfl | (rw [sg_self]) | (simp only [u3_sg, sg_sg, sg_g]; done) | (simp only [u3_sg, sg_sg, sg_g]; rfl))
  exact retWV hx hb hr hlocks (by rw [← hZ]; exact hP) hS dX4_remember_11
set_option maxHeartbeats 4000000 in
set_option maxRecDepth 100000 in
theorem c_X4_rememberCommitment {l : Launch} {D : va_G} {cI cR : ClassId} {ad : Nat → Nat} (hdj : Dj 236 ad) (X : St) (q : Int32) : WoV l D cI cR (Aw 236 ad) (wC cI cR ad X) (wC cI cR ad (N_rem X 5 q (-9) 0)) yX4_rememberCommitment wsX4_rememberCommitment ({ frames := 4, cells := 0, slots := 0, locals := 128 } : Room) [.ref (ad 234), .ref (ad 0), .int q] := by
  refine OfW (cc := cX4_rememberCommitment) (maxL := 3) (ret := none) (by decide +kernel) rfl (Nat.le_of_ble_eq_true rfl) (fun p e s m below meth c hx hb hr hts hown hlocks hml hnm hP hK hN ls hl => ?_)
  have hl : lv_has ls 3 [(0, .ref (ad 234)), (1, .ref (ad 0)), (2, .int q)] := hl
  have hS : va_S (Aw 236 ad) s.heap s.heap [] := va_S.rf
  have hP : va_P D vwCl (wC cI cR ad X) s.heap := hP
  refine lv_aload_n hx hb dX4_rememberCommitment_0 rfl (lv_at hl 0 rfl) ?_
  refine lv_iconst (v := 5) hx hb dX4_rememberCommitment_1 (by decide) ?_
  refine lv_aload_n hx hb dX4_rememberCommitment_2 rfl (lv_at hl 1 rfl) ?_
  refine lv_iload_n hx hb dX4_rememberCommitment_3 rfl (lv_at hl 2 rfl) ?_
  refine lv_bipush (v := (-9)) hx hb dX4_rememberCommitment_4 (by decide) ?_
  refine lv_iconst (v := 0) hx hb dX4_rememberCommitment_6 (by decide) ?_
  refine callWV (As := [.int 5, .ref (ad 0), .int q, .int ((-9)), .int 0]) (rest := []) ⟨hx, hb, hml, hown, hts⟩ (c_X4_rememberWith hdj X 5 q ((-9)) 0) (cwV 5 hts gX4_rememberCommitment_X4_rememberWith rfl rfl rfl (by decide +kernel) ⟨Nat.le_of_ble_eq_true rfl, Nat.le_of_ble_eq_true rfl⟩) hK hN hP 234 g0_234 rfl rfl hl.1 rfl (Nat.le_of_ble_eq_true rfl) dX4_rememberCommitment_7 ⟨Nat.zero_le _, Nat.zero_le _⟩ hS (fun _ h9 => h9) (fun H locs hP hS => ?_)
  obtain ⟨X_1, eX_1⟩ : ∃ Z : St, Z = N_rem X 5 q ((-9)) 0 := ⟨_, rfl⟩
  rw [← eX_1] at hP
  have hZ : X_1 = N_rem X 5 q (-9) 0 := by
    subst eX_1
    try simp only [u3_sg, sg_sg, sg_g]
    try dsimp only
    all_goals (first | rfl | (rw [sg_self]) | (simp only [u3_sg, sg_sg, sg_g]; done) | (simp only [u3_sg, sg_sg, sg_g]; rfl))
  exact retWV hx hb hr hlocks (by rw [← hZ]; exact hP) hS dX4_rememberCommitment_10
set_option maxHeartbeats 4000000 in
set_option maxRecDepth 100000 in
theorem c_X4_rememberVirement {l : Launch} {D : va_G} {cI cR : ClassId} {ad : Nat → Nat} (hdj : Dj 236 ad) (X : St) (f : Int32) (t : Int32) (a : Int32) : WoV l D cI cR (Aw 236 ad) (wC cI cR ad X) (wC cI cR ad (N_rem X 8 f t a)) yX4_rememberVirement wsX4_rememberVirement ({ frames := 4, cells := 0, slots := 0, locals := 128 } : Room) [.ref (ad 234), .ref (ad 0), .int f, .int t, .int a] := by
  refine OfW (cc := cX4_rememberVirement) (maxL := 5) (ret := none) (by decide +kernel) rfl (Nat.le_of_ble_eq_true rfl) (fun p e s m below meth c hx hb hr hts hown hlocks hml hnm hP hK hN ls hl => ?_)
  have hl : lv_has ls 5 [(0, .ref (ad 234)), (1, .ref (ad 0)), (2, .int f), (3, .int t), (4, .int a)] := hl
  have hS : va_S (Aw 236 ad) s.heap s.heap [] := va_S.rf
  have hP : va_P D vwCl (wC cI cR ad X) s.heap := hP
  refine lv_aload_n hx hb dX4_rememberVirement_0 rfl (lv_at hl 0 rfl) ?_
  refine lv_bipush (v := 8) hx hb dX4_rememberVirement_1 (by decide) ?_
  refine lv_aload_n hx hb dX4_rememberVirement_3 rfl (lv_at hl 1 rfl) ?_
  refine lv_iload_n hx hb dX4_rememberVirement_4 rfl (lv_at hl 2 rfl) ?_
  refine lv_iload_n hx hb dX4_rememberVirement_5 rfl (lv_at hl 3 rfl) ?_
  refine lv_iload hx hb dX4_rememberVirement_6 (lv_at hl 4 rfl) ?_
  refine callWV (As := [.int 8, .ref (ad 0), .int f, .int t, .int a]) (rest := []) ⟨hx, hb, hml, hown, hts⟩ (c_X4_rememberWith hdj X 8 f t a) (cwV 5 hts gX4_rememberVirement_X4_rememberWith rfl rfl rfl (by decide +kernel) ⟨Nat.le_of_ble_eq_true rfl, Nat.le_of_ble_eq_true rfl⟩) hK hN hP 234 g0_234 rfl rfl hl.1 rfl (Nat.le_of_ble_eq_true rfl) dX4_rememberVirement_8 ⟨Nat.zero_le _, Nat.zero_le _⟩ hS (fun _ h9 => h9) (fun H locs hP hS => ?_)
  obtain ⟨X_1, eX_1⟩ : ∃ Z : St, Z = N_rem X 8 f t a := ⟨_, rfl⟩
  rw [← eX_1] at hP
  have hZ : X_1 = N_rem X 8 f t a := by
    subst eX_1
    try simp only [u3_sg, sg_sg, sg_g]
    try dsimp only
    all_goals (first | rfl | (rw [sg_self]) | (simp only [u3_sg, sg_sg, sg_g]; done) | (simp only [u3_sg, sg_sg, sg_g]; rfl))
  exact retWV hx hb hr hlocks (by rw [← hZ]; exact hP) hS dX4_rememberVirement_11
set_option maxHeartbeats 4000000 in
set_option maxRecDepth 100000 in
theorem c_X4_rememberRevoking {l : Launch} {D : va_G} {cI cR : ClassId} {ad : Nat → Nat} (hdj : Dj 236 ad) (X : St) (q : Int32) : WoV l D cI cR (Aw 236 ad) (wC cI cR ad X) (wC cI cR ad (N_rem X 10 q (-9) 0)) yX4_rememberRevoking wsX4_rememberRevoking ({ frames := 4, cells := 0, slots := 0, locals := 128 } : Room) [.ref (ad 234), .ref (ad 0), .int q] := by
  refine OfW (cc := cX4_rememberRevoking) (maxL := 3) (ret := none) (by decide +kernel) rfl (Nat.le_of_ble_eq_true rfl) (fun p e s m below meth c hx hb hr hts hown hlocks hml hnm hP hK hN ls hl => ?_)
  have hl : lv_has ls 3 [(0, .ref (ad 234)), (1, .ref (ad 0)), (2, .int q)] := hl
  have hS : va_S (Aw 236 ad) s.heap s.heap [] := va_S.rf
  have hP : va_P D vwCl (wC cI cR ad X) s.heap := hP
  refine lv_aload_n hx hb dX4_rememberRevoking_0 rfl (lv_at hl 0 rfl) ?_
  refine lv_bipush (v := 10) hx hb dX4_rememberRevoking_1 (by decide) ?_
  refine lv_aload_n hx hb dX4_rememberRevoking_3 rfl (lv_at hl 1 rfl) ?_
  refine lv_iload_n hx hb dX4_rememberRevoking_4 rfl (lv_at hl 2 rfl) ?_
  refine lv_bipush (v := (-9)) hx hb dX4_rememberRevoking_5 (by decide) ?_
  refine lv_iconst (v := 0) hx hb dX4_rememberRevoking_7 (by decide) ?_
  refine callWV (As := [.int 10, .ref (ad 0), .int q, .int ((-9)), .int 0]) (rest := []) ⟨hx, hb, hml, hown, hts⟩ (c_X4_rememberWith hdj X 10 q ((-9)) 0) (cwV 5 hts gX4_rememberRevoking_X4_rememberWith rfl rfl rfl (by decide +kernel) ⟨Nat.le_of_ble_eq_true rfl, Nat.le_of_ble_eq_true rfl⟩) hK hN hP 234 g0_234 rfl rfl hl.1 rfl (Nat.le_of_ble_eq_true rfl) dX4_rememberRevoking_8 ⟨Nat.zero_le _, Nat.zero_le _⟩ hS (fun _ h9 => h9) (fun H locs hP hS => ?_)
  obtain ⟨X_1, eX_1⟩ : ∃ Z : St, Z = N_rem X 10 q ((-9)) 0 := ⟨_, rfl⟩
  rw [← eX_1] at hP
  have hZ : X_1 = N_rem X 10 q (-9) 0 := by
    subst eX_1
    try simp only [u3_sg, sg_sg, sg_g]
    try dsimp only
    all_goals (first | rfl | (rw [sg_self]) | (simp only [u3_sg, sg_sg, sg_g]; done) | (simp only [u3_sg, sg_sg, sg_g]; rfl))
  exact retWV hx hb hr hlocks (by rw [← hZ]; exact hP) hS dX4_rememberRevoking_11
set_option maxHeartbeats 4000000 in
set_option maxRecDepth 100000 in
theorem c_X4_forgetLatest {l : Launch} {D : va_G} {cI cR : ClassId} {ad : Nat → Nat} (hdj : Dj 236 ad) (X : St) : WoE l D cI cR (Aw 236 ad) (wC cI cR ad X) (wC cI cR ad (N_fl X)) yX4_forgetLatest wsX4_forgetLatest ({ frames := 0, cells := 0, slots := 0, locals := 0 } : Room) [.ref (ad 234)] (a_fl X) := by
  refine OfW (cc := cX4_forgetLatest) (maxL := 1) (ret := (some .int)) (by decide +kernel) rfl (Nat.le_of_ble_eq_true rfl) (fun p e s m below meth c hx hb hr hts hown hlocks hml hnm hP hK hN ls hl => ?_)
  have hl : lv_has ls 1 [(0, .ref (ad 234))] := hl
  have lk_18 := hts (.fieldLink RX4 18 "HeadBudgets$Memory" "held" "I") (by decide +kernel)
  have hi_X4 : ∀ w ∈ wsX40, w ∈ wsX4_forgetLatest := by decide +kernel
  have hS : va_S (Aw 236 ad) s.heap s.heap [] := va_S.rf
  have hP : va_P D vwCl (wC cI cR ad X) s.heap := hP
  refine lv_aload_n hx hb dX4_forgetLatest_0 rfl (lv_at hl 0 rfl) ?_
  refine xget (C := RX4) (T := TX4) (N := 4) (ci := 4) (w := .int (X 14 0 1)) hx hb hts hi_X4 hown hK hP 234 g0_234 rfl 2 (by decide) lk_18 rfl dX4_forgetLatest_1 ?_
  refine lv_if_le (tgt := 17) hx hb dX4_forgetLatest_4 (by decide) (fun c_4 => ?_) (fun c_4 => ?_)
  · refine lv_aload_n hx hb dX4_forgetLatest_17 rfl (lv_at hl 0 rfl) ?_
    refine xget (C := RX4) (T := TX4) (N := 4) (ci := 4) (w := .int (X 14 0 1)) hx hb hts hi_X4 hown hK hP 234 g0_234 rfl 2 (by decide) lk_18 rfl dX4_forgetLatest_18 ?_
    have hZ : X = N_fl X := by
      try simp only [u3_sg, sg_sg]
      try unfold N_fl
      try dsimp only
      all_goals repeat (first | rw [ci_t c_4] | rw [ci_f c_4])
      all_goals (first | rfl | (rw [sg_self]) | (simp only [u3_sg, sg_sg, sg_g, b2_s]; done) | (simp only [u3_sg, sg_sg, sg_g, b2_s]; rfl))
    have hV : X 14 0 1 = a_fl X := by
      try simp only [u3_sg, sg_sg]
      try unfold a_fl
      try dsimp only
      all_goals repeat (first | rw [ci_t c_4] | rw [ci_f c_4])
      all_goals (first | rfl | (rw [sg_self]) | (simp only [u3_sg, sg_sg, sg_g, b2_s]; done) | (simp only [u3_sg, sg_sg, sg_g, b2_s]; rfl))
    exact retWE hx hb hr hlocks (by rw [← hZ]; exact hP) hS dX4_forgetLatest_21 hV
  · refine lv_aload_n hx hb dX4_forgetLatest_7 rfl (lv_at hl 0 rfl) ?_
    refine lv_dup hx hb dX4_forgetLatest_8 rfl ?_
    refine xget (C := RX4) (T := TX4) (N := 4) (ci := 4) (w := .int (X 14 0 1)) hx hb hts hi_X4 hown hK hP 234 g0_234 rfl 2 (by decide) lk_18 rfl dX4_forgetLatest_9 ?_
    refine lv_iconst (v := 1) hx hb dX4_forgetLatest_12 (by decide) ?_
    refine lv_isub hx hb dX4_forgetLatest_13 ?_
    refine xput (C := RX4) (T := TX4) (N := 4) (ci := 4) hx hb hts hi_X4 tyX4 tyX4_ok nmX4 hown hK hP (wC_D hdj) hS 234 g0_234 rfl 2 (by decide) lk_18 rfl (by decide +kernel) (Nat.le_of_ble_eq_true rfl) s0_m1 dX4_forgetLatest_14 (fun H locs hP hS => ?_)
    obtain ⟨X_1, eX_1⟩ : ∃ Z : St, Z = u3 X 14 0 1 ((X 14 0 1) - 1) := ⟨_, rfl⟩
    rw [← eX_1] at hP
    refine lv_aload_n hx hb dX4_forgetLatest_17 rfl (lv_at hl 0 rfl) ?_
    refine xget (C := RX4) (T := TX4) (N := 4) (ci := 4) (w := .int (X_1 14 0 1)) hx hb hts hi_X4 hown hK hP 234 g0_234 rfl 2 (by decide) lk_18 rfl dX4_forgetLatest_18 ?_
    have hZ : X_1 = N_fl X := by
      subst eX_1
      try simp only [u3_sg, sg_sg]
      try unfold N_fl
      try dsimp only
      all_goals repeat (first | rw [ci_t c_4] | rw [ci_f c_4])
      all_goals (first | rfl | (rw [sg_self]) | (simp only [u3_sg, sg_sg, sg_g, b2_s]; done) | (simp only [u3_sg, sg_sg, sg_g, b2_s]; rfl))
    have hV : X_1 14 0 1 = a_fl X := by
      subst eX_1
      try simp only [u3_sg, sg_sg]
      try unfold a_fl
      try dsimp only
      all_goals repeat (first | rw [ci_t c_4] | rw [ci_f c_4])
      all_goals (first | rfl | (rw [sg_self]) | (simp only [u3_sg, sg_sg, sg_g, b2_s]; done) | (simp only [u3_sg, sg_sg, sg_g, b2_s]; rfl))
    exact retWE hx hb hr hlocks (by rw [← hZ]; exact hP) hS dX4_forgetLatest_21 hV
set_option maxHeartbeats 4000000 in
set_option maxRecDepth 100000 in
theorem c_X4_wasRevoked {l : Launch} {D : va_G} {cI cR : ClassId} {ad : Nat → Nat} (X : St) (q : Int32) : RoB l D cI cR (wC cI cR ad X) yX4_wasRevoked wsX4_wasRevoked ({ frames := 2, cells := 0, slots := 0, locals := 43 } : Room) [.ref (ad 234), .int q] (p_rev X q) := by
  refine OfW (cc := cX4_wasRevoked) (maxL := 4) (ret := (some .boolean)) (by decide +kernel) rfl (Nat.le_of_ble_eq_true rfl) (fun p e s m below meth c hx hb hr hts hown hlocks hml hnm hP hK hN ls hl => ?_)
  have hl : lv_has ls 4 [(0, .ref (ad 234)), (1, .int q)] := hl
  have lk_55 := hts (.fieldLink RX4 55 "HeadBudgets$Deed" "kind" "I") (by decide +kernel)
  have lk_58 := hts (.fieldLink RX4 58 "HeadBudgets$Deed" "subject" "I") (by decide +kernel)
  have hi_X2 : ∀ w ∈ wsX20, w ∈ wsX4_wasRevoked := by decide +kernel
  refine lv_iconst (v := 0) hx hb dX4_wasRevoked_0 (by decide) ?_
  refine lv_istore_n (lv' := [(2, .int 0), (0, .ref (ad 234)), (1, .int q)]) hx hb dX4_wasRevoked_1 rfl hl (by decide) rfl (fun ls hl => ?_)
  have hloop_2 : ∀ (n_2 : Nat) (k : Nat) (xk : Int32), k ≤ 12 → 12 < k + n_2 → xk = nI k → (∀ j : Nat, j < k → ¬ p_hit X q j) → ∀ ls : Array Slot, lv_has ls 4 [(0, .ref (ad 234)), (1, .int q), (2, .int xk)] → W p l e ({ frames := 2, cells := 0, slots := 0, locals := 43 } : Room) s m ([.ref (ad 234), .int q]).toArray below meth c s.heap [] 0 0 (MQ below (vp_Si (fun r => (r = 1 ∧ (p_rev X q)) ∨ (r = 0 ∧ ¬ (p_rev X q)))) ([.ref (ad 234), .int q]).toArray s 0 0 (fun _ => False)) (F0 m 2 ls []) := by
    intro n_2
    induction n_2 with
    | zero =>
      intro k xk hk hn ek ea ls hl
      exfalso; omega
    | succ n_2 ih_2 =>
      intro k xk hk hn ek ea ls hl
      refine lv_iload_n hx hb dX4_wasRevoked_2 rfl (lv_at hl 2 rfl) ?_
      refine lv_bipush (v := 12) hx hb dX4_wasRevoked_3 (by decide) ?_
      refine lv_icmp_ge (tgt := 43) hx hb dX4_wasRevoked_5 (by decide) (fun c_5 => ?_) (fun c_5 => ?_)
      · have hk2 : k = 12 := nI_ge12 hk (by rw [← ek]; exact c_5)
        subst hk2
        refine lv_iconst (v := 0) hx hb dX4_wasRevoked_43 (by decide) ?_
        exact retB0 hx hb hr hlocks dX4_wasRevoked_44 (fun z => z.elim (fun i z => ea i z.1 z.2))
      · have hlt : k < 12 := nI_lt12 (by omega) (by rw [← ek]; exact c_5)
        refine lv_aload_n hx hb dX4_wasRevoked_8 rfl (lv_at hl 0 rfl) ?_
        refine lv_iload_n hx hb dX4_wasRevoked_9 rfl (lv_at hl 2 rfl) ?_
        refine callQ (As := [.int xk]) (rest := []) ⟨hx, hb, hml, hown, hts⟩ (c_X4_recall X xk) (cwV 1 hts gX4_wasRevoked_X4_recall rfl rfl rfl (by decide +kernel) ⟨Nat.le_of_ble_eq_true rfl, Nat.le_of_ble_eq_true rfl⟩) hK hN hP 234 g0_234 rfl rfl hl.1 rfl (Nat.le_of_ble_eq_true rfl) dX4_wasRevoked_10 ⟨Nat.zero_le _, Nat.zero_le _⟩ ?_
        by_cases c_10 : p_norec X xk
        · rw [p_rec_none c_10]
          refine W.eq (g2 := F0 m 13 ls [.null]) rfl ?_
          refine lv_astore_nN (lv' := [(3, .null), (0, .ref (ad 234)), (1, .int q), (2, .int xk)]) hx hb dX4_wasRevoked_13 rfl hl (by decide) rfl (fun ls hl => ?_)
          refine lv_aload_nN hx hb dX4_wasRevoked_14 rfl (lv_at hl 0 rfl) ?_
          refine lv_ifnullN (tgt := 37) hx hb dX4_wasRevoked_15 (by decide) ?_
          refine lv_iinc (v := xk + 1) (lv' := [(2, .int (xk + 1)), (3, .null), (0, .ref (ad 234)), (1, .int q)]) hx hb dX4_wasRevoked_37 hl (k := 3) rfl rfl (by decide) rfl (fun ls hl => ?_)
          refine lv_goto (tgt := 2) hx hb dX4_wasRevoked_40 (by decide) ?_
          exact ih_2  (k + 1) _ (by omega) (by omega) (by rw [ek]; exact nI_1 k) (lt_s (p := fun j => ¬ p_hit X q j) ea (by unfold p_hit; rw [← ek]; first | exact fun z => z.1 c_10 | (rw [← ez_10]; first | exact fun z => c_24 z.2.1 | exact fun z => c_32 z.2.2))) _ (lv_sub hl [2, 3, 0] rfl)
        · rw [p_rec_some c_10]
          obtain ⟨z_10, ez_10, hz_10⟩ : ∃ z : Nat, z = (p_slot X xk).toNatClampNeg ∧ z < 12 := ⟨_, rfl, slot_lt _ _⟩
          rw [← ez_10]
          refine W.eq (g2 := F0 m 13 ls [.ref (ad (221 + z_10))]) rfl ?_
          refine lv_astore_n (lv' := [(3, .ref (ad (221 + z_10))), (0, .ref (ad 234)), (1, .int q), (2, .int xk)]) hx hb dX4_wasRevoked_13 rfl hl (by decide) rfl (fun ls hl => ?_)
          refine lv_aload_n hx hb dX4_wasRevoked_14 rfl (lv_at hl 0 rfl) ?_
          refine lv_ifnull hx hb dX4_wasRevoked_15 ?_
          refine lv_aload_n hx hb dX4_wasRevoked_18 rfl (lv_at hl 0 rfl) ?_
          refine xget (C := RX2) (T := TX2) (N := 6) (ci := 2) (w := .int (X 13 1 z_10)) hx hb hts hi_X2 hown hK hP ((221 + z_10)) (gd hz_10) rfl 2 (by decide) lk_55 rfl dX4_wasRevoked_19 ?_
          refine lv_bipush (v := 10) hx hb dX4_wasRevoked_22 (by decide) ?_
          refine lv_icmp_ne (tgt := 37) hx hb dX4_wasRevoked_24 (by decide) (fun c_24 => ?_) (fun c_24 => ?_)
          · refine lv_iinc (v := xk + 1) (lv' := [(2, .int (xk + 1)), (3, .ref (ad (221 + z_10))), (0, .ref (ad 234)), (1, .int q)]) hx hb dX4_wasRevoked_37 hl (k := 3) rfl rfl (by decide) rfl (fun ls hl => ?_)
            refine lv_goto (tgt := 2) hx hb dX4_wasRevoked_40 (by decide) ?_
            exact ih_2  (k + 1) _ (by omega) (by omega) (by rw [ek]; exact nI_1 k) (lt_s (p := fun j => ¬ p_hit X q j) ea (by unfold p_hit; rw [← ek]; first | exact fun z => z.1 c_10 | (rw [← ez_10]; first | exact fun z => c_24 z.2.1 | exact fun z => c_32 z.2.2))) _ (lv_sub hl [2, 3, 0] rfl)
          · refine lv_aload_n hx hb dX4_wasRevoked_27 rfl (lv_at hl 0 rfl) ?_
            refine xget (C := RX2) (T := TX2) (N := 6) (ci := 2) (w := .int (X 13 2 z_10)) hx hb hts hi_X2 hown hK hP ((221 + z_10)) (gd hz_10) rfl 3 (by decide) lk_58 rfl dX4_wasRevoked_28 ?_
            refine lv_iload_n hx hb dX4_wasRevoked_31 rfl (lv_at hl 2 rfl) ?_
            refine lv_icmp_ne (tgt := 37) hx hb dX4_wasRevoked_32 (by decide) (fun c_32 => ?_) (fun c_32 => ?_)
            · refine lv_iinc (v := xk + 1) (lv' := [(2, .int (xk + 1)), (3, .ref (ad (221 + z_10))), (0, .ref (ad 234)), (1, .int q)]) hx hb dX4_wasRevoked_37 hl (k := 3) rfl rfl (by decide) rfl (fun ls hl => ?_)
              refine lv_goto (tgt := 2) hx hb dX4_wasRevoked_40 (by decide) ?_
              exact ih_2  (k + 1) _ (by omega) (by omega) (by rw [ek]; exact nI_1 k) (lt_s (p := fun j => ¬ p_hit X q j) ea (by unfold p_hit; rw [← ek]; first | exact fun z => z.1 c_10 | (rw [← ez_10]; first | exact fun z => c_24 z.2.1 | exact fun z => c_32 z.2.2))) _ (lv_sub hl [2, 3, 0] rfl)
            · refine lv_iconst (v := 1) hx hb dX4_wasRevoked_35 (by decide) ?_
              exact retB1 hx hb hr hlocks dX4_wasRevoked_36 ⟨k, hlt, by unfold p_hit; rw [← ek, ← ez_10]; exact ⟨c_10, c_24, c_32⟩⟩
  exact hloop_2  13 0 0 (by omega) (by omega) rfl (fun j hj => absurd hj (Nat.not_lt_zero j)) _ (lv_sub hl [1, 2, 0] rfl)
