set_option maxHeartbeats 4000000 in
set_option maxRecDepth 100000 in
theorem c_X5_make {l : Launch} {D : va_G} {cI cR : ClassId} {ad : Nat → Nat} (hdj : Dj 236 ad) (X : St) (a : Int32) (k : Int32) : WoE l D cI cR (Aw 236 ad) (wC cI cR ad X) (wC cI cR ad (opX X (g_make (X 0) a k) 0 (-9) (-9) 0 (n_make (X 0) a k))) yX5_make wsX5_make ({ frames := 5, cells := 0, slots := 0, locals := 150 } : Room) [.ref (ad 233), .int a, .int k] (opV (g_make (X 0) a k) (a_add (X 0))) := by
  refine OfW (cc := cX5_make) (maxL := 4) (ret := (some .int)) (by decide +kernel) rfl (Nat.le_of_ble_eq_true rfl) (fun p e s m below meth c hx hb hr hts hown hlocks hml hnm hP hK hN ls hl => ?_)
  have hl : lv_has ls 4 [(0, .ref (ad 233)), (1, .int a), (2, .int k)] := hl
  have lk_10 := hts (.fieldLink RX5 10 "HeadBudgets" "now" "LHeadBudgets$Books;") (by decide +kernel)
  have lk_23 := hts (.fieldLink RX5 23 "HeadBudgets$Books" "heads" "LHeadBudgets$Heads;") (by decide +kernel)
  have lk_37 := hts (.fieldLink RX5 37 "HeadBudgets$Heads" "depth" "[I") (by decide +kernel)
  have lk_41 := hts (.fieldLink RX5 41 "HeadBudgets$Heads" "made" "I") (by decide +kernel)
  have lk_19 := hts (.fieldLink RX5 19 "HeadBudgets" "memory" "LHeadBudgets$Memory;") (by decide +kernel)
  have hi_X0 : ∀ w ∈ wsX00, w ∈ wsX5_make := by decide +kernel
  have hi_X3 : ∀ w ∈ wsX30, w ∈ wsX5_make := by decide +kernel
  have hi_X5 : ∀ w ∈ wsX50, w ∈ wsX5_make := by decide +kernel
  have hS : va_S (Aw 236 ad) s.heap s.heap [] := va_S.rf
  have hP : va_P D vwCl (wC cI cR ad X) s.heap := hP
  refine lv_aload_n hx hb dX5_make_0 rfl (lv_at hl 0 rfl) ?_
  refine xget (C := RX5) (T := TX5) (N := 2) (ci := 5) (w := .ref (ad 0)) hx hb hts hi_X5 hown hK hP 233 g0_233 rfl 0 (by decide) lk_10 rfl dX5_make_1 ?_
  refine xget (C := RX0) (T := TX0) (N := 6) (ci := 0) (w := .ref (ad 1)) hx hb hts hi_X0 hown hK hP 0 g0_0 rfl 0 (by decide) lk_23 rfl dX5_make_4 ?_
  refine lv_astore_n (lv' := [(3, .ref (ad 1)), (0, .ref (ad 233)), (1, .int a), (2, .int k)]) hx hb dX5_make_7 rfl hl (by decide) rfl (fun ls hl => ?_)
  refine lv_aload_n hx hb dX5_make_8 rfl (lv_at hl 0 rfl) ?_
  refine lv_iload_n hx hb dX5_make_9 rfl (lv_at hl 2 rfl) ?_
  refine callB (As := [.int a]) (rest := []) ⟨hx, hb, hml, hown, hts⟩ (c_X3_has X a) (cwV 1 hts gX5_make_X3_has rfl rfl rfl (by decide +kernel) ⟨Nat.le_of_ble_eq_true rfl, Nat.le_of_ble_eq_true rfl⟩) hK hN hP 1 g0_1 rfl rfl hl.1 rfl (Nat.le_of_ble_eq_true rfl) dX5_make_10 ⟨Nat.zero_le _, Nat.zero_le _⟩ (fun c_10 => ?_) (fun c_10 => ?_)
  · refine lv_if_eq (tgt := 26) hx hb dX5_make_13 (by decide) (fun h9 => absurd h9 (by decide)) (fun _ => ?_)
    refine lv_iload_n hx hb dX5_make_16 rfl (lv_at hl 3 rfl) ?_
    refine lv_if_lt (tgt := 26) hx hb dX5_make_17 (by decide) (fun c_17 => ?_) (fun c_17 => ?_)
    · refine lv_iconst (v := (-1)) hx hb dX5_make_26 (by decide) ?_
      have hg : g_make (X 0) a k = (-1) := by unfold g_make; repeat (first | rw [ci_t c_10] | rw [ci_f c_10] | rw [ci_t c_17] | rw [ci_f c_17])
      exact retWE hx hb hr hlocks (by rw [opX_e hg (by decide)]; exact hP) hS dX5_make_27 (opV_e hg (by decide))
    · refine lv_iload_n hx hb dX5_make_20 rfl (lv_at hl 3 rfl) ?_
      refine lv_bipush (v := 9) hx hb dX5_make_21 (by decide) ?_
      refine lv_icmp_le (tgt := 28) hx hb dX5_make_23 (by decide) (fun c_23 => ?_) (fun c_23 => ?_)
      · refine lv_aload_n hx hb dX5_make_28 rfl (lv_at hl 0 rfl) ?_
        refine xget (C := RX3) (T := TX3) (N := 11) (ci := 3) (w := .ref (ad 3)) hx hb hts hi_X3 hown hK hP 1 g0_1 rfl 1 (by decide) lk_37 rfl dX5_make_29 ?_
        refine lv_iload_n hx hb dX5_make_32 rfl (lv_at hl 2 rfl) ?_
        refine xald (x := qv (X 0) 9 a) hx hb hK hP 3 g0_3 (in20h c_10) rfl dX5_make_33 ?_
        refine lv_iconst (v := 4) hx hb dX5_make_34 (by decide) ?_
        refine lv_icmp_lt (tgt := 41) hx hb dX5_make_35 (by decide) (fun c_35 => ?_) (fun c_35 => ?_)
        · refine lv_aload_n hx hb dX5_make_41 rfl (lv_at hl 0 rfl) ?_
          refine xget (C := RX3) (T := TX3) (N := 11) (ci := 3) (w := .int (X 0 14 1)) hx hb hts hi_X3 hown hK hP 1 g0_1 rfl 10 (by decide) lk_41 rfl dX5_make_42 ?_
          refine lv_bipush (v := 20) hx hb dX5_make_45 (by decide) ?_
          refine lv_icmp_lt (tgt := 53) hx hb dX5_make_47 (by decide) (fun c_47 => ?_) (fun c_47 => ?_)
          · refine lv_aload_n hx hb dX5_make_53 rfl (lv_at hl 1 rfl) ?_
            refine xget (C := RX5) (T := TX5) (N := 2) (ci := 5) (w := .ref (ad 234)) hx hb hts hi_X5 hown hK hP 233 g0_233 rfl 1 (by decide) lk_19 rfl dX5_make_54 ?_
            refine lv_iconst (v := 0) hx hb dX5_make_57 (by decide) ?_
            refine lv_aload_n hx hb dX5_make_58 rfl (lv_at hl 1 rfl) ?_
            refine xget (C := RX5) (T := TX5) (N := 2) (ci := 5) (w := .ref (ad 0)) hx hb hts hi_X5 hown hK hP 233 g0_233 rfl 0 (by decide) lk_10 rfl dX5_make_59 ?_
            refine callWV (As := [.int 0, .ref (ad 0)]) (rest := []) ⟨hx, hb, hml, hown, hts⟩ (c_X4_remember hdj X 0) (cwV 2 hts gX5_make_X4_remember rfl rfl rfl (by decide +kernel) ⟨Nat.le_of_ble_eq_true rfl, Nat.le_of_ble_eq_true rfl⟩) hK hN hP 234 g0_234 rfl rfl hl.1 rfl (Nat.le_of_ble_eq_true rfl) dX5_make_62 ⟨Nat.zero_le _, Nat.zero_le _⟩ hS (fun _ h9 => h9) (fun H locs hP hS => ?_)
            obtain ⟨X_1, eX_1⟩ : ∃ Z : St, Z = N_rem X 0 (-9) (-9) 0 := ⟨_, rfl⟩
            rw [← eX_1] at hP
            refine lv_aload_n hx hb dX5_make_65 rfl (lv_at hl 0 rfl) ?_
            refine lv_iload_n hx hb dX5_make_66 rfl (lv_at hl 2 rfl) ?_
            refine lv_iload_n hx hb dX5_make_67 rfl (lv_at hl 3 rfl) ?_
            refine callWE (As := [.int a, .int k]) (rest := []) ⟨hx, hb, hml, hown, hts⟩ (c_X3_add hdj X_1 a k) (cwV 2 hts gX5_make_X3_add rfl rfl rfl (by decide +kernel) ⟨Nat.le_of_ble_eq_true rfl, Nat.le_of_ble_eq_true rfl⟩) hK hN hP 1 g0_1 rfl rfl hl.1 rfl (Nat.le_of_ble_eq_true rfl) dX5_make_68 ⟨Nat.zero_le _, Nat.zero_le _⟩ hS (fun _ h9 => h9) (fun H locs hP hS _ _ => ?_)
            obtain ⟨X_2, eX_2⟩ : ∃ Z : St, Z = sg X_1 0 (b_add (X_1 0) a k) := ⟨_, rfl⟩
            rw [← eX_2] at hP
            have hg : g_make (X 0) a k = 0 := by unfold g_make; repeat (first | rw [ci_t c_10] | rw [ci_f c_10] | rw [ci_t c_17] | rw [ci_f c_17] | rw [ci_t c_23] | rw [ci_f c_23] | rw [ci_t c_35] | rw [ci_f c_35] | rw [ci_t c_47] | rw [ci_f c_47])
            have hZ : X_2 = sg (N_rem X 0 (-9) (-9) 0) 0 (n_make (X 0) a k) := by
              subst eX_2 eX_1
              try simp only [u3_sg, sg_sg, sg_g, N_rem_0]
              try unfold n_make
              try dsimp only
              all_goals repeat (first | rw [ci_t c_10] | rw [ci_f c_10] | rw [ci_t c_17] | rw [ci_f c_17] | rw [ci_t c_23] | rw [ci_f c_23] | rw [ci_t c_35] | rw [ci_f c_35] | rw [ci_t c_47] | rw [ci_f c_47])
              all_goals (first | rfl | (rw [sg_self]) | (simp only [u3_sg, sg_sg, sg_g, N_rem_0]; done) | (simp only [u3_sg, sg_sg, sg_g, N_rem_0]; rfl))
            have hV : a_add (X_1 0) = a_add (X 0) := by
              subst eX_2 eX_1
              try simp only [u3_sg, sg_sg, sg_g, N_rem_0]
              try dsimp only
              all_goals repeat (first | rw [ci_t c_10] | rw [ci_f c_10] | rw [ci_t c_17] | rw [ci_f c_17] | rw [ci_t c_23] | rw [ci_f c_23] | rw [ci_t c_35] | rw [ci_f c_35] | rw [ci_t c_47] | rw [ci_f c_47])
              all_goals (first | rfl | (rw [sg_self]) | (simp only [u3_sg, sg_sg, sg_g, N_rem_0]; done) | (simp only [u3_sg, sg_sg, sg_g, N_rem_0]; rfl))
            exact retWE hx hb hr hlocks (by rw [opX_0 hg, ← hZ]; exact hP) hS dX5_make_71 (by rw [opV_0 hg]; first | done | exact hV)
          · refine lv_bipush (v := (-3)) hx hb dX5_make_50 (by decide) ?_
            have hg : g_make (X 0) a k = (-3) := by unfold g_make; repeat (first | rw [ci_t c_10] | rw [ci_f c_10] | rw [ci_t c_17] | rw [ci_f c_17] | rw [ci_t c_23] | rw [ci_f c_23] | rw [ci_t c_35] | rw [ci_f c_35] | rw [ci_t c_47] | rw [ci_f c_47])
            exact retWE hx hb hr hlocks (by rw [opX_e hg (by decide)]; exact hP) hS dX5_make_52 (opV_e hg (by decide))
        · refine lv_bipush (v := (-2)) hx hb dX5_make_38 (by decide) ?_
          have hg : g_make (X 0) a k = (-2) := by unfold g_make; repeat (first | rw [ci_t c_10] | rw [ci_f c_10] | rw [ci_t c_17] | rw [ci_f c_17] | rw [ci_t c_23] | rw [ci_f c_23] | rw [ci_t c_35] | rw [ci_f c_35])
          exact retWE hx hb hr hlocks (by rw [opX_e hg (by decide)]; exact hP) hS dX5_make_40 (opV_e hg (by decide))
      · refine lv_iconst (v := (-1)) hx hb dX5_make_26 (by decide) ?_
        have hg : g_make (X 0) a k = (-1) := by unfold g_make; repeat (first | rw [ci_t c_10] | rw [ci_f c_10] | rw [ci_t c_17] | rw [ci_f c_17] | rw [ci_t c_23] | rw [ci_f c_23])
        exact retWE hx hb hr hlocks (by rw [opX_e hg (by decide)]; exact hP) hS dX5_make_27 (opV_e hg (by decide))
  · refine lv_if_eq (tgt := 26) hx hb dX5_make_13 (by decide) (fun _ => ?_) (fun h9 => absurd (by decide) h9)
    refine lv_iconst (v := (-1)) hx hb dX5_make_26 (by decide) ?_
    have hg : g_make (X 0) a k = (-1) := by unfold g_make; repeat (first | rw [ci_t c_10] | rw [ci_f c_10])
    exact retWE hx hb hr hlocks (by rw [opX_e hg (by decide)]; exact hP) hS dX5_make_27 (opV_e hg (by decide))
set_option maxHeartbeats 4000000 in
set_option maxRecDepth 100000 in
theorem c_X5_allot {l : Launch} {D : va_G} {cI cR : ClassId} {ad : Nat → Nat} (hdj : Dj 236 ad) (X : St) (h : Int32) (a : Int32) : WoE l D cI cR (Aw 236 ad) (wC cI cR ad X) (wC cI cR ad (opX X (g_allot (X 0) h a) 1 (-9) (-9) 0 (n_allot (X 0) h a))) yX5_allot wsX5_allot ({ frames := 5, cells := 0, slots := 0, locals := 150 } : Room) [.ref (ad 233), .int h, .int a] (opV (g_allot (X 0) h a) (qv (n_allot (X 0) h a) 3 h)) := by
  refine OfW (cc := cX5_allot) (maxL := 4) (ret := (some .int)) (by decide +kernel) rfl (Nat.le_of_ble_eq_true rfl) (fun p e s m below meth c hx hb hr hts hown hlocks hml hnm hP hK hN ls hl => ?_)
  have hl : lv_has ls 4 [(0, .ref (ad 233)), (1, .int h), (2, .int a)] := hl
  have lk_10 := hts (.fieldLink RX5 10 "HeadBudgets" "now" "LHeadBudgets$Books;") (by decide +kernel)
  have lk_23 := hts (.fieldLink RX5 23 "HeadBudgets$Books" "heads" "LHeadBudgets$Heads;") (by decide +kernel)
  have lk_52 := hts (.fieldLink RX5 52 "HeadBudgets$Heads" "allotment" "[I") (by decide +kernel)
  have lk_19 := hts (.fieldLink RX5 19 "HeadBudgets" "memory" "LHeadBudgets$Memory;") (by decide +kernel)
  have lk_56 := hts (.fieldLink RX5 56 "HeadBudgets$Heads" "allotted" "[I") (by decide +kernel)
  have hi_X0 : ∀ w ∈ wsX00, w ∈ wsX5_allot := by decide +kernel
  have hi_X3 : ∀ w ∈ wsX30, w ∈ wsX5_allot := by decide +kernel
  have hi_X5 : ∀ w ∈ wsX50, w ∈ wsX5_allot := by decide +kernel
  have hS : va_S (Aw 236 ad) s.heap s.heap [] := va_S.rf
  have hP : va_P D vwCl (wC cI cR ad X) s.heap := hP
  refine lv_aload_n hx hb dX5_allot_0 rfl (lv_at hl 0 rfl) ?_
  refine xget (C := RX5) (T := TX5) (N := 2) (ci := 5) (w := .ref (ad 0)) hx hb hts hi_X5 hown hK hP 233 g0_233 rfl 0 (by decide) lk_10 rfl dX5_allot_1 ?_
  refine xget (C := RX0) (T := TX0) (N := 6) (ci := 0) (w := .ref (ad 1)) hx hb hts hi_X0 hown hK hP 0 g0_0 rfl 0 (by decide) lk_23 rfl dX5_allot_4 ?_
  refine lv_astore_n (lv' := [(3, .ref (ad 1)), (0, .ref (ad 233)), (1, .int h), (2, .int a)]) hx hb dX5_allot_7 rfl hl (by decide) rfl (fun ls hl => ?_)
  refine lv_aload_n hx hb dX5_allot_8 rfl (lv_at hl 0 rfl) ?_
  refine lv_iload_n hx hb dX5_allot_9 rfl (lv_at hl 2 rfl) ?_
  refine callB (As := [.int h]) (rest := []) ⟨hx, hb, hml, hown, hts⟩ (c_X3_has X h) (cwV 1 hts gX5_allot_X3_has rfl rfl rfl (by decide +kernel) ⟨Nat.le_of_ble_eq_true rfl, Nat.le_of_ble_eq_true rfl⟩) hK hN hP 1 g0_1 rfl rfl hl.1 rfl (Nat.le_of_ble_eq_true rfl) dX5_allot_10 ⟨Nat.zero_le _, Nat.zero_le _⟩ (fun c_10 => ?_) (fun c_10 => ?_)
  · refine lv_if_eq (tgt := 23) hx hb dX5_allot_13 (by decide) (fun h9 => absurd h9 (by decide)) (fun _ => ?_)
    refine lv_iload_n hx hb dX5_allot_16 rfl (lv_at hl 3 rfl) ?_
    refine callSB (As := [.int a]) (rest := []) ⟨hx, hb, hml, hown, hts⟩ (c_X5_isAmount a) (va_cwS 1 hts gX5_allot_X5_isAmount rfl rfl rfl (by decide +kernel) ⟨Nat.le_of_ble_eq_true rfl, Nat.le_of_ble_eq_true rfl⟩) hK hN rfl hl.1 rfl (Nat.le_of_ble_eq_true rfl) dX5_allot_17 ⟨Nat.zero_le _, Nat.zero_le _⟩ (fun c_17 => ?_) (fun c_17 => ?_)
    · refine lv_if_ne (tgt := 25) hx hb dX5_allot_20 (by decide) (fun _ => ?_) (fun h9 => absurd h9 (by decide))
      refine lv_aload_n hx hb dX5_allot_25 rfl (lv_at hl 0 rfl) ?_
      refine xget (C := RX3) (T := TX3) (N := 11) (ci := 3) (w := .ref (ad 6)) hx hb hts hi_X3 hown hK hP 1 g0_1 rfl 4 (by decide) lk_52 rfl dX5_allot_26 ?_
      refine lv_iload_n hx hb dX5_allot_29 rfl (lv_at hl 2 rfl) ?_
      refine xald (x := qv (X 0) 3 h) hx hb hK hP 6 g0_6 (in20h c_10) rfl dX5_allot_30 ?_
      refine lv_ldc (v := 1000000) hx hb hown (hts (.constant RX5 55 1000000) (by decide +kernel)) dX5_allot_31 ?_
      refine lv_iload_n hx hb dX5_allot_33 rfl (lv_at hl 3 rfl) ?_
      refine lv_isub hx hb dX5_allot_34 ?_
      refine lv_icmp_le (tgt := 41) hx hb dX5_allot_35 (by decide) (fun c_35 => ?_) (fun c_35 => ?_)
      · refine lv_aload_n hx hb dX5_allot_41 rfl (lv_at hl 1 rfl) ?_
        refine xget (C := RX5) (T := TX5) (N := 2) (ci := 5) (w := .ref (ad 234)) hx hb hts hi_X5 hown hK hP 233 g0_233 rfl 1 (by decide) lk_19 rfl dX5_allot_42 ?_
        refine lv_iconst (v := 1) hx hb dX5_allot_45 (by decide) ?_
        refine lv_aload_n hx hb dX5_allot_46 rfl (lv_at hl 1 rfl) ?_
        refine xget (C := RX5) (T := TX5) (N := 2) (ci := 5) (w := .ref (ad 0)) hx hb hts hi_X5 hown hK hP 233 g0_233 rfl 0 (by decide) lk_10 rfl dX5_allot_47 ?_
        refine callWV (As := [.int 1, .ref (ad 0)]) (rest := []) ⟨hx, hb, hml, hown, hts⟩ (c_X4_remember hdj X 1) (cwV 2 hts gX5_allot_X4_remember rfl rfl rfl (by decide +kernel) ⟨Nat.le_of_ble_eq_true rfl, Nat.le_of_ble_eq_true rfl⟩) hK hN hP 234 g0_234 rfl rfl hl.1 rfl (Nat.le_of_ble_eq_true rfl) dX5_allot_50 ⟨Nat.zero_le _, Nat.zero_le _⟩ hS (fun _ h9 => h9) (fun H locs hP hS => ?_)
        obtain ⟨X_1, eX_1⟩ : ∃ Z : St, Z = N_rem X 1 (-9) (-9) 0 := ⟨_, rfl⟩
        rw [← eX_1] at hP
        refine lv_aload_n hx hb dX5_allot_53 rfl (lv_at hl 0 rfl) ?_
        refine xget (C := RX3) (T := TX3) (N := 11) (ci := 3) (w := .ref (ad 6)) hx hb hts hi_X3 hown hK hP 1 g0_1 rfl 4 (by decide) lk_52 rfl dX5_allot_54 ?_
        refine lv_iload_n hx hb dX5_allot_57 rfl (lv_at hl 2 rfl) ?_
        refine lv_dup2_11 hx hb dX5_allot_58 rfl rfl ?_
        refine xald (x := qv (X_1 0) 3 h) hx hb hK hP 6 g0_6 (in20h c_10) rfl dX5_allot_59 ?_
        refine lv_iload_n hx hb dX5_allot_60 rfl (lv_at hl 3 rfl) ?_
        refine lv_iadd hx hb dX5_allot_61 ?_
        refine xast hx hb hK hP (wC_D hdj) hS 6 g0_6 (in20h c_10) s0_3 dX5_allot_62 (fun H locs hP hS => ?_)
        obtain ⟨X_2, eX_2⟩ : ∃ Z : St, Z = u3 X_1 0 3 h.toNatClampNeg ((qv (X_1 0) 3 h) + a) := ⟨_, rfl⟩
        rw [← eX_2] at hP
        refine lv_aload_n hx hb dX5_allot_63 rfl (lv_at hl 0 rfl) ?_
        refine xget (C := RX3) (T := TX3) (N := 11) (ci := 3) (w := .ref (ad 9)) hx hb hts hi_X3 hown hK hP 1 g0_1 rfl 7 (by decide) lk_56 rfl dX5_allot_64 ?_
        refine lv_iload_n hx hb dX5_allot_67 rfl (lv_at hl 2 rfl) ?_
        refine lv_dup2_11 hx hb dX5_allot_68 rfl rfl ?_
        refine xald (x := qv (X_2 0) 6 h) hx hb hK hP 9 g0_9 (in20h c_10) rfl dX5_allot_69 ?_
        refine lv_iload_n hx hb dX5_allot_70 rfl (lv_at hl 3 rfl) ?_
        refine lv_iadd hx hb dX5_allot_71 ?_
        refine xast hx hb hK hP (wC_D hdj) hS 9 g0_9 (in20h c_10) s0_6 dX5_allot_72 (fun H locs hP hS => ?_)
        obtain ⟨X_3, eX_3⟩ : ∃ Z : St, Z = u3 X_2 0 6 h.toNatClampNeg ((qv (X_2 0) 6 h) + a) := ⟨_, rfl⟩
        rw [← eX_3] at hP
        refine lv_aload_n hx hb dX5_allot_73 rfl (lv_at hl 0 rfl) ?_
        refine xget (C := RX3) (T := TX3) (N := 11) (ci := 3) (w := .ref (ad 6)) hx hb hts hi_X3 hown hK hP 1 g0_1 rfl 4 (by decide) lk_52 rfl dX5_allot_74 ?_
        refine lv_iload_n hx hb dX5_allot_77 rfl (lv_at hl 2 rfl) ?_
        refine xald (x := qv (X_3 0) 3 h) hx hb hK hP 6 g0_6 (in20h c_10) rfl dX5_allot_78 ?_
        have hg : g_allot (X 0) h a = 0 := by unfold g_allot; repeat (first | rw [ci_t c_10] | rw [ci_f c_10] | rw [ci_t c_17] | rw [ci_f c_17] | rw [ci_t c_35] | rw [ci_f c_35])
        have hZ : X_3 = sg (N_rem X 1 (-9) (-9) 0) 0 (n_allot (X 0) h a) := by
          subst eX_3 eX_2 eX_1
          try simp only [u3_sg, sg_sg, sg_g, N_rem_0]
          try unfold n_allot
          try dsimp only
          all_goals repeat (first | rw [ci_t c_10] | rw [ci_f c_10] | rw [ci_t c_17] | rw [ci_f c_17] | rw [ci_t c_35] | rw [ci_f c_35])
          all_goals (first | rfl | (rw [sg_self]) | (simp only [u3_sg, sg_sg, sg_g, N_rem_0]; done) | (simp only [u3_sg, sg_sg, sg_g, N_rem_0]; rfl))
        have hV : qv (X_3 0) 3 h = qv (n_allot (X 0) h a) 3 h := by
          subst eX_3 eX_2 eX_1
          try simp only [u3_sg, sg_sg, sg_g, N_rem_0]
          try unfold n_allot
          try dsimp only
          all_goals repeat (first | rw [ci_t c_10] | rw [ci_f c_10] | rw [ci_t c_17] | rw [ci_f c_17] | rw [ci_t c_35] | rw [ci_f c_35])
          all_goals (first | rfl | (rw [sg_self]) | (simp only [u3_sg, sg_sg, sg_g, N_rem_0]; done) | (simp only [u3_sg, sg_sg, sg_g, N_rem_0]; rfl))
        exact retWE hx hb hr hlocks (by rw [opX_0 hg, ← hZ]; exact hP) hS dX5_allot_79 (by rw [opV_0 hg]; first | done | exact hV)
      · refine lv_bipush (v := (-3)) hx hb dX5_allot_38 (by decide) ?_
        have hg : g_allot (X 0) h a = (-3) := by unfold g_allot; repeat (first | rw [ci_t c_10] | rw [ci_f c_10] | rw [ci_t c_17] | rw [ci_f c_17] | rw [ci_t c_35] | rw [ci_f c_35])
        exact retWE hx hb hr hlocks (by rw [opX_e hg (by decide)]; exact hP) hS dX5_allot_40 (opV_e hg (by decide))
    · refine lv_if_ne (tgt := 25) hx hb dX5_allot_20 (by decide) (fun h9 => absurd (by decide) h9) (fun _ => ?_)
      refine lv_iconst (v := (-1)) hx hb dX5_allot_23 (by decide) ?_
      have hg : g_allot (X 0) h a = (-1) := by unfold g_allot; repeat (first | rw [ci_t c_10] | rw [ci_f c_10] | rw [ci_t c_17] | rw [ci_f c_17])
      exact retWE hx hb hr hlocks (by rw [opX_e hg (by decide)]; exact hP) hS dX5_allot_24 (opV_e hg (by decide))
  · refine lv_if_eq (tgt := 23) hx hb dX5_allot_13 (by decide) (fun _ => ?_) (fun h9 => absurd (by decide) h9)
    refine lv_iconst (v := (-1)) hx hb dX5_allot_23 (by decide) ?_
    have hg : g_allot (X 0) h a = (-1) := by unfold g_allot; repeat (first | rw [ci_t c_10] | rw [ci_f c_10])
    exact retWE hx hb hr hlocks (by rw [opX_e hg (by decide)]; exact hP) hS dX5_allot_24 (opV_e hg (by decide))
set_option maxHeartbeats 4000000 in
set_option maxRecDepth 100000 in
theorem c_X5_freeze {l : Launch} {D : va_G} {cI cR : ClassId} {ad : Nat → Nat} (hdj : Dj 236 ad) (X : St) (h : Int32) (x : Int32) : WoE l D cI cR (Aw 236 ad) (wC cI cR ad X) (wC cI cR ad (opX X (g_freeze (X 0) h x) 2 (-9) (-9) 0 (n_freeze (X 0) h x))) yX5_freeze wsX5_freeze ({ frames := 5, cells := 0, slots := 0, locals := 150 } : Room) [.ref (ad 233), .int h, .int x] (opV (g_freeze (X 0) h x) (p_cntb (n_freeze (X 0) h x) 20)) := by
  refine OfW (cc := cX5_freeze) (maxL := 4) (ret := (some .int)) (by decide +kernel) rfl (Nat.le_of_ble_eq_true rfl) (fun p e s m below meth c hx hb hr hts hown hlocks hml hnm hP hK hN ls hl => ?_)
  have hl : lv_has ls 4 [(0, .ref (ad 233)), (1, .int h), (2, .int x)] := hl
  have lk_10 := hts (.fieldLink RX5 10 "HeadBudgets" "now" "LHeadBudgets$Books;") (by decide +kernel)
  have lk_23 := hts (.fieldLink RX5 23 "HeadBudgets$Books" "heads" "LHeadBudgets$Heads;") (by decide +kernel)
  have lk_59 := hts (.fieldLink RX5 59 "HeadBudgets$Heads" "frozen" "[I") (by decide +kernel)
  have lk_19 := hts (.fieldLink RX5 19 "HeadBudgets" "memory" "LHeadBudgets$Memory;") (by decide +kernel)
  have hi_X0 : ∀ w ∈ wsX00, w ∈ wsX5_freeze := by decide +kernel
  have hi_X3 : ∀ w ∈ wsX30, w ∈ wsX5_freeze := by decide +kernel
  have hi_X5 : ∀ w ∈ wsX50, w ∈ wsX5_freeze := by decide +kernel
  have hS : va_S (Aw 236 ad) s.heap s.heap [] := va_S.rf
  have hP : va_P D vwCl (wC cI cR ad X) s.heap := hP
  refine lv_aload_n hx hb dX5_freeze_0 rfl (lv_at hl 0 rfl) ?_
  refine xget (C := RX5) (T := TX5) (N := 2) (ci := 5) (w := .ref (ad 0)) hx hb hts hi_X5 hown hK hP 233 g0_233 rfl 0 (by decide) lk_10 rfl dX5_freeze_1 ?_
  refine xget (C := RX0) (T := TX0) (N := 6) (ci := 0) (w := .ref (ad 1)) hx hb hts hi_X0 hown hK hP 0 g0_0 rfl 0 (by decide) lk_23 rfl dX5_freeze_4 ?_
  refine lv_astore_n (lv' := [(3, .ref (ad 1)), (0, .ref (ad 233)), (1, .int h), (2, .int x)]) hx hb dX5_freeze_7 rfl hl (by decide) rfl (fun ls hl => ?_)
  refine lv_aload_n hx hb dX5_freeze_8 rfl (lv_at hl 0 rfl) ?_
  refine lv_iload_n hx hb dX5_freeze_9 rfl (lv_at hl 2 rfl) ?_
  refine callB (As := [.int h]) (rest := []) ⟨hx, hb, hml, hown, hts⟩ (c_X3_has X h) (cwV 1 hts gX5_freeze_X3_has rfl rfl rfl (by decide +kernel) ⟨Nat.le_of_ble_eq_true rfl, Nat.le_of_ble_eq_true rfl⟩) hK hN hP 1 g0_1 rfl rfl hl.1 rfl (Nat.le_of_ble_eq_true rfl) dX5_freeze_10 ⟨Nat.zero_le _, Nat.zero_le _⟩ (fun c_10 => ?_) (fun c_10 => ?_)
  · refine lv_if_eq (tgt := 25) hx hb dX5_freeze_13 (by decide) (fun h9 => absurd h9 (by decide)) (fun _ => ?_)
    refine lv_iload_n hx hb dX5_freeze_16 rfl (lv_at hl 3 rfl) ?_
    refine lv_if_lt (tgt := 25) hx hb dX5_freeze_17 (by decide) (fun c_17 => ?_) (fun c_17 => ?_)
    · refine lv_iconst (v := (-1)) hx hb dX5_freeze_25 (by decide) ?_
      have hg : g_freeze (X 0) h x = (-1) := by unfold g_freeze; repeat (first | rw [ci_t c_10] | rw [ci_f c_10] | rw [ci_t c_17] | rw [ci_f c_17])
      exact retWE hx hb hr hlocks (by rw [opX_e hg (by decide)]; exact hP) hS dX5_freeze_26 (opV_e hg (by decide))
    · refine lv_iload_n hx hb dX5_freeze_20 rfl (lv_at hl 3 rfl) ?_
      refine lv_iconst (v := 1) hx hb dX5_freeze_21 (by decide) ?_
      refine lv_icmp_le (tgt := 27) hx hb dX5_freeze_22 (by decide) (fun c_22 => ?_) (fun c_22 => ?_)
      · refine lv_aload_n hx hb dX5_freeze_27 rfl (lv_at hl 0 rfl) ?_
        refine xget (C := RX3) (T := TX3) (N := 11) (ci := 3) (w := .ref (ad 5)) hx hb hts hi_X3 hown hK hP 1 g0_1 rfl 3 (by decide) lk_59 rfl dX5_freeze_28 ?_
        refine lv_iload_n hx hb dX5_freeze_31 rfl (lv_at hl 2 rfl) ?_
        refine xald (x := qv (X 0) 2 h) hx hb hK hP 5 g0_5 (in20h c_10) rfl dX5_freeze_32 ?_
        refine lv_iload_n hx hb dX5_freeze_33 rfl (lv_at hl 3 rfl) ?_
        refine lv_icmp_ne (tgt := 40) hx hb dX5_freeze_34 (by decide) (fun c_34 => ?_) (fun c_34 => ?_)
        · refine lv_aload_n hx hb dX5_freeze_40 rfl (lv_at hl 1 rfl) ?_
          refine xget (C := RX5) (T := TX5) (N := 2) (ci := 5) (w := .ref (ad 234)) hx hb hts hi_X5 hown hK hP 233 g0_233 rfl 1 (by decide) lk_19 rfl dX5_freeze_41 ?_
          refine lv_iconst (v := 2) hx hb dX5_freeze_44 (by decide) ?_
          refine lv_aload_n hx hb dX5_freeze_45 rfl (lv_at hl 1 rfl) ?_
          refine xget (C := RX5) (T := TX5) (N := 2) (ci := 5) (w := .ref (ad 0)) hx hb hts hi_X5 hown hK hP 233 g0_233 rfl 0 (by decide) lk_10 rfl dX5_freeze_46 ?_
          refine callWV (As := [.int 2, .ref (ad 0)]) (rest := []) ⟨hx, hb, hml, hown, hts⟩ (c_X4_remember hdj X 2) (cwV 2 hts gX5_freeze_X4_remember rfl rfl rfl (by decide +kernel) ⟨Nat.le_of_ble_eq_true rfl, Nat.le_of_ble_eq_true rfl⟩) hK hN hP 234 g0_234 rfl rfl hl.1 rfl (Nat.le_of_ble_eq_true rfl) dX5_freeze_49 ⟨Nat.zero_le _, Nat.zero_le _⟩ hS (fun _ h9 => h9) (fun H locs hP hS => ?_)
          obtain ⟨X_1, eX_1⟩ : ∃ Z : St, Z = N_rem X 2 (-9) (-9) 0 := ⟨_, rfl⟩
          rw [← eX_1] at hP
          refine lv_aload_n hx hb dX5_freeze_52 rfl (lv_at hl 0 rfl) ?_
          refine xget (C := RX3) (T := TX3) (N := 11) (ci := 3) (w := .ref (ad 5)) hx hb hts hi_X3 hown hK hP 1 g0_1 rfl 3 (by decide) lk_59 rfl dX5_freeze_53 ?_
          refine lv_iload_n hx hb dX5_freeze_56 rfl (lv_at hl 2 rfl) ?_
          refine lv_iload_n hx hb dX5_freeze_57 rfl (lv_at hl 3 rfl) ?_
          refine xast hx hb hK hP (wC_D hdj) hS 5 g0_5 (in20h c_10) s0_2 dX5_freeze_58 (fun H locs hP hS => ?_)
          obtain ⟨X_2, eX_2⟩ : ∃ Z : St, Z = u3 X_1 0 2 h.toNatClampNeg x := ⟨_, rfl⟩
          rw [← eX_2] at hP
          refine lv_aload_n hx hb dX5_freeze_59 rfl (lv_at hl 0 rfl) ?_
          refine callE (As := []) (rest := []) ⟨hx, hb, hml, hown, hts⟩ (c_X3_countBarred X_2) (cwV 0 hts gX5_freeze_X3_countBarred rfl rfl rfl (by decide +kernel) ⟨Nat.le_of_ble_eq_true rfl, Nat.le_of_ble_eq_true rfl⟩) hK hN hP 1 g0_1 rfl rfl hl.1 rfl (Nat.le_of_ble_eq_true rfl) dX5_freeze_60 ⟨Nat.zero_le _, Nat.zero_le _⟩ ?_
          have hg : g_freeze (X 0) h x = 0 := by unfold g_freeze; repeat (first | rw [ci_t c_10] | rw [ci_f c_10] | rw [ci_t c_17] | rw [ci_f c_17] | rw [ci_t c_22] | rw [ci_f c_22] | rw [ci_t c_34] | rw [ci_f c_34])
          have hZ : X_2 = sg (N_rem X 2 (-9) (-9) 0) 0 (n_freeze (X 0) h x) := by
            subst eX_2 eX_1
            try simp only [u3_sg, sg_sg, sg_g, N_rem_0]
            try unfold n_freeze
            try dsimp only
            all_goals repeat (first | rw [ci_t c_10] | rw [ci_f c_10] | rw [ci_t c_17] | rw [ci_f c_17] | rw [ci_t c_22] | rw [ci_f c_22] | rw [ci_t c_34] | rw [ci_f c_34])
            all_goals (first | rfl | (rw [sg_self]) | (simp only [u3_sg, sg_sg, sg_g, N_rem_0]; done) | (simp only [u3_sg, sg_sg, sg_g, N_rem_0]; rfl))
          have hV : p_cntb (X_2 0) 20 = p_cntb (n_freeze (X 0) h x) 20 := by
            subst eX_2 eX_1
            try simp only [u3_sg, sg_sg, sg_g, N_rem_0]
            try unfold n_freeze
            try dsimp only
            all_goals repeat (first | rw [ci_t c_10] | rw [ci_f c_10] | rw [ci_t c_17] | rw [ci_f c_17] | rw [ci_t c_22] | rw [ci_f c_22] | rw [ci_t c_34] | rw [ci_f c_34])
            all_goals (first | rfl | (rw [sg_self]) | (simp only [u3_sg, sg_sg, sg_g, N_rem_0]; done) | (simp only [u3_sg, sg_sg, sg_g, N_rem_0]; rfl))
          exact retWE hx hb hr hlocks (by rw [opX_0 hg, ← hZ]; exact hP) hS dX5_freeze_63 (by rw [opV_0 hg]; first | done | exact hV)
        · refine lv_bipush (v := (-2)) hx hb dX5_freeze_37 (by decide) ?_
          have hg : g_freeze (X 0) h x = (-2) := by unfold g_freeze; repeat (first | rw [ci_t c_10] | rw [ci_f c_10] | rw [ci_t c_17] | rw [ci_f c_17] | rw [ci_t c_22] | rw [ci_f c_22] | rw [ci_t c_34] | rw [ci_f c_34])
          exact retWE hx hb hr hlocks (by rw [opX_e hg (by decide)]; exact hP) hS dX5_freeze_39 (opV_e hg (by decide))
      · refine lv_iconst (v := (-1)) hx hb dX5_freeze_25 (by decide) ?_
        have hg : g_freeze (X 0) h x = (-1) := by unfold g_freeze; repeat (first | rw [ci_t c_10] | rw [ci_f c_10] | rw [ci_t c_17] | rw [ci_f c_17] | rw [ci_t c_22] | rw [ci_f c_22])
        exact retWE hx hb hr hlocks (by rw [opX_e hg (by decide)]; exact hP) hS dX5_freeze_26 (opV_e hg (by decide))
  · refine lv_if_eq (tgt := 25) hx hb dX5_freeze_13 (by decide) (fun _ => ?_) (fun h9 => absurd (by decide) h9)
    refine lv_iconst (v := (-1)) hx hb dX5_freeze_25 (by decide) ?_
    have hg : g_freeze (X 0) h x = (-1) := by unfold g_freeze; repeat (first | rw [ci_t c_10] | rw [ci_f c_10])
    exact retWE hx hb hr hlocks (by rw [opX_e hg (by decide)]; exact hP) hS dX5_freeze_26 (opV_e hg (by decide))
set_option maxHeartbeats 4000000 in
set_option maxRecDepth 100000 in
theorem c_X5_setShare {l : Launch} {D : va_G} {cI cR : ClassId} {ad : Nat → Nat} (hdj : Dj 236 ad) (X : St) (h : Int32) (x : Int32) : WoE l D cI cR (Aw 236 ad) (wC cI cR ad X) (wC cI cR ad (opX X (g_setShare (X 0) h x) 3 (-9) (-9) 0 (n_setShare (X 0) h x))) yX5_setShare wsX5_setShare ({ frames := 5, cells := 0, slots := 0, locals := 150 } : Room) [.ref (ad 233), .int h, .int x] (opV (g_setShare (X 0) h x) (qv (X 0) 8 h)) := by
  refine OfW (cc := cX5_setShare) (maxL := 5) (ret := (some .int)) (by decide +kernel) rfl (Nat.le_of_ble_eq_true rfl) (fun p e s m below meth c hx hb hr hts hown hlocks hml hnm hP hK hN ls hl => ?_)
  have hl : lv_has ls 5 [(0, .ref (ad 233)), (1, .int h), (2, .int x)] := hl
  have lk_10 := hts (.fieldLink RX5 10 "HeadBudgets" "now" "LHeadBudgets$Books;") (by decide +kernel)
  have lk_23 := hts (.fieldLink RX5 23 "HeadBudgets$Books" "heads" "LHeadBudgets$Heads;") (by decide +kernel)
  have lk_19 := hts (.fieldLink RX5 19 "HeadBudgets" "memory" "LHeadBudgets$Memory;") (by decide +kernel)
  have lk_69 := hts (.fieldLink RX5 69 "HeadBudgets$Heads" "share" "[I") (by decide +kernel)
  have hi_X0 : ∀ w ∈ wsX00, w ∈ wsX5_setShare := by decide +kernel
  have hi_X3 : ∀ w ∈ wsX30, w ∈ wsX5_setShare := by decide +kernel
  have hi_X5 : ∀ w ∈ wsX50, w ∈ wsX5_setShare := by decide +kernel
  have hS : va_S (Aw 236 ad) s.heap s.heap [] := va_S.rf
  have hP : va_P D vwCl (wC cI cR ad X) s.heap := hP
  refine lv_aload_n hx hb dX5_setShare_0 rfl (lv_at hl 0 rfl) ?_
  refine xget (C := RX5) (T := TX5) (N := 2) (ci := 5) (w := .ref (ad 0)) hx hb hts hi_X5 hown hK hP 233 g0_233 rfl 0 (by decide) lk_10 rfl dX5_setShare_1 ?_
  refine xget (C := RX0) (T := TX0) (N := 6) (ci := 0) (w := .ref (ad 1)) hx hb hts hi_X0 hown hK hP 0 g0_0 rfl 0 (by decide) lk_23 rfl dX5_setShare_4 ?_
  refine lv_astore_n (lv' := [(3, .ref (ad 1)), (0, .ref (ad 233)), (1, .int h), (2, .int x)]) hx hb dX5_setShare_7 rfl hl (by decide) rfl (fun ls hl => ?_)
  refine lv_aload_n hx hb dX5_setShare_8 rfl (lv_at hl 0 rfl) ?_
  refine lv_iload_n hx hb dX5_setShare_9 rfl (lv_at hl 2 rfl) ?_
  refine callB (As := [.int h]) (rest := []) ⟨hx, hb, hml, hown, hts⟩ (c_X3_has X h) (cwV 1 hts gX5_setShare_X3_has rfl rfl rfl (by decide +kernel) ⟨Nat.le_of_ble_eq_true rfl, Nat.le_of_ble_eq_true rfl⟩) hK hN hP 1 g0_1 rfl rfl hl.1 rfl (Nat.le_of_ble_eq_true rfl) dX5_setShare_10 ⟨Nat.zero_le _, Nat.zero_le _⟩ (fun c_10 => ?_) (fun c_10 => ?_)
  · refine lv_if_eq (tgt := 23) hx hb dX5_setShare_13 (by decide) (fun h9 => absurd h9 (by decide)) (fun _ => ?_)
    refine lv_iload_n hx hb dX5_setShare_16 rfl (lv_at hl 3 rfl) ?_
    refine callSB (As := [.int x]) (rest := []) ⟨hx, hb, hml, hown, hts⟩ (c_X5_isPercentage x) (va_cwS 1 hts gX5_setShare_X5_isPercentage rfl rfl rfl (by decide +kernel) ⟨Nat.le_of_ble_eq_true rfl, Nat.le_of_ble_eq_true rfl⟩) hK hN rfl hl.1 rfl (Nat.le_of_ble_eq_true rfl) dX5_setShare_17 ⟨Nat.zero_le _, Nat.zero_le _⟩ (fun c_17 => ?_) (fun c_17 => ?_)
    · refine lv_if_ne (tgt := 25) hx hb dX5_setShare_20 (by decide) (fun _ => ?_) (fun h9 => absurd h9 (by decide))
      refine lv_aload_n hx hb dX5_setShare_25 rfl (lv_at hl 1 rfl) ?_
      refine xget (C := RX5) (T := TX5) (N := 2) (ci := 5) (w := .ref (ad 234)) hx hb hts hi_X5 hown hK hP 233 g0_233 rfl 1 (by decide) lk_19 rfl dX5_setShare_26 ?_
      refine lv_iconst (v := 3) hx hb dX5_setShare_29 (by decide) ?_
      refine lv_aload_n hx hb dX5_setShare_30 rfl (lv_at hl 1 rfl) ?_
      refine xget (C := RX5) (T := TX5) (N := 2) (ci := 5) (w := .ref (ad 0)) hx hb hts hi_X5 hown hK hP 233 g0_233 rfl 0 (by decide) lk_10 rfl dX5_setShare_31 ?_
      refine callWV (As := [.int 3, .ref (ad 0)]) (rest := []) ⟨hx, hb, hml, hown, hts⟩ (c_X4_remember hdj X 3) (cwV 2 hts gX5_setShare_X4_remember rfl rfl rfl (by decide +kernel) ⟨Nat.le_of_ble_eq_true rfl, Nat.le_of_ble_eq_true rfl⟩) hK hN hP 234 g0_234 rfl rfl hl.1 rfl (Nat.le_of_ble_eq_true rfl) dX5_setShare_34 ⟨Nat.zero_le _, Nat.zero_le _⟩ hS (fun _ h9 => h9) (fun H locs hP hS => ?_)
      obtain ⟨X_1, eX_1⟩ : ∃ Z : St, Z = N_rem X 3 (-9) (-9) 0 := ⟨_, rfl⟩
      rw [← eX_1] at hP
      refine lv_aload_n hx hb dX5_setShare_37 rfl (lv_at hl 0 rfl) ?_
      refine xget (C := RX3) (T := TX3) (N := 11) (ci := 3) (w := .ref (ad 11)) hx hb hts hi_X3 hown hK hP 1 g0_1 rfl 9 (by decide) lk_69 rfl dX5_setShare_38 ?_
      refine lv_iload_n hx hb dX5_setShare_41 rfl (lv_at hl 2 rfl) ?_
      refine xald (x := qv (X_1 0) 8 h) hx hb hK hP 11 g0_11 (in20h c_10) rfl dX5_setShare_42 ?_
      refine lv_istore (lv' := [(4, .int (qv (X_1 0) 8 h)), (3, .ref (ad 1)), (0, .ref (ad 233)), (1, .int h), (2, .int x)]) hx hb dX5_setShare_43 hl (by decide) rfl (fun ls hl => ?_)
      refine lv_aload_n hx hb dX5_setShare_45 rfl (lv_at hl 1 rfl) ?_
      refine xget (C := RX3) (T := TX3) (N := 11) (ci := 3) (w := .ref (ad 11)) hx hb hts hi_X3 hown hK hP 1 g0_1 rfl 9 (by decide) lk_69 rfl dX5_setShare_46 ?_
      refine lv_iload_n hx hb dX5_setShare_49 rfl (lv_at hl 3 rfl) ?_
      refine lv_iload_n hx hb dX5_setShare_50 rfl (lv_at hl 4 rfl) ?_
      refine xast hx hb hK hP (wC_D hdj) hS 11 g0_11 (in20h c_10) s0_8 dX5_setShare_51 (fun H locs hP hS => ?_)
      obtain ⟨X_2, eX_2⟩ : ∃ Z : St, Z = u3 X_1 0 8 h.toNatClampNeg x := ⟨_, rfl⟩
      rw [← eX_2] at hP
      refine lv_iload hx hb dX5_setShare_52 (lv_at hl 0 rfl) ?_
      have hg : g_setShare (X 0) h x = 0 := by unfold g_setShare; repeat (first | rw [ci_t c_10] | rw [ci_f c_10] | rw [ci_t c_17] | rw [ci_f c_17])
      have hZ : X_2 = sg (N_rem X 3 (-9) (-9) 0) 0 (n_setShare (X 0) h x) := by
        subst eX_2 eX_1
        try simp only [u3_sg, sg_sg, sg_g, N_rem_0]
        try unfold n_setShare
        try dsimp only
        all_goals repeat (first | rw [ci_t c_10] | rw [ci_f c_10] | rw [ci_t c_17] | rw [ci_f c_17])
        all_goals (first | rfl | (rw [sg_self]) | (simp only [u3_sg, sg_sg, sg_g, N_rem_0]; done) | (simp only [u3_sg, sg_sg, sg_g, N_rem_0]; rfl))
      have hV : qv (X_1 0) 8 h = qv (X 0) 8 h := by
        subst eX_2 eX_1
        try simp only [u3_sg, sg_sg, sg_g, N_rem_0]
        try dsimp only
        all_goals repeat (first | rw [ci_t c_10] | rw [ci_f c_10] | rw [ci_t c_17] | rw [ci_f c_17])
        all_goals (first | rfl | (rw [sg_self]) | (simp only [u3_sg, sg_sg, sg_g, N_rem_0]; done) | (simp only [u3_sg, sg_sg, sg_g, N_rem_0]; rfl))
      exact retWE hx hb hr hlocks (by rw [opX_0 hg, ← hZ]; exact hP) hS dX5_setShare_54 (by rw [opV_0 hg]; first | done | exact hV)
    · refine lv_if_ne (tgt := 25) hx hb dX5_setShare_20 (by decide) (fun h9 => absurd (by decide) h9) (fun _ => ?_)
      refine lv_iconst (v := (-1)) hx hb dX5_setShare_23 (by decide) ?_
      have hg : g_setShare (X 0) h x = (-1) := by unfold g_setShare; repeat (first | rw [ci_t c_10] | rw [ci_f c_10] | rw [ci_t c_17] | rw [ci_f c_17])
      exact retWE hx hb hr hlocks (by rw [opX_e hg (by decide)]; exact hP) hS dX5_setShare_24 (opV_e hg (by decide))
  · refine lv_if_eq (tgt := 23) hx hb dX5_setShare_13 (by decide) (fun _ => ?_) (fun h9 => absurd (by decide) h9)
    refine lv_iconst (v := (-1)) hx hb dX5_setShare_23 (by decide) ?_
    have hg : g_setShare (X 0) h x = (-1) := by unfold g_setShare; repeat (first | rw [ci_t c_10] | rw [ci_f c_10])
    exact retWE hx hb hr hlocks (by rw [opX_e hg (by decide)]; exact hP) hS dX5_setShare_24 (opV_e hg (by decide))
set_option maxHeartbeats 4000000 in
set_option maxRecDepth 100000 in
theorem c_X5_setCarried {l : Launch} {D : va_G} {cI cR : ClassId} {ad : Nat → Nat} (hdj : Dj 236 ad) (X : St) (q : Int32) : WoE l D cI cR (Aw 236 ad) (wC cI cR ad X) (wC cI cR ad (opX X (g_setCarried q) 4 (-9) (-9) 0 (n_setCarried (X 0) q))) yX5_setCarried wsX5_setCarried ({ frames := 5, cells := 0, slots := 0, locals := 150 } : Room) [.ref (ad 233), .int q] (opV (g_setCarried q) ((X 0) 14 3)) := by
  refine OfW (cc := cX5_setCarried) (maxL := 3) (ret := (some .int)) (by decide +kernel) rfl (Nat.le_of_ble_eq_true rfl) (fun p e s m below meth c hx hb hr hts hown hlocks hml hnm hP hK hN ls hl => ?_)
  have hl : lv_has ls 3 [(0, .ref (ad 233)), (1, .int q)] := hl
  have lk_19 := hts (.fieldLink RX5 19 "HeadBudgets" "memory" "LHeadBudgets$Memory;") (by decide +kernel)
  have lk_10 := hts (.fieldLink RX5 10 "HeadBudgets" "now" "LHeadBudgets$Books;") (by decide +kernel)
  have lk_72 := hts (.fieldLink RX5 72 "HeadBudgets$Books" "carriedPart" "I") (by decide +kernel)
  have hi_X0 : ∀ w ∈ wsX00, w ∈ wsX5_setCarried := by decide +kernel
  have hi_X5 : ∀ w ∈ wsX50, w ∈ wsX5_setCarried := by decide +kernel
  have hS : va_S (Aw 236 ad) s.heap s.heap [] := va_S.rf
  have hP : va_P D vwCl (wC cI cR ad X) s.heap := hP
  refine lv_iload_n hx hb dX5_setCarried_0 rfl (lv_at hl 1 rfl) ?_
  refine callSB (As := [.int q]) (rest := []) ⟨hx, hb, hml, hown, hts⟩ (c_X5_isPercentage q) (va_cwS 1 hts gX5_setCarried_X5_isPercentage rfl rfl rfl (by decide +kernel) ⟨Nat.le_of_ble_eq_true rfl, Nat.le_of_ble_eq_true rfl⟩) hK hN rfl hl.1 rfl (Nat.le_of_ble_eq_true rfl) dX5_setCarried_1 ⟨Nat.zero_le _, Nat.zero_le _⟩ (fun c_1 => ?_) (fun c_1 => ?_)
  · refine lv_if_ne (tgt := 9) hx hb dX5_setCarried_4 (by decide) (fun _ => ?_) (fun h9 => absurd h9 (by decide))
    refine lv_aload_n hx hb dX5_setCarried_9 rfl (lv_at hl 0 rfl) ?_
    refine xget (C := RX5) (T := TX5) (N := 2) (ci := 5) (w := .ref (ad 234)) hx hb hts hi_X5 hown hK hP 233 g0_233 rfl 1 (by decide) lk_19 rfl dX5_setCarried_10 ?_
    refine lv_iconst (v := 4) hx hb dX5_setCarried_13 (by decide) ?_
    refine lv_aload_n hx hb dX5_setCarried_14 rfl (lv_at hl 0 rfl) ?_
    refine xget (C := RX5) (T := TX5) (N := 2) (ci := 5) (w := .ref (ad 0)) hx hb hts hi_X5 hown hK hP 233 g0_233 rfl 0 (by decide) lk_10 rfl dX5_setCarried_15 ?_
    refine callWV (As := [.int 4, .ref (ad 0)]) (rest := []) ⟨hx, hb, hml, hown, hts⟩ (c_X4_remember hdj X 4) (cwV 2 hts gX5_setCarried_X4_remember rfl rfl rfl (by decide +kernel) ⟨Nat.le_of_ble_eq_true rfl, Nat.le_of_ble_eq_true rfl⟩) hK hN hP 234 g0_234 rfl rfl hl.1 rfl (Nat.le_of_ble_eq_true rfl) dX5_setCarried_18 ⟨Nat.zero_le _, Nat.zero_le _⟩ hS (fun _ h9 => h9) (fun H locs hP hS => ?_)
    obtain ⟨X_1, eX_1⟩ : ∃ Z : St, Z = N_rem X 4 (-9) (-9) 0 := ⟨_, rfl⟩
    rw [← eX_1] at hP
    refine lv_aload_n hx hb dX5_setCarried_21 rfl (lv_at hl 0 rfl) ?_
    refine xget (C := RX5) (T := TX5) (N := 2) (ci := 5) (w := .ref (ad 0)) hx hb hts hi_X5 hown hK hP 233 g0_233 rfl 0 (by decide) lk_10 rfl dX5_setCarried_22 ?_
    refine xget (C := RX0) (T := TX0) (N := 6) (ci := 0) (w := .int (X_1 0 14 3)) hx hb hts hi_X0 hown hK hP 0 g0_0 rfl 3 (by decide) lk_72 rfl dX5_setCarried_25 ?_
    refine lv_istore_n (lv' := [(2, .int (X_1 0 14 3)), (0, .ref (ad 233)), (1, .int q)]) hx hb dX5_setCarried_28 rfl hl (by decide) rfl (fun ls hl => ?_)
    refine lv_aload_n hx hb dX5_setCarried_29 rfl (lv_at hl 1 rfl) ?_
    refine xget (C := RX5) (T := TX5) (N := 2) (ci := 5) (w := .ref (ad 0)) hx hb hts hi_X5 hown hK hP 233 g0_233 rfl 0 (by decide) lk_10 rfl dX5_setCarried_30 ?_
    refine lv_iload_n hx hb dX5_setCarried_33 rfl (lv_at hl 2 rfl) ?_
    refine xput (C := RX0) (T := TX0) (N := 6) (ci := 0) hx hb hts hi_X0 tyX0 tyX0_ok nmX0 hown hK hP (wC_D hdj) hS 0 g0_0 rfl 3 (by decide) lk_72 rfl (by decide +kernel) (Nat.le_of_ble_eq_true rfl) s0_carried dX5_setCarried_34 (fun H locs hP hS => ?_)
    obtain ⟨X_2, eX_2⟩ : ∃ Z : St, Z = u3 X_1 0 14 3 q := ⟨_, rfl⟩
    rw [← eX_2] at hP
    refine lv_iload_n hx hb dX5_setCarried_37 rfl (lv_at hl 0 rfl) ?_
    have hg : g_setCarried q = 0 := by unfold g_setCarried; repeat (first | rw [ci_t c_1] | rw [ci_f c_1])
    have hZ : X_2 = sg (N_rem X 4 (-9) (-9) 0) 0 (n_setCarried (X 0) q) := by
      subst eX_2 eX_1
      try simp only [u3_sg, sg_sg, sg_g, N_rem_0]
      try unfold n_setCarried
      try dsimp only
      all_goals repeat (first | rw [ci_t c_1] | rw [ci_f c_1])
      all_goals (first | rfl | (rw [sg_self]) | (simp only [u3_sg, sg_sg, sg_g, N_rem_0]; done) | (simp only [u3_sg, sg_sg, sg_g, N_rem_0]; rfl))
    have hV : X_1 0 14 3 = (X 0) 14 3 := by
      subst eX_2 eX_1
      try simp only [u3_sg, sg_sg, sg_g, N_rem_0]
      try dsimp only
      all_goals repeat (first | rw [ci_t c_1] | rw [ci_f c_1])
      all_goals (first | rfl | (rw [sg_self]) | (simp only [u3_sg, sg_sg, sg_g, N_rem_0]; done) | (simp only [u3_sg, sg_sg, sg_g, N_rem_0]; rfl))
    exact retWE hx hb hr hlocks (by rw [opX_0 hg, ← hZ]; exact hP) hS dX5_setCarried_38 (by rw [opV_0 hg]; first | done | exact hV)
  · refine lv_if_ne (tgt := 9) hx hb dX5_setCarried_4 (by decide) (fun h9 => absurd (by decide) h9) (fun _ => ?_)
    refine lv_iconst (v := (-1)) hx hb dX5_setCarried_7 (by decide) ?_
    have hg : g_setCarried q = (-1) := by unfold g_setCarried; repeat (first | rw [ci_t c_1] | rw [ci_f c_1])
    exact retWE hx hb hr hlocks (by rw [opX_e hg (by decide)]; exact hP) hS dX5_setCarried_8 (opV_e hg (by decide))
set_option maxHeartbeats 4000000 in
set_option maxRecDepth 100000 in
theorem c_X5_commit {l : Launch} {D : va_G} {cI cR : ClassId} {ad : Nat → Nat} (hdj : Dj 236 ad) (X : St) (h : Int32) (a : Int32) : WoE l D cI cR (Aw 236 ad) (wC cI cR ad X) (wC cI cR ad (opX X (g_commit (X 0) h a) 5 ((X 0) 14 2) (-9) 0 (n_commit (X 0) h a))) yX5_commit wsX5_commit ({ frames := 5, cells := 0, slots := 0, locals := 150 } : Room) [.ref (ad 233), .int h, .int a] (opV (g_commit (X 0) h a) (a_addC (b_cc (X 0) h a))) := by
  refine OfW (cc := cX5_commit) (maxL := 4) (ret := (some .int)) (by decide +kernel) rfl (Nat.le_of_ble_eq_true rfl) (fun p e s m below meth c hx hb hr hts hown hlocks hml hnm hP hK hN ls hl => ?_)
  have hl : lv_has ls 4 [(0, .ref (ad 233)), (1, .int h), (2, .int a)] := hl
  have lk_10 := hts (.fieldLink RX5 10 "HeadBudgets" "now" "LHeadBudgets$Books;") (by decide +kernel)
  have lk_23 := hts (.fieldLink RX5 23 "HeadBudgets$Books" "heads" "LHeadBudgets$Heads;") (by decide +kernel)
  have lk_82 := hts (.fieldLink RX5 82 "HeadBudgets$Books" "commitments" "LHeadBudgets$Commitments;") (by decide +kernel)
  have lk_86 := hts (.fieldLink RX5 86 "HeadBudgets$Commitments" "made" "I") (by decide +kernel)
  have lk_19 := hts (.fieldLink RX5 19 "HeadBudgets" "memory" "LHeadBudgets$Memory;") (by decide +kernel)
  have lk_97 := hts (.fieldLink RX5 97 "HeadBudgets$Books" "year" "I") (by decide +kernel)
  have hi_X0 : ∀ w ∈ wsX00, w ∈ wsX5_commit := by decide +kernel
  have hi_X1 : ∀ w ∈ wsX10, w ∈ wsX5_commit := by decide +kernel
  have hi_X5 : ∀ w ∈ wsX50, w ∈ wsX5_commit := by decide +kernel
  have hS : va_S (Aw 236 ad) s.heap s.heap [] := va_S.rf
  have hP : va_P D vwCl (wC cI cR ad X) s.heap := hP
  refine lv_aload_n hx hb dX5_commit_0 rfl (lv_at hl 0 rfl) ?_
  refine xget (C := RX5) (T := TX5) (N := 2) (ci := 5) (w := .ref (ad 0)) hx hb hts hi_X5 hown hK hP 233 g0_233 rfl 0 (by decide) lk_10 rfl dX5_commit_1 ?_
  refine xget (C := RX0) (T := TX0) (N := 6) (ci := 0) (w := .ref (ad 1)) hx hb hts hi_X0 hown hK hP 0 g0_0 rfl 0 (by decide) lk_23 rfl dX5_commit_4 ?_
  refine lv_astore_n (lv' := [(3, .ref (ad 1)), (0, .ref (ad 233)), (1, .int h), (2, .int a)]) hx hb dX5_commit_7 rfl hl (by decide) rfl (fun ls hl => ?_)
  refine lv_aload_n hx hb dX5_commit_8 rfl (lv_at hl 0 rfl) ?_
  refine lv_iload_n hx hb dX5_commit_9 rfl (lv_at hl 2 rfl) ?_
  refine callB (As := [.int h]) (rest := []) ⟨hx, hb, hml, hown, hts⟩ (c_X3_has X h) (cwV 1 hts gX5_commit_X3_has rfl rfl rfl (by decide +kernel) ⟨Nat.le_of_ble_eq_true rfl, Nat.le_of_ble_eq_true rfl⟩) hK hN hP 1 g0_1 rfl rfl hl.1 rfl (Nat.le_of_ble_eq_true rfl) dX5_commit_10 ⟨Nat.zero_le _, Nat.zero_le _⟩ (fun c_10 => ?_) (fun c_10 => ?_)
  · refine lv_if_eq (tgt := 23) hx hb dX5_commit_13 (by decide) (fun h9 => absurd h9 (by decide)) (fun _ => ?_)
    refine lv_iload_n hx hb dX5_commit_16 rfl (lv_at hl 3 rfl) ?_
    refine callSB (As := [.int a]) (rest := []) ⟨hx, hb, hml, hown, hts⟩ (c_X5_isAmount a) (va_cwS 1 hts gX5_commit_X5_isAmount rfl rfl rfl (by decide +kernel) ⟨Nat.le_of_ble_eq_true rfl, Nat.le_of_ble_eq_true rfl⟩) hK hN rfl hl.1 rfl (Nat.le_of_ble_eq_true rfl) dX5_commit_17 ⟨Nat.zero_le _, Nat.zero_le _⟩ (fun c_17 => ?_) (fun c_17 => ?_)
    · refine lv_if_ne (tgt := 25) hx hb dX5_commit_20 (by decide) (fun _ => ?_) (fun h9 => absurd h9 (by decide))
      refine lv_aload_n hx hb dX5_commit_25 rfl (lv_at hl 0 rfl) ?_
      refine lv_iload_n hx hb dX5_commit_26 rfl (lv_at hl 2 rfl) ?_
      refine callB (As := [.int h]) (rest := []) ⟨hx, hb, hml, hown, hts⟩ (c_X3_isBarred X h) (cwV 1 hts gX5_commit_X3_isBarred rfl rfl rfl (by decide +kernel) ⟨Nat.le_of_ble_eq_true rfl, Nat.le_of_ble_eq_true rfl⟩) hK hN hP 1 g0_1 rfl rfl hl.1 rfl (Nat.le_of_ble_eq_true rfl) dX5_commit_27 ⟨Nat.zero_le _, Nat.zero_le _⟩ (fun c_27 => ?_) (fun c_27 => ?_)
      · refine lv_if_ne (tgt := 42) hx hb dX5_commit_30 (by decide) (fun _ => ?_) (fun h9 => absurd h9 (by decide))
        refine lv_bipush (v := (-2)) hx hb dX5_commit_42 (by decide) ?_
        have hg : g_commit (X 0) h a = (-2) := by unfold g_commit; repeat (first | rw [ci_t c_10] | rw [ci_f c_10] | rw [ci_t c_17] | rw [ci_f c_17] | rw [ci_t c_27] | rw [ci_f c_27])
        exact retWE hx hb hr hlocks (by rw [opX_e hg (by decide)]; exact hP) hS dX5_commit_44 (opV_e hg (by decide))
      · refine lv_if_ne (tgt := 42) hx hb dX5_commit_30 (by decide) (fun h9 => absurd (by decide) h9) (fun _ => ?_)
        refine lv_iload_n hx hb dX5_commit_33 rfl (lv_at hl 3 rfl) ?_
        refine lv_aload_n hx hb dX5_commit_34 rfl (lv_at hl 0 rfl) ?_
        refine lv_iload_n hx hb dX5_commit_35 rfl (lv_at hl 2 rfl) ?_
        refine callE (As := [.int h]) (rest := [.int a]) ⟨hx, hb, hml, hown, hts⟩ (c_X3_freeOf X h) (cwV 1 hts gX5_commit_X3_freeOf rfl rfl rfl (by decide +kernel) ⟨Nat.le_of_ble_eq_true rfl, Nat.le_of_ble_eq_true rfl⟩) hK hN hP 1 g0_1 rfl rfl hl.1 rfl (Nat.le_of_ble_eq_true rfl) dX5_commit_36 ⟨Nat.zero_le _, Nat.zero_le _⟩ ?_
        refine lv_icmp_le (tgt := 45) hx hb dX5_commit_39 (by decide) (fun c_39 => ?_) (fun c_39 => ?_)
        · refine lv_aload_n hx hb dX5_commit_45 rfl (lv_at hl 1 rfl) ?_
          refine xget (C := RX5) (T := TX5) (N := 2) (ci := 5) (w := .ref (ad 0)) hx hb hts hi_X5 hown hK hP 233 g0_233 rfl 0 (by decide) lk_10 rfl dX5_commit_46 ?_
          refine xget (C := RX0) (T := TX0) (N := 6) (ci := 0) (w := .ref (ad 12)) hx hb hts hi_X0 hown hK hP 0 g0_0 rfl 1 (by decide) lk_82 rfl dX5_commit_49 ?_
          refine xget (C := RX1) (T := TX1) (N := 5) (ci := 1) (w := .int (X 0 14 2)) hx hb hts hi_X1 hown hK hP 12 g0_12 rfl 4 (by decide) lk_86 rfl dX5_commit_52 ?_
          refine lv_bipush (v := 40) hx hb dX5_commit_55 (by decide) ?_
          refine lv_icmp_lt (tgt := 63) hx hb dX5_commit_57 (by decide) (fun c_57 => ?_) (fun c_57 => ?_)
          · refine lv_aload_n hx hb dX5_commit_63 rfl (lv_at hl 1 rfl) ?_
            refine xget (C := RX5) (T := TX5) (N := 2) (ci := 5) (w := .ref (ad 234)) hx hb hts hi_X5 hown hK hP 233 g0_233 rfl 1 (by decide) lk_19 rfl dX5_commit_64 ?_
            refine lv_aload_n hx hb dX5_commit_67 rfl (lv_at hl 1 rfl) ?_
            refine xget (C := RX5) (T := TX5) (N := 2) (ci := 5) (w := .ref (ad 0)) hx hb hts hi_X5 hown hK hP 233 g0_233 rfl 0 (by decide) lk_10 rfl dX5_commit_68 ?_
            refine lv_aload_n hx hb dX5_commit_71 rfl (lv_at hl 1 rfl) ?_
            refine xget (C := RX5) (T := TX5) (N := 2) (ci := 5) (w := .ref (ad 0)) hx hb hts hi_X5 hown hK hP 233 g0_233 rfl 0 (by decide) lk_10 rfl dX5_commit_72 ?_
            refine xget (C := RX0) (T := TX0) (N := 6) (ci := 0) (w := .ref (ad 12)) hx hb hts hi_X0 hown hK hP 0 g0_0 rfl 1 (by decide) lk_82 rfl dX5_commit_75 ?_
            refine xget (C := RX1) (T := TX1) (N := 5) (ci := 1) (w := .int (X 0 14 2)) hx hb hts hi_X1 hown hK hP 12 g0_12 rfl 4 (by decide) lk_86 rfl dX5_commit_78 ?_
            refine callWV (As := [.ref (ad 0), .int (X 0 14 2)]) (rest := []) ⟨hx, hb, hml, hown, hts⟩ (c_X4_rememberCommitment hdj X (X 0 14 2)) (cwV 2 hts gX5_commit_X4_rememberCommitment rfl rfl rfl (by decide +kernel) ⟨Nat.le_of_ble_eq_true rfl, Nat.le_of_ble_eq_true rfl⟩) hK hN hP 234 g0_234 rfl rfl hl.1 rfl (Nat.le_of_ble_eq_true rfl) dX5_commit_81 ⟨Nat.zero_le _, Nat.zero_le _⟩ hS (fun _ h9 => h9) (fun H locs hP hS => ?_)
            obtain ⟨X_1, eX_1⟩ : ∃ Z : St, Z = N_rem X 5 (X 0 14 2) (-9) 0 := ⟨_, rfl⟩
            rw [← eX_1] at hP
            refine lv_aload_n hx hb dX5_commit_84 rfl (lv_at hl 0 rfl) ?_
            refine lv_iload_n hx hb dX5_commit_85 rfl (lv_at hl 2 rfl) ?_
            refine lv_iload_n hx hb dX5_commit_86 rfl (lv_at hl 3 rfl) ?_
            refine callWV (As := [.int h, .int a]) (rest := []) ⟨hx, hb, hml, hown, hts⟩ (c_X3_changeCommitted hdj X_1 h a) (cwV 2 hts gX5_commit_X3_changeCommitted rfl rfl rfl (by decide +kernel) ⟨Nat.le_of_ble_eq_true rfl, Nat.le_of_ble_eq_true rfl⟩) hK hN hP 1 g0_1 rfl rfl hl.1 rfl (Nat.le_of_ble_eq_true rfl) dX5_commit_87 ⟨Nat.zero_le _, Nat.zero_le _⟩ hS (fun _ h9 => h9) (fun H locs hP hS => ?_)
            obtain ⟨X_2, eX_2⟩ : ∃ Z : St, Z = sg X_1 0 (b_cc (X_1 0) h a) := ⟨_, rfl⟩
            rw [← eX_2] at hP
            refine lv_aload_n hx hb dX5_commit_90 rfl (lv_at hl 1 rfl) ?_
            refine xget (C := RX5) (T := TX5) (N := 2) (ci := 5) (w := .ref (ad 0)) hx hb hts hi_X5 hown hK hP 233 g0_233 rfl 0 (by decide) lk_10 rfl dX5_commit_91 ?_
            refine xget (C := RX0) (T := TX0) (N := 6) (ci := 0) (w := .ref (ad 12)) hx hb hts hi_X0 hown hK hP 0 g0_0 rfl 1 (by decide) lk_82 rfl dX5_commit_94 ?_
            refine lv_iload_n hx hb dX5_commit_97 rfl (lv_at hl 2 rfl) ?_
            refine lv_iload_n hx hb dX5_commit_98 rfl (lv_at hl 3 rfl) ?_
            refine lv_aload_n hx hb dX5_commit_99 rfl (lv_at hl 1 rfl) ?_
            refine xget (C := RX5) (T := TX5) (N := 2) (ci := 5) (w := .ref (ad 0)) hx hb hts hi_X5 hown hK hP 233 g0_233 rfl 0 (by decide) lk_10 rfl dX5_commit_100 ?_
            refine xget (C := RX0) (T := TX0) (N := 6) (ci := 0) (w := .int (X_2 0 14 0)) hx hb hts hi_X0 hown hK hP 0 g0_0 rfl 2 (by decide) lk_97 rfl dX5_commit_103 ?_
            refine callWE (As := [.int h, .int a, .int (X_2 0 14 0)]) (rest := []) ⟨hx, hb, hml, hown, hts⟩ (c_X1_add hdj X_2 h a (X_2 0 14 0)) (cwV 3 hts gX5_commit_X1_add rfl rfl rfl (by decide +kernel) ⟨Nat.le_of_ble_eq_true rfl, Nat.le_of_ble_eq_true rfl⟩) hK hN hP 12 g0_12 rfl rfl hl.1 rfl (Nat.le_of_ble_eq_true rfl) dX5_commit_106 ⟨Nat.zero_le _, Nat.zero_le _⟩ hS (fun _ h9 => h9) (fun H locs hP hS _ _ => ?_)
            obtain ⟨X_3, eX_3⟩ : ∃ Z : St, Z = sg X_2 0 (b_addC (X_2 0) h a (X_2 0 14 0)) := ⟨_, rfl⟩
            rw [← eX_3] at hP
            have hg : g_commit (X 0) h a = 0 := by unfold g_commit; repeat (first | rw [ci_t c_10] | rw [ci_f c_10] | rw [ci_t c_17] | rw [ci_f c_17] | rw [ci_t c_27] | rw [ci_f c_27] | rw [ci_t c_39] | rw [ci_f c_39] | rw [ci_t c_57] | rw [ci_f c_57])
            have hZ : X_3 = sg (N_rem X 5 ((X 0) 14 2) (-9) 0) 0 (n_commit (X 0) h a) := by
              subst eX_3 eX_2 eX_1
              try simp only [u3_sg, sg_sg, sg_g, N_rem_0]
              try unfold n_commit
              try dsimp only
              all_goals repeat (first | rw [ci_t c_10] | rw [ci_f c_10] | rw [ci_t c_17] | rw [ci_f c_17] | rw [ci_t c_27] | rw [ci_f c_27] | rw [ci_t c_39] | rw [ci_f c_39] | rw [ci_t c_57] | rw [ci_f c_57])
              all_goals (first | rfl | (rw [sg_self]) | (simp only [u3_sg, sg_sg, sg_g, N_rem_0]; done) | (simp only [u3_sg, sg_sg, sg_g, N_rem_0]; rfl))
            have hV : a_addC (X_2 0) = a_addC (b_cc (X 0) h a) := by
              subst eX_3 eX_2 eX_1
              try simp only [u3_sg, sg_sg, sg_g, N_rem_0]
              try dsimp only
              all_goals repeat (first | rw [ci_t c_10] | rw [ci_f c_10] | rw [ci_t c_17] | rw [ci_f c_17] | rw [ci_t c_27] | rw [ci_f c_27] | rw [ci_t c_39] | rw [ci_f c_39] | rw [ci_t c_57] | rw [ci_f c_57])
              all_goals (first | rfl | (rw [sg_self]) | (simp only [u3_sg, sg_sg, sg_g, N_rem_0]; done) | (simp only [u3_sg, sg_sg, sg_g, N_rem_0]; rfl))
            exact retWE hx hb hr hlocks (by rw [opX_0 hg, ← hZ]; exact hP) hS dX5_commit_109 (by rw [opV_0 hg]; first | done | exact hV)
          · refine lv_bipush (v := (-3)) hx hb dX5_commit_60 (by decide) ?_
            have hg : g_commit (X 0) h a = (-3) := by unfold g_commit; repeat (first | rw [ci_t c_10] | rw [ci_f c_10] | rw [ci_t c_17] | rw [ci_f c_17] | rw [ci_t c_27] | rw [ci_f c_27] | rw [ci_t c_39] | rw [ci_f c_39] | rw [ci_t c_57] | rw [ci_f c_57])
            exact retWE hx hb hr hlocks (by rw [opX_e hg (by decide)]; exact hP) hS dX5_commit_62 (opV_e hg (by decide))
        · refine lv_bipush (v := (-2)) hx hb dX5_commit_42 (by decide) ?_
          have hg : g_commit (X 0) h a = (-2) := by unfold g_commit; repeat (first | rw [ci_t c_10] | rw [ci_f c_10] | rw [ci_t c_17] | rw [ci_f c_17] | rw [ci_t c_27] | rw [ci_f c_27] | rw [ci_t c_39] | rw [ci_f c_39])
          exact retWE hx hb hr hlocks (by rw [opX_e hg (by decide)]; exact hP) hS dX5_commit_44 (opV_e hg (by decide))
    · refine lv_if_ne (tgt := 25) hx hb dX5_commit_20 (by decide) (fun h9 => absurd (by decide) h9) (fun _ => ?_)
      refine lv_iconst (v := (-1)) hx hb dX5_commit_23 (by decide) ?_
      have hg : g_commit (X 0) h a = (-1) := by unfold g_commit; repeat (first | rw [ci_t c_10] | rw [ci_f c_10] | rw [ci_t c_17] | rw [ci_f c_17])
      exact retWE hx hb hr hlocks (by rw [opX_e hg (by decide)]; exact hP) hS dX5_commit_24 (opV_e hg (by decide))
  · refine lv_if_eq (tgt := 23) hx hb dX5_commit_13 (by decide) (fun _ => ?_) (fun h9 => absurd (by decide) h9)
    refine lv_iconst (v := (-1)) hx hb dX5_commit_23 (by decide) ?_
    have hg : g_commit (X 0) h a = (-1) := by unfold g_commit; repeat (first | rw [ci_t c_10] | rw [ci_f c_10])
    exact retWE hx hb hr hlocks (by rw [opX_e hg (by decide)]; exact hP) hS dX5_commit_24 (opV_e hg (by decide))
set_option maxHeartbeats 4000000 in
set_option maxRecDepth 100000 in
theorem c_X5_pay {l : Launch} {D : va_G} {cI cR : ClassId} {ad : Nat → Nat} (hdj : Dj 236 ad) (X : St) (q : Int32) (a : Int32) : WoE l D cI cR (Aw 236 ad) (wC cI cR ad X) (wC cI cR ad (opX X (g_pay (X 0) q a) 6 (-9) (-9) 0 (n_pay (X 0) q a))) yX5_pay wsX5_pay ({ frames := 5, cells := 0, slots := 0, locals := 150 } : Room) [.ref (ad 233), .int q, .int a] (opV (g_pay (X 0) q a) (qv (n_pay (X 0) q a) 11 q)) := by
  refine OfW (cc := cX5_pay) (maxL := 4) (ret := (some .int)) (by decide +kernel) rfl (Nat.le_of_ble_eq_true rfl) (fun p e s m below meth c hx hb hr hts hown hlocks hml hnm hP hK hN ls hl => ?_)
  have hl : lv_has ls 4 [(0, .ref (ad 233)), (1, .int q), (2, .int a)] := hl
  have lk_10 := hts (.fieldLink RX5 10 "HeadBudgets" "now" "LHeadBudgets$Books;") (by decide +kernel)
  have lk_82 := hts (.fieldLink RX5 82 "HeadBudgets$Books" "commitments" "LHeadBudgets$Commitments;") (by decide +kernel)
  have lk_104 := hts (.fieldLink RX5 104 "HeadBudgets$Commitments" "open" "[I") (by decide +kernel)
  have lk_19 := hts (.fieldLink RX5 19 "HeadBudgets" "memory" "LHeadBudgets$Memory;") (by decide +kernel)
  have lk_107 := hts (.fieldLink RX5 107 "HeadBudgets$Commitments" "paid" "[I") (by decide +kernel)
  have lk_23 := hts (.fieldLink RX5 23 "HeadBudgets$Books" "heads" "LHeadBudgets$Heads;") (by decide +kernel)
  have lk_110 := hts (.fieldLink RX5 110 "HeadBudgets$Commitments" "head" "[I") (by decide +kernel)
  have lk_116 := hts (.fieldLink RX5 116 "HeadBudgets$Books" "spent" "I") (by decide +kernel)
  have hi_X0 : ∀ w ∈ wsX00, w ∈ wsX5_pay := by decide +kernel
  have hi_X1 : ∀ w ∈ wsX10, w ∈ wsX5_pay := by decide +kernel
  have hi_X5 : ∀ w ∈ wsX50, w ∈ wsX5_pay := by decide +kernel
  have hS : va_S (Aw 236 ad) s.heap s.heap [] := va_S.rf
  have hP : va_P D vwCl (wC cI cR ad X) s.heap := hP
  refine lv_aload_n hx hb dX5_pay_0 rfl (lv_at hl 0 rfl) ?_
  refine xget (C := RX5) (T := TX5) (N := 2) (ci := 5) (w := .ref (ad 0)) hx hb hts hi_X5 hown hK hP 233 g0_233 rfl 0 (by decide) lk_10 rfl dX5_pay_1 ?_
  refine xget (C := RX0) (T := TX0) (N := 6) (ci := 0) (w := .ref (ad 12)) hx hb hts hi_X0 hown hK hP 0 g0_0 rfl 1 (by decide) lk_82 rfl dX5_pay_4 ?_
  refine lv_astore_n (lv' := [(3, .ref (ad 12)), (0, .ref (ad 233)), (1, .int q), (2, .int a)]) hx hb dX5_pay_7 rfl hl (by decide) rfl (fun ls hl => ?_)
  refine lv_aload_n hx hb dX5_pay_8 rfl (lv_at hl 0 rfl) ?_
  refine lv_iload_n hx hb dX5_pay_9 rfl (lv_at hl 2 rfl) ?_
  refine callB (As := [.int q]) (rest := []) ⟨hx, hb, hml, hown, hts⟩ (c_X1_has X q) (cwV 1 hts gX5_pay_X1_has rfl rfl rfl (by decide +kernel) ⟨Nat.le_of_ble_eq_true rfl, Nat.le_of_ble_eq_true rfl⟩) hK hN hP 12 g0_12 rfl rfl hl.1 rfl (Nat.le_of_ble_eq_true rfl) dX5_pay_10 ⟨Nat.zero_le _, Nat.zero_le _⟩ (fun c_10 => ?_) (fun c_10 => ?_)
  · refine lv_if_eq (tgt := 23) hx hb dX5_pay_13 (by decide) (fun h9 => absurd h9 (by decide)) (fun _ => ?_)
    refine lv_iload_n hx hb dX5_pay_16 rfl (lv_at hl 3 rfl) ?_
    refine callSB (As := [.int a]) (rest := []) ⟨hx, hb, hml, hown, hts⟩ (c_X5_isAmount a) (va_cwS 1 hts gX5_pay_X5_isAmount rfl rfl rfl (by decide +kernel) ⟨Nat.le_of_ble_eq_true rfl, Nat.le_of_ble_eq_true rfl⟩) hK hN rfl hl.1 rfl (Nat.le_of_ble_eq_true rfl) dX5_pay_17 ⟨Nat.zero_le _, Nat.zero_le _⟩ (fun c_17 => ?_) (fun c_17 => ?_)
    · refine lv_if_ne (tgt := 25) hx hb dX5_pay_20 (by decide) (fun _ => ?_) (fun h9 => absurd h9 (by decide))
      refine lv_iload_n hx hb dX5_pay_25 rfl (lv_at hl 3 rfl) ?_
      refine lv_aload_n hx hb dX5_pay_26 rfl (lv_at hl 0 rfl) ?_
      refine xget (C := RX1) (T := TX1) (N := 5) (ci := 1) (w := .ref (ad 14)) hx hb hts hi_X1 hown hK hP 12 g0_12 rfl 1 (by decide) lk_104 rfl dX5_pay_27 ?_
      refine lv_iload_n hx hb dX5_pay_30 rfl (lv_at hl 2 rfl) ?_
      refine xald (x := qv (X 0) 11 q) hx hb hK hP 14 g0_14 (in40h c_10) rfl dX5_pay_31 ?_
      refine lv_icmp_le (tgt := 38) hx hb dX5_pay_32 (by decide) (fun c_32 => ?_) (fun c_32 => ?_)
      · refine lv_aload_n hx hb dX5_pay_38 rfl (lv_at hl 1 rfl) ?_
        refine xget (C := RX5) (T := TX5) (N := 2) (ci := 5) (w := .ref (ad 234)) hx hb hts hi_X5 hown hK hP 233 g0_233 rfl 1 (by decide) lk_19 rfl dX5_pay_39 ?_
        refine lv_bipush (v := 6) hx hb dX5_pay_42 (by decide) ?_
        refine lv_aload_n hx hb dX5_pay_44 rfl (lv_at hl 1 rfl) ?_
        refine xget (C := RX5) (T := TX5) (N := 2) (ci := 5) (w := .ref (ad 0)) hx hb hts hi_X5 hown hK hP 233 g0_233 rfl 0 (by decide) lk_10 rfl dX5_pay_45 ?_
        refine callWV (As := [.int 6, .ref (ad 0)]) (rest := []) ⟨hx, hb, hml, hown, hts⟩ (c_X4_remember hdj X 6) (cwV 2 hts gX5_pay_X4_remember rfl rfl rfl (by decide +kernel) ⟨Nat.le_of_ble_eq_true rfl, Nat.le_of_ble_eq_true rfl⟩) hK hN hP 234 g0_234 rfl rfl hl.1 rfl (Nat.le_of_ble_eq_true rfl) dX5_pay_48 ⟨Nat.zero_le _, Nat.zero_le _⟩ hS (fun _ h9 => h9) (fun H locs hP hS => ?_)
        obtain ⟨X_1, eX_1⟩ : ∃ Z : St, Z = N_rem X 6 (-9) (-9) 0 := ⟨_, rfl⟩
        rw [← eX_1] at hP
        refine lv_aload_n hx hb dX5_pay_51 rfl (lv_at hl 0 rfl) ?_
        refine xget (C := RX1) (T := TX1) (N := 5) (ci := 1) (w := .ref (ad 14)) hx hb hts hi_X1 hown hK hP 12 g0_12 rfl 1 (by decide) lk_104 rfl dX5_pay_52 ?_
        refine lv_iload_n hx hb dX5_pay_55 rfl (lv_at hl 2 rfl) ?_
        refine lv_dup2_11 hx hb dX5_pay_56 rfl rfl ?_
        refine xald (x := qv (X_1 0) 11 q) hx hb hK hP 14 g0_14 (in40h c_10) rfl dX5_pay_57 ?_
        refine lv_iload_n hx hb dX5_pay_58 rfl (lv_at hl 3 rfl) ?_
        refine lv_isub hx hb dX5_pay_59 ?_
        refine xast hx hb hK hP (wC_D hdj) hS 14 g0_14 (in40h c_10) s0_11 dX5_pay_60 (fun H locs hP hS => ?_)
        obtain ⟨X_2, eX_2⟩ : ∃ Z : St, Z = u3 X_1 0 11 q.toNatClampNeg ((qv (X_1 0) 11 q) - a) := ⟨_, rfl⟩
        rw [← eX_2] at hP
        refine lv_aload_n hx hb dX5_pay_61 rfl (lv_at hl 0 rfl) ?_
        refine xget (C := RX1) (T := TX1) (N := 5) (ci := 1) (w := .ref (ad 15)) hx hb hts hi_X1 hown hK hP 12 g0_12 rfl 2 (by decide) lk_107 rfl dX5_pay_62 ?_
        refine lv_iload_n hx hb dX5_pay_65 rfl (lv_at hl 2 rfl) ?_
        refine lv_dup2_11 hx hb dX5_pay_66 rfl rfl ?_
        refine xald (x := qv (X_2 0) 12 q) hx hb hK hP 15 g0_15 (in40h c_10) rfl dX5_pay_67 ?_
        refine lv_iload_n hx hb dX5_pay_68 rfl (lv_at hl 3 rfl) ?_
        refine lv_iadd hx hb dX5_pay_69 ?_
        refine xast hx hb hK hP (wC_D hdj) hS 15 g0_15 (in40h c_10) s0_12 dX5_pay_70 (fun H locs hP hS => ?_)
        obtain ⟨X_3, eX_3⟩ : ∃ Z : St, Z = u3 X_2 0 12 q.toNatClampNeg ((qv (X_2 0) 12 q) + a) := ⟨_, rfl⟩
        rw [← eX_3] at hP
        refine lv_aload_n hx hb dX5_pay_71 rfl (lv_at hl 1 rfl) ?_
        refine xget (C := RX5) (T := TX5) (N := 2) (ci := 5) (w := .ref (ad 0)) hx hb hts hi_X5 hown hK hP 233 g0_233 rfl 0 (by decide) lk_10 rfl dX5_pay_72 ?_
        refine xget (C := RX0) (T := TX0) (N := 6) (ci := 0) (w := .ref (ad 1)) hx hb hts hi_X0 hown hK hP 0 g0_0 rfl 0 (by decide) lk_23 rfl dX5_pay_75 ?_
        refine lv_aload_n hx hb dX5_pay_78 rfl (lv_at hl 0 rfl) ?_
        refine xget (C := RX1) (T := TX1) (N := 5) (ci := 1) (w := .ref (ad 13)) hx hb hts hi_X1 hown hK hP 12 g0_12 rfl 0 (by decide) lk_110 rfl dX5_pay_79 ?_
        refine lv_iload_n hx hb dX5_pay_82 rfl (lv_at hl 2 rfl) ?_
        refine xald (x := qv (X_3 0) 10 q) hx hb hK hP 13 g0_13 (in40h c_10) rfl dX5_pay_83 ?_
        refine lv_iload_n hx hb dX5_pay_84 rfl (lv_at hl 3 rfl) ?_
        refine callWV (As := [.int (qv (X_3 0) 10 q), .int a]) (rest := []) ⟨hx, hb, hml, hown, hts⟩ (c_X3_spendCommitted hdj X_3 (qv (X_3 0) 10 q) a) (cwV 2 hts gX5_pay_X3_spendCommitted rfl rfl rfl (by decide +kernel) ⟨Nat.le_of_ble_eq_true rfl, Nat.le_of_ble_eq_true rfl⟩) hK hN hP 1 g0_1 rfl rfl hl.1 rfl (Nat.le_of_ble_eq_true rfl) dX5_pay_85 ⟨Nat.zero_le _, Nat.zero_le _⟩ hS (fun _ h9 => h9) (fun H locs hP hS => ?_)
        obtain ⟨X_4, eX_4⟩ : ∃ Z : St, Z = sg X_3 0 (b_sc (X_3 0) (qv (X_3 0) 10 q) a) := ⟨_, rfl⟩
        rw [← eX_4] at hP
        refine lv_aload_n hx hb dX5_pay_88 rfl (lv_at hl 1 rfl) ?_
        refine xget (C := RX5) (T := TX5) (N := 2) (ci := 5) (w := .ref (ad 0)) hx hb hts hi_X5 hown hK hP 233 g0_233 rfl 0 (by decide) lk_10 rfl dX5_pay_89 ?_
        refine lv_dup hx hb dX5_pay_92 rfl ?_
        refine xget (C := RX0) (T := TX0) (N := 6) (ci := 0) (w := .int (X_4 0 14 5)) hx hb hts hi_X0 hown hK hP 0 g0_0 rfl 5 (by decide) lk_116 rfl dX5_pay_93 ?_
        refine lv_iload_n hx hb dX5_pay_96 rfl (lv_at hl 3 rfl) ?_
        refine lv_iadd hx hb dX5_pay_97 ?_
        refine xput (C := RX0) (T := TX0) (N := 6) (ci := 0) hx hb hts hi_X0 tyX0 tyX0_ok nmX0 hown hK hP (wC_D hdj) hS 0 g0_0 rfl 5 (by decide) lk_116 rfl (by decide +kernel) (Nat.le_of_ble_eq_true rfl) s0_spent dX5_pay_98 (fun H locs hP hS => ?_)
        obtain ⟨X_5, eX_5⟩ : ∃ Z : St, Z = u3 X_4 0 14 5 ((X_4 0 14 5) + a) := ⟨_, rfl⟩
        rw [← eX_5] at hP
        refine lv_aload_n hx hb dX5_pay_101 rfl (lv_at hl 0 rfl) ?_
        refine xget (C := RX1) (T := TX1) (N := 5) (ci := 1) (w := .ref (ad 14)) hx hb hts hi_X1 hown hK hP 12 g0_12 rfl 1 (by decide) lk_104 rfl dX5_pay_102 ?_
        refine lv_iload_n hx hb dX5_pay_105 rfl (lv_at hl 2 rfl) ?_
        refine xald (x := qv (X_5 0) 11 q) hx hb hK hP 14 g0_14 (in40h c_10) rfl dX5_pay_106 ?_
        have hg : g_pay (X 0) q a = 0 := by unfold g_pay; repeat (first | rw [ci_t c_10] | rw [ci_f c_10] | rw [ci_t c_17] | rw [ci_f c_17] | rw [ci_t c_32] | rw [ci_f c_32])
        have hZ : X_5 = sg (N_rem X 6 (-9) (-9) 0) 0 (n_pay (X 0) q a) := by
          subst eX_5 eX_4 eX_3 eX_2 eX_1
          try simp only [u3_sg, sg_sg, sg_g, N_rem_0]
          try unfold n_pay
          try dsimp only
          all_goals repeat (first | rw [ci_t c_10] | rw [ci_f c_10] | rw [ci_t c_17] | rw [ci_f c_17] | rw [ci_t c_32] | rw [ci_f c_32])
          all_goals (first | rfl | (rw [sg_self]) | (simp only [u3_sg, sg_sg, sg_g, N_rem_0]; done) | (simp only [u3_sg, sg_sg, sg_g, N_rem_0]; rfl))
        have hV : qv (X_5 0) 11 q = qv (n_pay (X 0) q a) 11 q := by
          subst eX_5 eX_4 eX_3 eX_2 eX_1
          try simp only [u3_sg, sg_sg, sg_g, N_rem_0]
          try unfold n_pay
          try dsimp only
          all_goals repeat (first | rw [ci_t c_10] | rw [ci_f c_10] | rw [ci_t c_17] | rw [ci_f c_17] | rw [ci_t c_32] | rw [ci_f c_32])
          all_goals (first | rfl | (rw [sg_self]) | (simp only [u3_sg, sg_sg, sg_g, N_rem_0]; done) | (simp only [u3_sg, sg_sg, sg_g, N_rem_0]; rfl))
        exact retWE hx hb hr hlocks (by rw [opX_0 hg, ← hZ]; exact hP) hS dX5_pay_107 (by rw [opV_0 hg]; first | done | exact hV)
      · refine lv_bipush (v := (-2)) hx hb dX5_pay_35 (by decide) ?_
        have hg : g_pay (X 0) q a = (-2) := by unfold g_pay; repeat (first | rw [ci_t c_10] | rw [ci_f c_10] | rw [ci_t c_17] | rw [ci_f c_17] | rw [ci_t c_32] | rw [ci_f c_32])
        exact retWE hx hb hr hlocks (by rw [opX_e hg (by decide)]; exact hP) hS dX5_pay_37 (opV_e hg (by decide))
    · refine lv_if_ne (tgt := 25) hx hb dX5_pay_20 (by decide) (fun h9 => absurd (by decide) h9) (fun _ => ?_)
      refine lv_iconst (v := (-1)) hx hb dX5_pay_23 (by decide) ?_
      have hg : g_pay (X 0) q a = (-1) := by unfold g_pay; repeat (first | rw [ci_t c_10] | rw [ci_f c_10] | rw [ci_t c_17] | rw [ci_f c_17])
      exact retWE hx hb hr hlocks (by rw [opX_e hg (by decide)]; exact hP) hS dX5_pay_24 (opV_e hg (by decide))
  · refine lv_if_eq (tgt := 23) hx hb dX5_pay_13 (by decide) (fun _ => ?_) (fun h9 => absurd (by decide) h9)
    refine lv_iconst (v := (-1)) hx hb dX5_pay_23 (by decide) ?_
    have hg : g_pay (X 0) q a = (-1) := by unfold g_pay; repeat (first | rw [ci_t c_10] | rw [ci_f c_10])
    exact retWE hx hb hr hlocks (by rw [opX_e hg (by decide)]; exact hP) hS dX5_pay_24 (opV_e hg (by decide))
set_option maxHeartbeats 4000000 in
set_option maxRecDepth 100000 in
theorem c_X5_release {l : Launch} {D : va_G} {cI cR : ClassId} {ad : Nat → Nat} (hdj : Dj 236 ad) (X : St) (q : Int32) : WoE l D cI cR (Aw 236 ad) (wC cI cR ad X) (wC cI cR ad (opX X (g_release (X 0) q) 7 (-9) (-9) 0 (b_free0 (X 0) q))) yX5_release wsX5_release ({ frames := 5, cells := 0, slots := 0, locals := 150 } : Room) [.ref (ad 233), .int q] (opV (g_release (X 0) q) (a_free0 (X 0) q)) := by
  refine OfW (cc := cX5_release) (maxL := 2) (ret := (some .int)) (by decide +kernel) rfl (Nat.le_of_ble_eq_true rfl) (fun p e s m below meth c hx hb hr hts hown hlocks hml hnm hP hK hN ls hl => ?_)
  have hl : lv_has ls 2 [(0, .ref (ad 233)), (1, .int q)] := hl
  have lk_10 := hts (.fieldLink RX5 10 "HeadBudgets" "now" "LHeadBudgets$Books;") (by decide +kernel)
  have lk_82 := hts (.fieldLink RX5 82 "HeadBudgets$Books" "commitments" "LHeadBudgets$Commitments;") (by decide +kernel)
  have lk_104 := hts (.fieldLink RX5 104 "HeadBudgets$Commitments" "open" "[I") (by decide +kernel)
  have lk_19 := hts (.fieldLink RX5 19 "HeadBudgets" "memory" "LHeadBudgets$Memory;") (by decide +kernel)
  have hi_X0 : ∀ w ∈ wsX00, w ∈ wsX5_release := by decide +kernel
  have hi_X1 : ∀ w ∈ wsX10, w ∈ wsX5_release := by decide +kernel
  have hi_X5 : ∀ w ∈ wsX50, w ∈ wsX5_release := by decide +kernel
  have hS : va_S (Aw 236 ad) s.heap s.heap [] := va_S.rf
  have hP : va_P D vwCl (wC cI cR ad X) s.heap := hP
  refine lv_aload_n hx hb dX5_release_0 rfl (lv_at hl 0 rfl) ?_
  refine xget (C := RX5) (T := TX5) (N := 2) (ci := 5) (w := .ref (ad 0)) hx hb hts hi_X5 hown hK hP 233 g0_233 rfl 0 (by decide) lk_10 rfl dX5_release_1 ?_
  refine xget (C := RX0) (T := TX0) (N := 6) (ci := 0) (w := .ref (ad 12)) hx hb hts hi_X0 hown hK hP 0 g0_0 rfl 1 (by decide) lk_82 rfl dX5_release_4 ?_
  refine lv_iload_n hx hb dX5_release_7 rfl (lv_at hl 1 rfl) ?_
  refine callB (As := [.int q]) (rest := []) ⟨hx, hb, hml, hown, hts⟩ (c_X1_has X q) (cwV 1 hts gX5_release_X1_has rfl rfl rfl (by decide +kernel) ⟨Nat.le_of_ble_eq_true rfl, Nat.le_of_ble_eq_true rfl⟩) hK hN hP 12 g0_12 rfl rfl hl.1 rfl (Nat.le_of_ble_eq_true rfl) dX5_release_8 ⟨Nat.zero_le _, Nat.zero_le _⟩ (fun c_8 => ?_) (fun c_8 => ?_)
  · refine lv_if_ne (tgt := 16) hx hb dX5_release_11 (by decide) (fun _ => ?_) (fun h9 => absurd h9 (by decide))
    refine lv_aload_n hx hb dX5_release_16 rfl (lv_at hl 0 rfl) ?_
    refine xget (C := RX5) (T := TX5) (N := 2) (ci := 5) (w := .ref (ad 0)) hx hb hts hi_X5 hown hK hP 233 g0_233 rfl 0 (by decide) lk_10 rfl dX5_release_17 ?_
    refine xget (C := RX0) (T := TX0) (N := 6) (ci := 0) (w := .ref (ad 12)) hx hb hts hi_X0 hown hK hP 0 g0_0 rfl 1 (by decide) lk_82 rfl dX5_release_20 ?_
    refine xget (C := RX1) (T := TX1) (N := 5) (ci := 1) (w := .ref (ad 14)) hx hb hts hi_X1 hown hK hP 12 g0_12 rfl 1 (by decide) lk_104 rfl dX5_release_23 ?_
    refine lv_iload_n hx hb dX5_release_26 rfl (lv_at hl 1 rfl) ?_
    refine xald (x := qv (X 0) 11 q) hx hb hK hP 14 g0_14 (in40h c_8) rfl dX5_release_27 ?_
    refine lv_if_ne (tgt := 34) hx hb dX5_release_28 (by decide) (fun c_28 => ?_) (fun c_28 => ?_)
    · refine lv_aload_n hx hb dX5_release_34 rfl (lv_at hl 0 rfl) ?_
      refine xget (C := RX5) (T := TX5) (N := 2) (ci := 5) (w := .ref (ad 234)) hx hb hts hi_X5 hown hK hP 233 g0_233 rfl 1 (by decide) lk_19 rfl dX5_release_35 ?_
      refine lv_bipush (v := 7) hx hb dX5_release_38 (by decide) ?_
      refine lv_aload_n hx hb dX5_release_40 rfl (lv_at hl 0 rfl) ?_
      refine xget (C := RX5) (T := TX5) (N := 2) (ci := 5) (w := .ref (ad 0)) hx hb hts hi_X5 hown hK hP 233 g0_233 rfl 0 (by decide) lk_10 rfl dX5_release_41 ?_
      refine callWV (As := [.int 7, .ref (ad 0)]) (rest := []) ⟨hx, hb, hml, hown, hts⟩ (c_X4_remember hdj X 7) (cwV 2 hts gX5_release_X4_remember rfl rfl rfl (by decide +kernel) ⟨Nat.le_of_ble_eq_true rfl, Nat.le_of_ble_eq_true rfl⟩) hK hN hP 234 g0_234 rfl rfl hl.1 rfl (Nat.le_of_ble_eq_true rfl) dX5_release_44 ⟨Nat.zero_le _, Nat.zero_le _⟩ hS (fun _ h9 => h9) (fun H locs hP hS => ?_)
      obtain ⟨X_1, eX_1⟩ : ∃ Z : St, Z = N_rem X 7 (-9) (-9) 0 := ⟨_, rfl⟩
      rw [← eX_1] at hP
      refine lv_aload_n hx hb dX5_release_47 rfl (lv_at hl 0 rfl) ?_
      refine xget (C := RX5) (T := TX5) (N := 2) (ci := 5) (w := .ref (ad 0)) hx hb hts hi_X5 hown hK hP 233 g0_233 rfl 0 (by decide) lk_10 rfl dX5_release_48 ?_
      refine lv_iload_n hx hb dX5_release_51 rfl (lv_at hl 1 rfl) ?_
      refine callWE (As := [.int q]) (rest := []) ⟨hx, hb, hml, hown, hts⟩ (c_X0_freeOpenOf hdj X_1 q) (cwV 1 hts gX5_release_X0_freeOpenOf rfl rfl rfl (by decide +kernel) ⟨Nat.le_of_ble_eq_true rfl, Nat.le_of_ble_eq_true rfl⟩) hK hN hP 0 g0_0 rfl rfl hl.1 rfl (Nat.le_of_ble_eq_true rfl) dX5_release_52 ⟨Nat.zero_le _, Nat.zero_le _⟩ hS (fun _ h9 => h9) (fun H locs hP hS _ _ => ?_)
      obtain ⟨X_2, eX_2⟩ : ∃ Z : St, Z = sg X_1 0 (b_free0 (X_1 0) q) := ⟨_, rfl⟩
      rw [← eX_2] at hP
      have hg : g_release (X 0) q = 0 := by unfold g_release; repeat (first | rw [ci_t c_8] | rw [ci_f c_8] | rw [ci_t c_28] | rw [ci_f c_28])
      have hZ : X_2 = sg (N_rem X 7 (-9) (-9) 0) 0 (b_free0 (X 0) q) := by
        subst eX_2 eX_1
        try simp only [u3_sg, sg_sg, sg_g, N_rem_0]
        try dsimp only
        all_goals repeat (first | rw [ci_t c_8] | rw [ci_f c_8] | rw [ci_t c_28] | rw [ci_f c_28])
        all_goals (first | rfl | (rw [sg_self]) | (simp only [u3_sg, sg_sg, sg_g, N_rem_0]; done) | (simp only [u3_sg, sg_sg, sg_g, N_rem_0]; rfl))
      have hV : a_free0 (X_1 0) q = a_free0 (X 0) q := by
        subst eX_2 eX_1
        try simp only [u3_sg, sg_sg, sg_g, N_rem_0]
        try dsimp only
        all_goals repeat (first | rw [ci_t c_8] | rw [ci_f c_8] | rw [ci_t c_28] | rw [ci_f c_28])
        all_goals (first | rfl | (rw [sg_self]) | (simp only [u3_sg, sg_sg, sg_g, N_rem_0]; done) | (simp only [u3_sg, sg_sg, sg_g, N_rem_0]; rfl))
      exact retWE hx hb hr hlocks (by rw [opX_0 hg, ← hZ]; exact hP) hS dX5_release_55 (by rw [opV_0 hg]; first | done | exact hV)
    · refine lv_bipush (v := (-2)) hx hb dX5_release_31 (by decide) ?_
      have hg : g_release (X 0) q = (-2) := by unfold g_release; repeat (first | rw [ci_t c_8] | rw [ci_f c_8] | rw [ci_t c_28] | rw [ci_f c_28])
      exact retWE hx hb hr hlocks (by rw [opX_e hg (by decide)]; exact hP) hS dX5_release_33 (opV_e hg (by decide))
  · refine lv_if_ne (tgt := 16) hx hb dX5_release_11 (by decide) (fun h9 => absurd (by decide) h9) (fun _ => ?_)
    refine lv_iconst (v := (-1)) hx hb dX5_release_14 (by decide) ?_
    have hg : g_release (X 0) q = (-1) := by unfold g_release; repeat (first | rw [ci_t c_8] | rw [ci_f c_8])
    exact retWE hx hb hr hlocks (by rw [opX_e hg (by decide)]; exact hP) hS dX5_release_15 (opV_e hg (by decide))
set_option maxHeartbeats 4000000 in
set_option maxRecDepth 100000 in
theorem c_X5_vire {l : Launch} {D : va_G} {cI cR : ClassId} {ad : Nat → Nat} (hdj : Dj 236 ad) (X : St) (f : Int32) (t : Int32) (a : Int32) : WoE l D cI cR (Aw 236 ad) (wC cI cR ad X) (wC cI cR ad (opX X (g_vire (X 0) f t a) 8 f t a (b_mv (X 0) f t a))) yX5_vire wsX5_vire ({ frames := 5, cells := 0, slots := 0, locals := 152 } : Room) [.ref (ad 233), .int f, .int t, .int a] (opV (g_vire (X 0) f t a) (p_free (b_mv (X 0) f t a) f)) := by
  refine OfW (cc := cX5_vire) (maxL := 5) (ret := (some .int)) (by decide +kernel) rfl (Nat.le_of_ble_eq_true rfl) (fun p e s m below meth c hx hb hr hts hown hlocks hml hnm hP hK hN ls hl => ?_)
  have hl : lv_has ls 5 [(0, .ref (ad 233)), (1, .int f), (2, .int t), (3, .int a)] := hl
  have lk_10 := hts (.fieldLink RX5 10 "HeadBudgets" "now" "LHeadBudgets$Books;") (by decide +kernel)
  have lk_23 := hts (.fieldLink RX5 23 "HeadBudgets$Books" "heads" "LHeadBudgets$Heads;") (by decide +kernel)
  have lk_19 := hts (.fieldLink RX5 19 "HeadBudgets" "memory" "LHeadBudgets$Memory;") (by decide +kernel)
  have hi_X0 : ∀ w ∈ wsX00, w ∈ wsX5_vire := by decide +kernel
  have hi_X5 : ∀ w ∈ wsX50, w ∈ wsX5_vire := by decide +kernel
  have hS : va_S (Aw 236 ad) s.heap s.heap [] := va_S.rf
  have hP : va_P D vwCl (wC cI cR ad X) s.heap := hP
  refine lv_aload_n hx hb dX5_vire_0 rfl (lv_at hl 0 rfl) ?_
  refine xget (C := RX5) (T := TX5) (N := 2) (ci := 5) (w := .ref (ad 0)) hx hb hts hi_X5 hown hK hP 233 g0_233 rfl 0 (by decide) lk_10 rfl dX5_vire_1 ?_
  refine xget (C := RX0) (T := TX0) (N := 6) (ci := 0) (w := .ref (ad 1)) hx hb hts hi_X0 hown hK hP 0 g0_0 rfl 0 (by decide) lk_23 rfl dX5_vire_4 ?_
  refine lv_astore (lv' := [(4, .ref (ad 1)), (0, .ref (ad 233)), (1, .int f), (2, .int t), (3, .int a)]) hx hb dX5_vire_7 hl (by decide) rfl (fun ls hl => ?_)
  refine lv_aload hx hb dX5_vire_9 (lv_at hl 0 rfl) ?_
  refine lv_iload_n hx hb dX5_vire_11 rfl (lv_at hl 2 rfl) ?_
  refine lv_iload_n hx hb dX5_vire_12 rfl (lv_at hl 3 rfl) ?_
  refine callB (As := [.int f, .int t]) (rest := []) ⟨hx, hb, hml, hown, hts⟩ (c_X3_hasBoth X f t) (cwV 2 hts gX5_vire_X3_hasBoth rfl rfl rfl (by decide +kernel) ⟨Nat.le_of_ble_eq_true rfl, Nat.le_of_ble_eq_true rfl⟩) hK hN hP 1 g0_1 rfl rfl hl.1 rfl (Nat.le_of_ble_eq_true rfl) dX5_vire_13 ⟨Nat.zero_le _, Nat.zero_le _⟩ (fun c_13 => ?_) (fun c_13 => ?_)
  · refine lv_if_eq (tgt := 26) hx hb dX5_vire_16 (by decide) (fun h9 => absurd h9 (by decide)) (fun _ => ?_)
    refine lv_iload_n hx hb dX5_vire_19 rfl (lv_at hl 4 rfl) ?_
    refine callSB (As := [.int a]) (rest := []) ⟨hx, hb, hml, hown, hts⟩ (c_X5_isAmount a) (va_cwS 1 hts gX5_vire_X5_isAmount rfl rfl rfl (by decide +kernel) ⟨Nat.le_of_ble_eq_true rfl, Nat.le_of_ble_eq_true rfl⟩) hK hN rfl hl.1 rfl (Nat.le_of_ble_eq_true rfl) dX5_vire_20 ⟨Nat.zero_le _, Nat.zero_le _⟩ (fun c_20 => ?_) (fun c_20 => ?_)
    · refine lv_if_ne (tgt := 28) hx hb dX5_vire_23 (by decide) (fun _ => ?_) (fun h9 => absurd h9 (by decide))
      refine lv_iload_n hx hb dX5_vire_28 rfl (lv_at hl 4 rfl) ?_
      refine lv_aload hx hb dX5_vire_29 (lv_at hl 0 rfl) ?_
      refine lv_iload_n hx hb dX5_vire_31 rfl (lv_at hl 2 rfl) ?_
      refine lv_iload_n hx hb dX5_vire_32 rfl (lv_at hl 3 rfl) ?_
      refine callE (As := [.int f, .int t]) (rest := [.int a]) ⟨hx, hb, hml, hown, hts⟩ (c_X3_movable X f t) (cwV 2 hts gX5_vire_X3_movable rfl rfl rfl (by decide +kernel) ⟨Nat.le_of_ble_eq_true rfl, Nat.le_of_ble_eq_true rfl⟩) hK hN hP 1 g0_1 rfl rfl hl.1 rfl (Nat.le_of_ble_eq_true rfl) dX5_vire_33 ⟨Nat.zero_le _, Nat.zero_le _⟩ ?_
      refine lv_icmp_le (tgt := 42) hx hb dX5_vire_36 (by decide) (fun c_36 => ?_) (fun c_36 => ?_)
      · refine lv_aload_n hx hb dX5_vire_42 rfl (lv_at hl 1 rfl) ?_
        refine xget (C := RX5) (T := TX5) (N := 2) (ci := 5) (w := .ref (ad 234)) hx hb hts hi_X5 hown hK hP 233 g0_233 rfl 1 (by decide) lk_19 rfl dX5_vire_43 ?_
        refine lv_aload_n hx hb dX5_vire_46 rfl (lv_at hl 1 rfl) ?_
        refine xget (C := RX5) (T := TX5) (N := 2) (ci := 5) (w := .ref (ad 0)) hx hb hts hi_X5 hown hK hP 233 g0_233 rfl 0 (by decide) lk_10 rfl dX5_vire_47 ?_
        refine lv_iload_n hx hb dX5_vire_50 rfl (lv_at hl 2 rfl) ?_
        refine lv_iload_n hx hb dX5_vire_51 rfl (lv_at hl 3 rfl) ?_
        refine lv_iload_n hx hb dX5_vire_52 rfl (lv_at hl 4 rfl) ?_
        refine callWV (As := [.ref (ad 0), .int f, .int t, .int a]) (rest := []) ⟨hx, hb, hml, hown, hts⟩ (c_X4_rememberVirement hdj X f t a) (cwV 4 hts gX5_vire_X4_rememberVirement rfl rfl rfl (by decide +kernel) ⟨Nat.le_of_ble_eq_true rfl, Nat.le_of_ble_eq_true rfl⟩) hK hN hP 234 g0_234 rfl rfl hl.1 rfl (Nat.le_of_ble_eq_true rfl) dX5_vire_53 ⟨Nat.zero_le _, Nat.zero_le _⟩ hS (fun _ h9 => h9) (fun H locs hP hS => ?_)
        obtain ⟨X_1, eX_1⟩ : ∃ Z : St, Z = N_rem X 8 f t a := ⟨_, rfl⟩
        rw [← eX_1] at hP
        refine lv_aload hx hb dX5_vire_56 (lv_at hl 0 rfl) ?_
        refine lv_iload_n hx hb dX5_vire_58 rfl (lv_at hl 2 rfl) ?_
        refine lv_iload_n hx hb dX5_vire_59 rfl (lv_at hl 3 rfl) ?_
        refine lv_iload_n hx hb dX5_vire_60 rfl (lv_at hl 4 rfl) ?_
        refine callWV (As := [.int f, .int t, .int a]) (rest := []) ⟨hx, hb, hml, hown, hts⟩ (c_X3_moveByVirement hdj X_1 f t a) (cwV 3 hts gX5_vire_X3_moveByVirement rfl rfl rfl (by decide +kernel) ⟨Nat.le_of_ble_eq_true rfl, Nat.le_of_ble_eq_true rfl⟩) hK hN hP 1 g0_1 rfl rfl hl.1 rfl (Nat.le_of_ble_eq_true rfl) dX5_vire_61 ⟨Nat.zero_le _, Nat.zero_le _⟩ hS (fun _ h9 => h9) (fun H locs hP hS => ?_)
        obtain ⟨X_2, eX_2⟩ : ∃ Z : St, Z = sg X_1 0 (b_mv (X_1 0) f t a) := ⟨_, rfl⟩
        rw [← eX_2] at hP
        refine lv_aload hx hb dX5_vire_64 (lv_at hl 0 rfl) ?_
        refine lv_iload_n hx hb dX5_vire_66 rfl (lv_at hl 2 rfl) ?_
        refine callE (As := [.int f]) (rest := []) ⟨hx, hb, hml, hown, hts⟩ (c_X3_freeOf X_2 f) (cwV 1 hts gX5_vire_X3_freeOf rfl rfl rfl (by decide +kernel) ⟨Nat.le_of_ble_eq_true rfl, Nat.le_of_ble_eq_true rfl⟩) hK hN hP 1 g0_1 rfl rfl hl.1 rfl (Nat.le_of_ble_eq_true rfl) dX5_vire_67 ⟨Nat.zero_le _, Nat.zero_le _⟩ ?_
        have hg : g_vire (X 0) f t a = 0 := by unfold g_vire; repeat (first | rw [ci_t c_13] | rw [ci_f c_13] | rw [ci_t c_20] | rw [ci_f c_20] | rw [ci_t c_36] | rw [ci_f c_36])
        have hZ : X_2 = sg (N_rem X 8 f t a) 0 (b_mv (X 0) f t a) := by
          subst eX_2 eX_1
          try simp only [u3_sg, sg_sg, sg_g, N_rem_0]
          try dsimp only
          all_goals repeat (first | rw [ci_t c_13] | rw [ci_f c_13] | rw [ci_t c_20] | rw [ci_f c_20] | rw [ci_t c_36] | rw [ci_f c_36])
          all_goals (first | rfl | (rw [sg_self]) | (simp only [u3_sg, sg_sg, sg_g, N_rem_0]; done) | (simp only [u3_sg, sg_sg, sg_g, N_rem_0]; rfl))
        have hV : p_free (X_2 0) f = p_free (b_mv (X 0) f t a) f := by
          subst eX_2 eX_1
          try simp only [u3_sg, sg_sg, sg_g, N_rem_0]
          try dsimp only
          all_goals repeat (first | rw [ci_t c_13] | rw [ci_f c_13] | rw [ci_t c_20] | rw [ci_f c_20] | rw [ci_t c_36] | rw [ci_f c_36])
          all_goals (first | rfl | (rw [sg_self]) | (simp only [u3_sg, sg_sg, sg_g, N_rem_0]; done) | (simp only [u3_sg, sg_sg, sg_g, N_rem_0]; rfl))
        exact retWE hx hb hr hlocks (by rw [opX_0 hg, ← hZ]; exact hP) hS dX5_vire_70 (by rw [opV_0 hg]; first | done | exact hV)
      · refine lv_bipush (v := (-2)) hx hb dX5_vire_39 (by decide) ?_
        have hg : g_vire (X 0) f t a = (-2) := by unfold g_vire; repeat (first | rw [ci_t c_13] | rw [ci_f c_13] | rw [ci_t c_20] | rw [ci_f c_20] | rw [ci_t c_36] | rw [ci_f c_36])
        exact retWE hx hb hr hlocks (by rw [opX_e hg (by decide)]; exact hP) hS dX5_vire_41 (opV_e hg (by decide))
    · refine lv_if_ne (tgt := 28) hx hb dX5_vire_23 (by decide) (fun h9 => absurd (by decide) h9) (fun _ => ?_)
      refine lv_iconst (v := (-1)) hx hb dX5_vire_26 (by decide) ?_
      have hg : g_vire (X 0) f t a = (-1) := by unfold g_vire; repeat (first | rw [ci_t c_13] | rw [ci_f c_13] | rw [ci_t c_20] | rw [ci_f c_20])
      exact retWE hx hb hr hlocks (by rw [opX_e hg (by decide)]; exact hP) hS dX5_vire_27 (opV_e hg (by decide))
  · refine lv_if_eq (tgt := 26) hx hb dX5_vire_16 (by decide) (fun _ => ?_) (fun h9 => absurd (by decide) h9)
    refine lv_iconst (v := (-1)) hx hb dX5_vire_26 (by decide) ?_
    have hg : g_vire (X 0) f t a = (-1) := by unfold g_vire; repeat (first | rw [ci_t c_13] | rw [ci_f c_13])
    exact retWE hx hb hr hlocks (by rw [opX_e hg (by decide)]; exact hP) hS dX5_vire_27 (opV_e hg (by decide))
set_option maxHeartbeats 4000000 in
set_option maxRecDepth 100000 in
theorem c_X5_endYear {l : Launch} {D : va_G} {cI cR : ClassId} {ad : Nat → Nat} (hdj : Dj 236 ad) (X : St) : WoE l D cI cR (Aw 236 ad) (wC cI cR ad X) (wC cI cR ad (opX X (g_endYear (X 0)) 9 (-9) (-9) 0 (n_endYear (X 0)))) yX5_endYear wsX5_endYear ({ frames := 5, cells := 0, slots := 0, locals := 150 } : Room) [.ref (ad 233)] (opV (g_endYear (X 0)) (p_lapse (X 0) 0 ((X 0) 14 3) 20)) := by
  refine OfW (cc := cX5_endYear) (maxL := 2) (ret := (some .int)) (by decide +kernel) rfl (Nat.le_of_ble_eq_true rfl) (fun p e s m below meth c hx hb hr hts hown hlocks hml hnm hP hK hN ls hl => ?_)
  have hl : lv_has ls 2 [(0, .ref (ad 233))] := hl
  have lk_10 := hts (.fieldLink RX5 10 "HeadBudgets" "now" "LHeadBudgets$Books;") (by decide +kernel)
  have lk_97 := hts (.fieldLink RX5 97 "HeadBudgets$Books" "year" "I") (by decide +kernel)
  have lk_19 := hts (.fieldLink RX5 19 "HeadBudgets" "memory" "LHeadBudgets$Memory;") (by decide +kernel)
  have lk_23 := hts (.fieldLink RX5 23 "HeadBudgets$Books" "heads" "LHeadBudgets$Heads;") (by decide +kernel)
  have lk_72 := hts (.fieldLink RX5 72 "HeadBudgets$Books" "carriedPart" "I") (by decide +kernel)
  have lk_144 := hts (.fieldLink RX5 144 "HeadBudgets$Books" "lapsed" "I") (by decide +kernel)
  have hi_X0 : ∀ w ∈ wsX00, w ∈ wsX5_endYear := by decide +kernel
  have hi_X5 : ∀ w ∈ wsX50, w ∈ wsX5_endYear := by decide +kernel
  have hS : va_S (Aw 236 ad) s.heap s.heap [] := va_S.rf
  have hP : va_P D vwCl (wC cI cR ad X) s.heap := hP
  refine lv_aload_n hx hb dX5_endYear_0 rfl (lv_at hl 0 rfl) ?_
  refine xget (C := RX5) (T := TX5) (N := 2) (ci := 5) (w := .ref (ad 0)) hx hb hts hi_X5 hown hK hP 233 g0_233 rfl 0 (by decide) lk_10 rfl dX5_endYear_1 ?_
  refine xget (C := RX0) (T := TX0) (N := 6) (ci := 0) (w := .int (X 0 14 0)) hx hb hts hi_X0 hown hK hP 0 g0_0 rfl 2 (by decide) lk_97 rfl dX5_endYear_4 ?_
  refine lv_bipush (v := 99) hx hb dX5_endYear_7 (by decide) ?_
  refine lv_icmp_lt (tgt := 15) hx hb dX5_endYear_9 (by decide) (fun c_9 => ?_) (fun c_9 => ?_)
  · refine lv_aload_n hx hb dX5_endYear_15 rfl (lv_at hl 0 rfl) ?_
    refine xget (C := RX5) (T := TX5) (N := 2) (ci := 5) (w := .ref (ad 234)) hx hb hts hi_X5 hown hK hP 233 g0_233 rfl 1 (by decide) lk_19 rfl dX5_endYear_16 ?_
    refine lv_bipush (v := 9) hx hb dX5_endYear_19 (by decide) ?_
    refine lv_aload_n hx hb dX5_endYear_21 rfl (lv_at hl 0 rfl) ?_
    refine xget (C := RX5) (T := TX5) (N := 2) (ci := 5) (w := .ref (ad 0)) hx hb hts hi_X5 hown hK hP 233 g0_233 rfl 0 (by decide) lk_10 rfl dX5_endYear_22 ?_
    refine callWV (As := [.int 9, .ref (ad 0)]) (rest := []) ⟨hx, hb, hml, hown, hts⟩ (c_X4_remember hdj X 9) (cwV 2 hts gX5_endYear_X4_remember rfl rfl rfl (by decide +kernel) ⟨Nat.le_of_ble_eq_true rfl, Nat.le_of_ble_eq_true rfl⟩) hK hN hP 234 g0_234 rfl rfl hl.1 rfl (Nat.le_of_ble_eq_true rfl) dX5_endYear_25 ⟨Nat.zero_le _, Nat.zero_le _⟩ hS (fun _ h9 => h9) (fun H locs hP hS => ?_)
    obtain ⟨X_1, eX_1⟩ : ∃ Z : St, Z = N_rem X 9 (-9) (-9) 0 := ⟨_, rfl⟩
    rw [← eX_1] at hP
    refine lv_aload_n hx hb dX5_endYear_28 rfl (lv_at hl 0 rfl) ?_
    refine xget (C := RX5) (T := TX5) (N := 2) (ci := 5) (w := .ref (ad 0)) hx hb hts hi_X5 hown hK hP 233 g0_233 rfl 0 (by decide) lk_10 rfl dX5_endYear_29 ?_
    refine xget (C := RX0) (T := TX0) (N := 6) (ci := 0) (w := .ref (ad 1)) hx hb hts hi_X0 hown hK hP 0 g0_0 rfl 0 (by decide) lk_23 rfl dX5_endYear_32 ?_
    refine lv_iconst (v := 0) hx hb dX5_endYear_35 (by decide) ?_
    refine lv_aload_n hx hb dX5_endYear_36 rfl (lv_at hl 0 rfl) ?_
    refine xget (C := RX5) (T := TX5) (N := 2) (ci := 5) (w := .ref (ad 0)) hx hb hts hi_X5 hown hK hP 233 g0_233 rfl 0 (by decide) lk_10 rfl dX5_endYear_37 ?_
    refine xget (C := RX0) (T := TX0) (N := 6) (ci := 0) (w := .int (X_1 0 14 3)) hx hb hts hi_X0 hown hK hP 0 g0_0 rfl 3 (by decide) lk_72 rfl dX5_endYear_40 ?_
    refine callE (As := [.int 0, .int (X_1 0 14 3)]) (rest := []) ⟨hx, hb, hml, hown, hts⟩ (c_X3_lapseWithin X_1 0 (X_1 0 14 3)) (cwV 2 hts gX5_endYear_X3_lapseWithin rfl rfl rfl (by decide +kernel) ⟨Nat.le_of_ble_eq_true rfl, Nat.le_of_ble_eq_true rfl⟩) hK hN hP 1 g0_1 rfl rfl hl.1 rfl (Nat.le_of_ble_eq_true rfl) dX5_endYear_43 ⟨Nat.zero_le _, Nat.zero_le _⟩ ?_
    refine lv_istore_n (lv' := [(1, .int (p_lapse (X_1 0) 0 (X_1 0 14 3) 20)), (0, .ref (ad 233))]) hx hb dX5_endYear_46 rfl hl (by decide) rfl (fun ls hl => ?_)
    refine lv_aload_n hx hb dX5_endYear_47 rfl (lv_at hl 1 rfl) ?_
    refine xget (C := RX5) (T := TX5) (N := 2) (ci := 5) (w := .ref (ad 0)) hx hb hts hi_X5 hown hK hP 233 g0_233 rfl 0 (by decide) lk_10 rfl dX5_endYear_48 ?_
    refine xget (C := RX0) (T := TX0) (N := 6) (ci := 0) (w := .ref (ad 1)) hx hb hts hi_X0 hown hK hP 0 g0_0 rfl 0 (by decide) lk_23 rfl dX5_endYear_51 ?_
    refine lv_aload_n hx hb dX5_endYear_54 rfl (lv_at hl 1 rfl) ?_
    refine xget (C := RX5) (T := TX5) (N := 2) (ci := 5) (w := .ref (ad 0)) hx hb hts hi_X5 hown hK hP 233 g0_233 rfl 0 (by decide) lk_10 rfl dX5_endYear_55 ?_
    refine xget (C := RX0) (T := TX0) (N := 6) (ci := 0) (w := .int (X_1 0 14 3)) hx hb hts hi_X0 hown hK hP 0 g0_0 rfl 3 (by decide) lk_72 rfl dX5_endYear_58 ?_
    refine callWV (As := [.int (X_1 0 14 3)]) (rest := []) ⟨hx, hb, hml, hown, hts⟩ (c_X3_carryForward hdj X_1 (X_1 0 14 3)) (cwV 1 hts gX5_endYear_X3_carryForward rfl rfl rfl (by decide +kernel) ⟨Nat.le_of_ble_eq_true rfl, Nat.le_of_ble_eq_true rfl⟩) hK hN hP 1 g0_1 rfl rfl hl.1 rfl (Nat.le_of_ble_eq_true rfl) dX5_endYear_61 ⟨Nat.zero_le _, Nat.zero_le _⟩ hS (fun _ h9 => h9) (fun H locs hP hS => ?_)
    obtain ⟨X_2, eX_2⟩ : ∃ Z : St, Z = sg X_1 0 (b_cf (X_1 0) (X_1 0 14 3) 20) := ⟨_, rfl⟩
    rw [← eX_2] at hP
    refine lv_aload_n hx hb dX5_endYear_64 rfl (lv_at hl 1 rfl) ?_
    refine xget (C := RX5) (T := TX5) (N := 2) (ci := 5) (w := .ref (ad 0)) hx hb hts hi_X5 hown hK hP 233 g0_233 rfl 0 (by decide) lk_10 rfl dX5_endYear_65 ?_
    refine lv_dup hx hb dX5_endYear_68 rfl ?_
    refine xget (C := RX0) (T := TX0) (N := 6) (ci := 0) (w := .int (X_2 0 14 4)) hx hb hts hi_X0 hown hK hP 0 g0_0 rfl 4 (by decide) lk_144 rfl dX5_endYear_69 ?_
    refine lv_iload_n hx hb dX5_endYear_72 rfl (lv_at hl 0 rfl) ?_
    refine lv_iadd hx hb dX5_endYear_73 ?_
    refine xput (C := RX0) (T := TX0) (N := 6) (ci := 0) hx hb hts hi_X0 tyX0 tyX0_ok nmX0 hown hK hP (wC_D hdj) hS 0 g0_0 rfl 4 (by decide) lk_144 rfl (by decide +kernel) (Nat.le_of_ble_eq_true rfl) s0_lapsed dX5_endYear_74 (fun H locs hP hS => ?_)
    obtain ⟨X_3, eX_3⟩ : ∃ Z : St, Z = u3 X_2 0 14 4 ((X_2 0 14 4) + (p_lapse (X_1 0) 0 (X_1 0 14 3) 20)) := ⟨_, rfl⟩
    rw [← eX_3] at hP
    refine lv_aload_n hx hb dX5_endYear_77 rfl (lv_at hl 1 rfl) ?_
    refine xget (C := RX5) (T := TX5) (N := 2) (ci := 5) (w := .ref (ad 0)) hx hb hts hi_X5 hown hK hP 233 g0_233 rfl 0 (by decide) lk_10 rfl dX5_endYear_78 ?_
    refine lv_dup hx hb dX5_endYear_81 rfl ?_
    refine xget (C := RX0) (T := TX0) (N := 6) (ci := 0) (w := .int (X_3 0 14 0)) hx hb hts hi_X0 hown hK hP 0 g0_0 rfl 2 (by decide) lk_97 rfl dX5_endYear_82 ?_
    refine lv_iconst (v := 1) hx hb dX5_endYear_85 (by decide) ?_
    refine lv_iadd hx hb dX5_endYear_86 ?_
    refine xput (C := RX0) (T := TX0) (N := 6) (ci := 0) hx hb hts hi_X0 tyX0 tyX0_ok nmX0 hown hK hP (wC_D hdj) hS 0 g0_0 rfl 2 (by decide) lk_97 rfl (by decide +kernel) (Nat.le_of_ble_eq_true rfl) s0_year dX5_endYear_87 (fun H locs hP hS => ?_)
    obtain ⟨X_4, eX_4⟩ : ∃ Z : St, Z = u3 X_3 0 14 0 ((X_3 0 14 0) + 1) := ⟨_, rfl⟩
    rw [← eX_4] at hP
    refine lv_iload_n hx hb dX5_endYear_90 rfl (lv_at hl 0 rfl) ?_
    have hg : g_endYear (X 0) = 0 := by unfold g_endYear; repeat (first | rw [ci_t c_9] | rw [ci_f c_9])
    have hZ : X_4 = sg (N_rem X 9 (-9) (-9) 0) 0 (n_endYear (X 0)) := by
      subst eX_4 eX_3 eX_2 eX_1
      try simp only [u3_sg, sg_sg, sg_g, N_rem_0]
      try unfold n_endYear
      try dsimp only
      all_goals repeat (first | rw [ci_t c_9] | rw [ci_f c_9])
      all_goals (first | rfl | (rw [sg_self]) | (simp only [u3_sg, sg_sg, sg_g, N_rem_0]; done) | (simp only [u3_sg, sg_sg, sg_g, N_rem_0]; rfl))
    have hV : p_lapse (X_1 0) 0 (X_1 0 14 3) 20 = p_lapse (X 0) 0 ((X 0) 14 3) 20 := by
      subst eX_4 eX_3 eX_2 eX_1
      try simp only [u3_sg, sg_sg, sg_g, N_rem_0]
      try dsimp only
      all_goals repeat (first | rw [ci_t c_9] | rw [ci_f c_9])
      all_goals (first | rfl | (rw [sg_self]) | (simp only [u3_sg, sg_sg, sg_g, N_rem_0]; done) | (simp only [u3_sg, sg_sg, sg_g, N_rem_0]; rfl))
    exact retWE hx hb hr hlocks (by rw [opX_0 hg, ← hZ]; exact hP) hS dX5_endYear_91 (by rw [opV_0 hg]; first | done | exact hV)
  · refine lv_bipush (v := (-2)) hx hb dX5_endYear_12 (by decide) ?_
    have hg : g_endYear (X 0) = (-2) := by unfold g_endYear; repeat (first | rw [ci_t c_9] | rw [ci_f c_9])
    exact retWE hx hb hr hlocks (by rw [opX_e hg (by decide)]; exact hP) hS dX5_endYear_14 (opV_e hg (by decide))
set_option maxHeartbeats 4000000 in
set_option maxRecDepth 100000 in
theorem c_X5_revokeVirement {l : Launch} {D : va_G} {cI cR : ClassId} {ad : Nat → Nat} (hdj : Dj 236 ad) (X : St) (q : Int32) (f : Int32) (t : Int32) (a : Int32) : WoE l D cI cR (Aw 236 ad) (wC cI cR ad X) (wC cI cR ad (opX X (g_rv (X 0) t a) 10 q (-9) 0 (b_mv (X 0) f t (-a)))) yX5_revokeVirement wsX5_revokeVirement ({ frames := 5, cells := 0, slots := 0, locals := 150 } : Room) [.ref (ad 233), .int q, .int f, .int t, .int a] (opV (g_rv (X 0) t a) a) := by
  refine OfW (cc := cX5_revokeVirement) (maxL := 5) (ret := (some .int)) (by decide +kernel) rfl (Nat.le_of_ble_eq_true rfl) (fun p e s m below meth c hx hb hr hts hown hlocks hml hnm hP hK hN ls hl => ?_)
  have hl : lv_has ls 5 [(0, .ref (ad 233)), (1, .int q), (2, .int f), (3, .int t), (4, .int a)] := hl
  have lk_10 := hts (.fieldLink RX5 10 "HeadBudgets" "now" "LHeadBudgets$Books;") (by decide +kernel)
  have lk_23 := hts (.fieldLink RX5 23 "HeadBudgets$Books" "heads" "LHeadBudgets$Heads;") (by decide +kernel)
  have lk_19 := hts (.fieldLink RX5 19 "HeadBudgets" "memory" "LHeadBudgets$Memory;") (by decide +kernel)
  have hi_X0 : ∀ w ∈ wsX00, w ∈ wsX5_revokeVirement := by decide +kernel
  have hi_X5 : ∀ w ∈ wsX50, w ∈ wsX5_revokeVirement := by decide +kernel
  have hS : va_S (Aw 236 ad) s.heap s.heap [] := va_S.rf
  have hP : va_P D vwCl (wC cI cR ad X) s.heap := hP
  refine lv_iload hx hb dX5_revokeVirement_0 (lv_at hl 4 rfl) ?_
  refine lv_aload_n hx hb dX5_revokeVirement_2 rfl (lv_at hl 0 rfl) ?_
  refine xget (C := RX5) (T := TX5) (N := 2) (ci := 5) (w := .ref (ad 0)) hx hb hts hi_X5 hown hK hP 233 g0_233 rfl 0 (by decide) lk_10 rfl dX5_revokeVirement_3 ?_
  refine xget (C := RX0) (T := TX0) (N := 6) (ci := 0) (w := .ref (ad 1)) hx hb hts hi_X0 hown hK hP 0 g0_0 rfl 0 (by decide) lk_23 rfl dX5_revokeVirement_6 ?_
  refine lv_iload_n hx hb dX5_revokeVirement_9 rfl (lv_at hl 3 rfl) ?_
  refine callE (As := [.int t]) (rest := [.int a]) ⟨hx, hb, hml, hown, hts⟩ (c_X3_freeOf X t) (cwV 1 hts gX5_revokeVirement_X3_freeOf rfl rfl rfl (by decide +kernel) ⟨Nat.le_of_ble_eq_true rfl, Nat.le_of_ble_eq_true rfl⟩) hK hN hP 1 g0_1 rfl rfl hl.1 rfl (Nat.le_of_ble_eq_true rfl) dX5_revokeVirement_10 ⟨Nat.zero_le _, Nat.zero_le _⟩ ?_
  refine lv_icmp_le (tgt := 19) hx hb dX5_revokeVirement_13 (by decide) (fun c_13 => ?_) (fun c_13 => ?_)
  · refine lv_aload_n hx hb dX5_revokeVirement_19 rfl (lv_at hl 0 rfl) ?_
    refine xget (C := RX5) (T := TX5) (N := 2) (ci := 5) (w := .ref (ad 234)) hx hb hts hi_X5 hown hK hP 233 g0_233 rfl 1 (by decide) lk_19 rfl dX5_revokeVirement_20 ?_
    refine lv_aload_n hx hb dX5_revokeVirement_23 rfl (lv_at hl 0 rfl) ?_
    refine xget (C := RX5) (T := TX5) (N := 2) (ci := 5) (w := .ref (ad 0)) hx hb hts hi_X5 hown hK hP 233 g0_233 rfl 0 (by decide) lk_10 rfl dX5_revokeVirement_24 ?_
    refine lv_iload_n hx hb dX5_revokeVirement_27 rfl (lv_at hl 1 rfl) ?_
    refine callWV (As := [.ref (ad 0), .int q]) (rest := []) ⟨hx, hb, hml, hown, hts⟩ (c_X4_rememberRevoking hdj X q) (cwV 2 hts gX5_revokeVirement_X4_rememberRevoking rfl rfl rfl (by decide +kernel) ⟨Nat.le_of_ble_eq_true rfl, Nat.le_of_ble_eq_true rfl⟩) hK hN hP 234 g0_234 rfl rfl hl.1 rfl (Nat.le_of_ble_eq_true rfl) dX5_revokeVirement_28 ⟨Nat.zero_le _, Nat.zero_le _⟩ hS (fun _ h9 => h9) (fun H locs hP hS => ?_)
    obtain ⟨X_1, eX_1⟩ : ∃ Z : St, Z = N_rem X 10 q (-9) 0 := ⟨_, rfl⟩
    rw [← eX_1] at hP
    refine lv_aload_n hx hb dX5_revokeVirement_31 rfl (lv_at hl 0 rfl) ?_
    refine xget (C := RX5) (T := TX5) (N := 2) (ci := 5) (w := .ref (ad 0)) hx hb hts hi_X5 hown hK hP 233 g0_233 rfl 0 (by decide) lk_10 rfl dX5_revokeVirement_32 ?_
    refine xget (C := RX0) (T := TX0) (N := 6) (ci := 0) (w := .ref (ad 1)) hx hb hts hi_X0 hown hK hP 0 g0_0 rfl 0 (by decide) lk_23 rfl dX5_revokeVirement_35 ?_
    refine lv_iload_n hx hb dX5_revokeVirement_38 rfl (lv_at hl 2 rfl) ?_
    refine lv_iload_n hx hb dX5_revokeVirement_39 rfl (lv_at hl 3 rfl) ?_
    refine lv_iload hx hb dX5_revokeVirement_40 (lv_at hl 4 rfl) ?_
    refine lv_ineg hx hb dX5_revokeVirement_42 ?_
    refine callWV (As := [.int f, .int t, .int (-a)]) (rest := []) ⟨hx, hb, hml, hown, hts⟩ (c_X3_moveByVirement hdj X_1 f t (-a)) (cwV 3 hts gX5_revokeVirement_X3_moveByVirement rfl rfl rfl (by decide +kernel) ⟨Nat.le_of_ble_eq_true rfl, Nat.le_of_ble_eq_true rfl⟩) hK hN hP 1 g0_1 rfl rfl hl.1 rfl (Nat.le_of_ble_eq_true rfl) dX5_revokeVirement_43 ⟨Nat.zero_le _, Nat.zero_le _⟩ hS (fun _ h9 => h9) (fun H locs hP hS => ?_)
    obtain ⟨X_2, eX_2⟩ : ∃ Z : St, Z = sg X_1 0 (b_mv (X_1 0) f t (-a)) := ⟨_, rfl⟩
    rw [← eX_2] at hP
    refine lv_iload hx hb dX5_revokeVirement_46 (lv_at hl 4 rfl) ?_
    have hg : g_rv (X 0) t a = 0 := by unfold g_rv; repeat (first | rw [ci_t c_13] | rw [ci_f c_13])
    have hZ : X_2 = sg (N_rem X 10 q (-9) 0) 0 (b_mv (X 0) f t (-a)) := by
      subst eX_2 eX_1
      try simp only [u3_sg, sg_sg, sg_g, N_rem_0]
      try dsimp only
      all_goals repeat (first | rw [ci_t c_13] | rw [ci_f c_13])
      all_goals (first | rfl | (rw [sg_self]) | (simp only [u3_sg, sg_sg, sg_g, N_rem_0]; done) | (simp only [u3_sg, sg_sg, sg_g, N_rem_0]; rfl))
    have hV : a = a := by
      subst eX_2 eX_1
      try simp only [u3_sg, sg_sg, sg_g, N_rem_0]
      try dsimp only
      all_goals repeat (first | rw [ci_t c_13] | rw [ci_f c_13])
      all_goals (first | rfl | (rw [sg_self]) | (simp only [u3_sg, sg_sg, sg_g, N_rem_0]; done) | (simp only [u3_sg, sg_sg, sg_g, N_rem_0]; rfl))
    exact retWE hx hb hr hlocks (by rw [opX_0 hg, ← hZ]; exact hP) hS dX5_revokeVirement_48 (by rw [opV_0 hg]; first | done | exact hV)
  · refine lv_bipush (v := (-2)) hx hb dX5_revokeVirement_16 (by decide) ?_
    have hg : g_rv (X 0) t a = (-2) := by unfold g_rv; repeat (first | rw [ci_t c_13] | rw [ci_f c_13])
    exact retWE hx hb hr hlocks (by rw [opX_e hg (by decide)]; exact hP) hS dX5_revokeVirement_18 (opV_e hg (by decide))
set_option maxHeartbeats 4000000 in
set_option maxRecDepth 100000 in
theorem c_X5_revokeCommitment {l : Launch} {D : va_G} {cI cR : ClassId} {ad : Nat → Nat} (hdj : Dj 236 ad) (X : St) (q : Int32) (k : Int32) : WoE l D cI cR (Aw 236 ad) (wC cI cR ad X) (wC cI cR ad (opX X (g_rc (X 0) k) 10 q (-9) 0 (b_free0 (X 0) k))) yX5_revokeCommitment wsX5_revokeCommitment ({ frames := 5, cells := 0, slots := 0, locals := 150 } : Room) [.ref (ad 233), .int q, .int k] (opV (g_rc (X 0) k) (a_free0 (X 0) k)) := by
  refine OfW (cc := cX5_revokeCommitment) (maxL := 3) (ret := (some .int)) (by decide +kernel) rfl (Nat.le_of_ble_eq_true rfl) (fun p e s m below meth c hx hb hr hts hown hlocks hml hnm hP hK hN ls hl => ?_)
  have hl : lv_has ls 3 [(0, .ref (ad 233)), (1, .int q), (2, .int k)] := hl
  have lk_10 := hts (.fieldLink RX5 10 "HeadBudgets" "now" "LHeadBudgets$Books;") (by decide +kernel)
  have lk_82 := hts (.fieldLink RX5 82 "HeadBudgets$Books" "commitments" "LHeadBudgets$Commitments;") (by decide +kernel)
  have lk_104 := hts (.fieldLink RX5 104 "HeadBudgets$Commitments" "open" "[I") (by decide +kernel)
  have lk_19 := hts (.fieldLink RX5 19 "HeadBudgets" "memory" "LHeadBudgets$Memory;") (by decide +kernel)
  have hi_X0 : ∀ w ∈ wsX00, w ∈ wsX5_revokeCommitment := by decide +kernel
  have hi_X1 : ∀ w ∈ wsX10, w ∈ wsX5_revokeCommitment := by decide +kernel
  have hi_X5 : ∀ w ∈ wsX50, w ∈ wsX5_revokeCommitment := by decide +kernel
  have hS : va_S (Aw 236 ad) s.heap s.heap [] := va_S.rf
  have hP : va_P D vwCl (wC cI cR ad X) s.heap := hP
  refine lv_aload_n hx hb dX5_revokeCommitment_0 rfl (lv_at hl 0 rfl) ?_
  refine xget (C := RX5) (T := TX5) (N := 2) (ci := 5) (w := .ref (ad 0)) hx hb hts hi_X5 hown hK hP 233 g0_233 rfl 0 (by decide) lk_10 rfl dX5_revokeCommitment_1 ?_
  refine xget (C := RX0) (T := TX0) (N := 6) (ci := 0) (w := .ref (ad 12)) hx hb hts hi_X0 hown hK hP 0 g0_0 rfl 1 (by decide) lk_82 rfl dX5_revokeCommitment_4 ?_
  refine lv_iload_n hx hb dX5_revokeCommitment_7 rfl (lv_at hl 2 rfl) ?_
  refine callB (As := [.int k]) (rest := []) ⟨hx, hb, hml, hown, hts⟩ (c_X1_has X k) (cwV 1 hts gX5_revokeCommitment_X1_has rfl rfl rfl (by decide +kernel) ⟨Nat.le_of_ble_eq_true rfl, Nat.le_of_ble_eq_true rfl⟩) hK hN hP 12 g0_12 rfl rfl hl.1 rfl (Nat.le_of_ble_eq_true rfl) dX5_revokeCommitment_8 ⟨Nat.zero_le _, Nat.zero_le _⟩ (fun c_8 => ?_) (fun c_8 => ?_)
  · refine lv_if_eq (tgt := 29) hx hb dX5_revokeCommitment_11 (by decide) (fun h9 => absurd h9 (by decide)) (fun _ => ?_)
    refine lv_aload_n hx hb dX5_revokeCommitment_14 rfl (lv_at hl 0 rfl) ?_
    refine xget (C := RX5) (T := TX5) (N := 2) (ci := 5) (w := .ref (ad 0)) hx hb hts hi_X5 hown hK hP 233 g0_233 rfl 0 (by decide) lk_10 rfl dX5_revokeCommitment_15 ?_
    refine xget (C := RX0) (T := TX0) (N := 6) (ci := 0) (w := .ref (ad 12)) hx hb hts hi_X0 hown hK hP 0 g0_0 rfl 1 (by decide) lk_82 rfl dX5_revokeCommitment_18 ?_
    refine xget (C := RX1) (T := TX1) (N := 5) (ci := 1) (w := .ref (ad 14)) hx hb hts hi_X1 hown hK hP 12 g0_12 rfl 1 (by decide) lk_104 rfl dX5_revokeCommitment_21 ?_
    refine lv_iload_n hx hb dX5_revokeCommitment_24 rfl (lv_at hl 2 rfl) ?_
    refine xald (x := qv (X 0) 11 k) hx hb hK hP 14 g0_14 (in40h c_8) rfl dX5_revokeCommitment_25 ?_
    refine lv_if_ne (tgt := 32) hx hb dX5_revokeCommitment_26 (by decide) (fun c_26 => ?_) (fun c_26 => ?_)
    · refine lv_aload_n hx hb dX5_revokeCommitment_32 rfl (lv_at hl 0 rfl) ?_
      refine xget (C := RX5) (T := TX5) (N := 2) (ci := 5) (w := .ref (ad 234)) hx hb hts hi_X5 hown hK hP 233 g0_233 rfl 1 (by decide) lk_19 rfl dX5_revokeCommitment_33 ?_
      refine lv_aload_n hx hb dX5_revokeCommitment_36 rfl (lv_at hl 0 rfl) ?_
      refine xget (C := RX5) (T := TX5) (N := 2) (ci := 5) (w := .ref (ad 0)) hx hb hts hi_X5 hown hK hP 233 g0_233 rfl 0 (by decide) lk_10 rfl dX5_revokeCommitment_37 ?_
      refine lv_iload_n hx hb dX5_revokeCommitment_40 rfl (lv_at hl 1 rfl) ?_
      refine callWV (As := [.ref (ad 0), .int q]) (rest := []) ⟨hx, hb, hml, hown, hts⟩ (c_X4_rememberRevoking hdj X q) (cwV 2 hts gX5_revokeCommitment_X4_rememberRevoking rfl rfl rfl (by decide +kernel) ⟨Nat.le_of_ble_eq_true rfl, Nat.le_of_ble_eq_true rfl⟩) hK hN hP 234 g0_234 rfl rfl hl.1 rfl (Nat.le_of_ble_eq_true rfl) dX5_revokeCommitment_41 ⟨Nat.zero_le _, Nat.zero_le _⟩ hS (fun _ h9 => h9) (fun H locs hP hS => ?_)
      obtain ⟨X_1, eX_1⟩ : ∃ Z : St, Z = N_rem X 10 q (-9) 0 := ⟨_, rfl⟩
      rw [← eX_1] at hP
      refine lv_aload_n hx hb dX5_revokeCommitment_44 rfl (lv_at hl 0 rfl) ?_
      refine xget (C := RX5) (T := TX5) (N := 2) (ci := 5) (w := .ref (ad 0)) hx hb hts hi_X5 hown hK hP 233 g0_233 rfl 0 (by decide) lk_10 rfl dX5_revokeCommitment_45 ?_
      refine lv_iload_n hx hb dX5_revokeCommitment_48 rfl (lv_at hl 2 rfl) ?_
      refine callWE (As := [.int k]) (rest := []) ⟨hx, hb, hml, hown, hts⟩ (c_X0_freeOpenOf hdj X_1 k) (cwV 1 hts gX5_revokeCommitment_X0_freeOpenOf rfl rfl rfl (by decide +kernel) ⟨Nat.le_of_ble_eq_true rfl, Nat.le_of_ble_eq_true rfl⟩) hK hN hP 0 g0_0 rfl rfl hl.1 rfl (Nat.le_of_ble_eq_true rfl) dX5_revokeCommitment_49 ⟨Nat.zero_le _, Nat.zero_le _⟩ hS (fun _ h9 => h9) (fun H locs hP hS _ _ => ?_)
      obtain ⟨X_2, eX_2⟩ : ∃ Z : St, Z = sg X_1 0 (b_free0 (X_1 0) k) := ⟨_, rfl⟩
      rw [← eX_2] at hP
      have hg : g_rc (X 0) k = 0 := by unfold g_rc; repeat (first | rw [ci_t c_8] | rw [ci_f c_8] | rw [ci_t c_26] | rw [ci_f c_26])
      have hZ : X_2 = sg (N_rem X 10 q (-9) 0) 0 (b_free0 (X 0) k) := by
        subst eX_2 eX_1
        try simp only [u3_sg, sg_sg, sg_g, N_rem_0]
        try dsimp only
        all_goals repeat (first | rw [ci_t c_8] | rw [ci_f c_8] | rw [ci_t c_26] | rw [ci_f c_26])
        all_goals (first | rfl | (rw [sg_self]) | (simp only [u3_sg, sg_sg, sg_g, N_rem_0]; done) | (simp only [u3_sg, sg_sg, sg_g, N_rem_0]; rfl))
      have hV : a_free0 (X_1 0) k = a_free0 (X 0) k := by
        subst eX_2 eX_1
        try simp only [u3_sg, sg_sg, sg_g, N_rem_0]
        try dsimp only
        all_goals repeat (first | rw [ci_t c_8] | rw [ci_f c_8] | rw [ci_t c_26] | rw [ci_f c_26])
        all_goals (first | rfl | (rw [sg_self]) | (simp only [u3_sg, sg_sg, sg_g, N_rem_0]; done) | (simp only [u3_sg, sg_sg, sg_g, N_rem_0]; rfl))
      exact retWE hx hb hr hlocks (by rw [opX_0 hg, ← hZ]; exact hP) hS dX5_revokeCommitment_52 (by rw [opV_0 hg]; first | done | exact hV)
    · refine lv_bipush (v := (-2)) hx hb dX5_revokeCommitment_29 (by decide) ?_
      have hg : g_rc (X 0) k = (-2) := by unfold g_rc; repeat (first | rw [ci_t c_8] | rw [ci_f c_8] | rw [ci_t c_26] | rw [ci_f c_26])
      exact retWE hx hb hr hlocks (by rw [opX_e hg (by decide)]; exact hP) hS dX5_revokeCommitment_31 (opV_e hg (by decide))
  · refine lv_if_eq (tgt := 29) hx hb dX5_revokeCommitment_11 (by decide) (fun _ => ?_) (fun h9 => absurd (by decide) h9)
    refine lv_bipush (v := (-2)) hx hb dX5_revokeCommitment_29 (by decide) ?_
    have hg : g_rc (X 0) k = (-2) := by unfold g_rc; repeat (first | rw [ci_t c_8] | rw [ci_f c_8])
    exact retWE hx hb hr hlocks (by rw [opX_e hg (by decide)]; exact hP) hS dX5_revokeCommitment_31 (opV_e hg (by decide))
set_option maxHeartbeats 4000000 in
set_option maxRecDepth 100000 in
theorem c_X5_undo {l : Launch} {D : va_G} {cI cR : ClassId} {ad : Nat → Nat} (hdj : Dj 236 ad) (X : St) : WoE l D cI cR (Aw 236 ad) (wC cI cR ad X) (wC cI cR ad (N_undo X)) yX5_undo wsX5_undo ({ frames := 3, cells := 0, slots := 0, locals := 102 } : Room) [.ref (ad 233)] (R_undo X) := by
  refine OfW (cc := cX5_undo) (maxL := 2) (ret := (some .int)) (by decide +kernel) rfl (Nat.le_of_ble_eq_true rfl) (fun p e s m below meth c hx hb hr hts hown hlocks hml hnm hP hK hN ls hl => ?_)
  have hl : lv_has ls 2 [(0, .ref (ad 233))] := hl
  have lk_19 := hts (.fieldLink RX5 19 "HeadBudgets" "memory" "LHeadBudgets$Memory;") (by decide +kernel)
  have lk_10 := hts (.fieldLink RX5 10 "HeadBudgets" "now" "LHeadBudgets$Books;") (by decide +kernel)
  have lk_151 := hts (.fieldLink RX5 151 "HeadBudgets$Deed" "before" "LHeadBudgets$Books;") (by decide +kernel)
  have hi_X2 : ∀ w ∈ wsX20, w ∈ wsX5_undo := by decide +kernel
  have hi_X5 : ∀ w ∈ wsX50, w ∈ wsX5_undo := by decide +kernel
  have hS : va_S (Aw 236 ad) s.heap s.heap [] := va_S.rf
  have hP : va_P D vwCl (wC cI cR ad X) s.heap := hP
  refine lv_aload_n hx hb dX5_undo_0 rfl (lv_at hl 0 rfl) ?_
  refine xget (C := RX5) (T := TX5) (N := 2) (ci := 5) (w := .ref (ad 234)) hx hb hts hi_X5 hown hK hP 233 g0_233 rfl 1 (by decide) lk_19 rfl dX5_undo_1 ?_
  refine lv_iconst (v := 0) hx hb dX5_undo_4 (by decide) ?_
  refine callQ (As := [.int 0]) (rest := []) ⟨hx, hb, hml, hown, hts⟩ (c_X4_recall X 0) (cwV 1 hts gX5_undo_X4_recall rfl rfl rfl (by decide +kernel) ⟨Nat.le_of_ble_eq_true rfl, Nat.le_of_ble_eq_true rfl⟩) hK hN hP 234 g0_234 rfl rfl hl.1 rfl (Nat.le_of_ble_eq_true rfl) dX5_undo_5 ⟨Nat.zero_le _, Nat.zero_le _⟩ ?_
  by_cases c_5 : p_norec X 0
  · rw [p_rec_none c_5]
    refine W.eq (g2 := F0 m 8 ls [.null]) rfl ?_
    refine lv_astore_nN (lv' := [(1, .null), (0, .ref (ad 233))]) hx hb dX5_undo_8 rfl hl (by decide) rfl (fun ls hl => ?_)
    refine lv_aload_nN hx hb dX5_undo_9 rfl (lv_at hl 0 rfl) ?_
    refine lv_ifnonnullN hx hb dX5_undo_10 ?_
    refine lv_bipush (v := (-2)) hx hb dX5_undo_13 (by decide) ?_
    have hZ : X = N_undo X := by
      try simp only [m_nil]
      try unfold N_undo
      try dsimp only
      all_goals repeat (first | rw [ci_t c_5] | rw [ci_f c_5])
      all_goals (first | rfl | (rw [sg_self]) | (simp only [m_nil]; done) | (simp only [m_nil]; rfl))
    have hV : (-2) = R_undo X := by
      try simp only [m_nil]
      try unfold R_undo
      try dsimp only
      all_goals repeat (first | rw [ci_t c_5] | rw [ci_f c_5])
      all_goals (first | rfl | (rw [sg_self]) | (simp only [m_nil]; done) | (simp only [m_nil]; rfl))
    exact retWE hx hb hr hlocks (by rw [← hZ]; exact hP) hS dX5_undo_15 hV
  · rw [p_rec_some c_5]
    obtain ⟨z_5, ez_5, hz_5⟩ : ∃ z : Nat, z = (p_slot X 0).toNatClampNeg ∧ z < 12 := ⟨_, rfl, slot_lt _ _⟩
    rw [← ez_5]
    refine W.eq (g2 := F0 m 8 ls [.ref (ad (221 + z_5))]) rfl ?_
    refine lv_astore_n (lv' := [(1, .ref (ad (221 + z_5))), (0, .ref (ad 233))]) hx hb dX5_undo_8 rfl hl (by decide) rfl (fun ls hl => ?_)
    refine lv_aload_n hx hb dX5_undo_9 rfl (lv_at hl 0 rfl) ?_
    refine lv_ifnonnull (tgt := 16) hx hb dX5_undo_10 (by decide) ?_
    refine lv_aload_n hx hb dX5_undo_16 rfl (lv_at hl 1 rfl) ?_
    refine xget (C := RX5) (T := TX5) (N := 2) (ci := 5) (w := .ref (ad 0)) hx hb hts hi_X5 hown hK hP 233 g0_233 rfl 0 (by decide) lk_10 rfl dX5_undo_17 ?_
    refine lv_aload_n hx hb dX5_undo_20 rfl (lv_at hl 0 rfl) ?_
    refine xget (C := RX2) (T := TX2) (N := 6) (ci := 2) (w := .ref (ad (17 * (z_5 + 1)))) hx hb hts hi_X2 hown hK hP ((221 + z_5)) (gd hz_5) rfl 0 (by decide) lk_151 rfl dX5_undo_21 ?_
    refine callWV (As := [.ref (ad (17 * (z_5 + 1)))]) (rest := []) ⟨hx, hb, hml, hown, hts⟩ (c_X0_copyFrom hdj X 0 ((z_5 + 1)) (by decide) (by omega) (by omega)) (cwV 1 hts gX5_undo_X0_copyFrom rfl rfl rfl (by decide +kernel) ⟨Nat.le_of_ble_eq_true rfl, Nat.le_of_ble_eq_true rfl⟩) hK hN hP 0 g0_0 rfl rfl hl.1 rfl (Nat.le_of_ble_eq_true rfl) dX5_undo_24 ⟨Nat.zero_le _, Nat.zero_le _⟩ hS (fun _ h9 => h9) (fun H locs hP hS => ?_)
    obtain ⟨X_1, eX_1⟩ : ∃ Z : St, Z = sg X 0 (X ((z_5 + 1))) := ⟨_, rfl⟩
    rw [← eX_1] at hP
    refine lv_aload_n hx hb dX5_undo_27 rfl (lv_at hl 1 rfl) ?_
    refine xget (C := RX5) (T := TX5) (N := 2) (ci := 5) (w := .ref (ad 234)) hx hb hts hi_X5 hown hK hP 233 g0_233 rfl 1 (by decide) lk_19 rfl dX5_undo_28 ?_
    refine callWE (As := []) (rest := []) ⟨hx, hb, hml, hown, hts⟩ (c_X4_forgetLatest hdj X_1) (cwV 0 hts gX5_undo_X4_forgetLatest rfl rfl rfl (by decide +kernel) ⟨Nat.le_of_ble_eq_true rfl, Nat.le_of_ble_eq_true rfl⟩) hK hN hP 234 g0_234 rfl rfl hl.1 rfl (Nat.le_of_ble_eq_true rfl) dX5_undo_31 ⟨Nat.zero_le _, Nat.zero_le _⟩ hS (fun _ h9 => h9) (fun H locs hP hS _ _ => ?_)
    obtain ⟨X_2, eX_2⟩ : ∃ Z : St, Z = N_fl X_1 := ⟨_, rfl⟩
    rw [← eX_2] at hP
    have hZ : X_2 = N_undo X := by
      subst eX_2 eX_1 ez_5
      try simp only [m_nil]
      try unfold N_undo
      try dsimp only
      all_goals repeat (first | rw [ci_t c_5] | rw [ci_f c_5])
      all_goals (first | rfl | (rw [sg_self]) | (simp only [m_nil]; done) | (simp only [m_nil]; rfl))
    have hV : a_fl X_1 = R_undo X := by
      subst eX_2 eX_1 ez_5
      try simp only [m_nil]
      try unfold R_undo
      try dsimp only
      all_goals repeat (first | rw [ci_t c_5] | rw [ci_f c_5])
      all_goals (first | rfl | (rw [sg_self]) | (simp only [m_nil]; done) | (simp only [m_nil]; rfl))
    exact retWE hx hb hr hlocks (by rw [← hZ]; exact hP) hS dX5_undo_34 hV
set_option maxHeartbeats 4000000 in
set_option maxRecDepth 100000 in
theorem c_X5_revoke {l : Launch} {D : va_G} {cI cR : ClassId} {ad : Nat → Nat} (hdj : Dj 236 ad) (X : St) (i : Int32) : WoE l D cI cR (Aw 236 ad) (wC cI cR ad X) (wC cI cR ad (N_revoke X i)) yX5_revoke wsX5_revoke ({ frames := 6, cells := 0, slots := 0, locals := 174 } : Room) [.ref (ad 233), .int i] (R_revoke X i) := by
  refine OfW (cc := cX5_revoke) (maxL := 3) (ret := (some .int)) (by decide +kernel) rfl (Nat.le_of_ble_eq_true rfl) (fun p e s m below meth c hx hb hr hts hown hlocks hml hnm hP hK hN ls hl => ?_)
  have hl : lv_has ls 3 [(0, .ref (ad 233)), (1, .int i)] := hl
  have lk_19 := hts (.fieldLink RX5 19 "HeadBudgets" "memory" "LHeadBudgets$Memory;") (by decide +kernel)
  have lk_151 := hts (.fieldLink RX5 151 "HeadBudgets$Deed" "before" "LHeadBudgets$Books;") (by decide +kernel)
  have lk_97 := hts (.fieldLink RX5 97 "HeadBudgets$Books" "year" "I") (by decide +kernel)
  have lk_10 := hts (.fieldLink RX5 10 "HeadBudgets" "now" "LHeadBudgets$Books;") (by decide +kernel)
  have lk_163 := hts (.fieldLink RX5 163 "HeadBudgets$Deed" "number" "I") (by decide +kernel)
  have lk_169 := hts (.fieldLink RX5 169 "HeadBudgets$Deed" "kind" "I") (by decide +kernel)
  have lk_172 := hts (.fieldLink RX5 172 "HeadBudgets$Deed" "subject" "I") (by decide +kernel)
  have lk_175 := hts (.fieldLink RX5 175 "HeadBudgets$Deed" "taker" "I") (by decide +kernel)
  have lk_178 := hts (.fieldLink RX5 178 "HeadBudgets$Deed" "amount" "I") (by decide +kernel)
  have hi_X0 : ∀ w ∈ wsX00, w ∈ wsX5_revoke := by decide +kernel
  have hi_X2 : ∀ w ∈ wsX20, w ∈ wsX5_revoke := by decide +kernel
  have hi_X5 : ∀ w ∈ wsX50, w ∈ wsX5_revoke := by decide +kernel
  have hS : va_S (Aw 236 ad) s.heap s.heap [] := va_S.rf
  have hP : va_P D vwCl (wC cI cR ad X) s.heap := hP
  refine lv_iload_n hx hb dX5_revoke_0 rfl (lv_at hl 1 rfl) ?_
  refine lv_if_ge (tgt := 6) hx hb dX5_revoke_1 (by decide) (fun c_1 => ?_) (fun c_1 => ?_)
  · refine lv_aload_n hx hb dX5_revoke_6 rfl (lv_at hl 0 rfl) ?_
    refine xget (C := RX5) (T := TX5) (N := 2) (ci := 5) (w := .ref (ad 234)) hx hb hts hi_X5 hown hK hP 233 g0_233 rfl 1 (by decide) lk_19 rfl dX5_revoke_7 ?_
    refine lv_iload_n hx hb dX5_revoke_10 rfl (lv_at hl 1 rfl) ?_
    refine callQ (As := [.int i]) (rest := []) ⟨hx, hb, hml, hown, hts⟩ (c_X4_recall X i) (cwV 1 hts gX5_revoke_X4_recall rfl rfl rfl (by decide +kernel) ⟨Nat.le_of_ble_eq_true rfl, Nat.le_of_ble_eq_true rfl⟩) hK hN hP 234 g0_234 rfl rfl hl.1 rfl (Nat.le_of_ble_eq_true rfl) dX5_revoke_11 ⟨Nat.zero_le _, Nat.zero_le _⟩ ?_
    by_cases c_11 : p_norec X i
    · rw [p_rec_none c_11]
      refine W.eq (g2 := F0 m 14 ls [.null]) rfl ?_
      refine lv_astore_nN (lv' := [(2, .null), (0, .ref (ad 233)), (1, .int i)]) hx hb dX5_revoke_14 rfl hl (by decide) rfl (fun ls hl => ?_)
      refine lv_aload_nN hx hb dX5_revoke_15 rfl (lv_at hl 0 rfl) ?_
      refine lv_ifnullN (tgt := 50) hx hb dX5_revoke_16 (by decide) ?_
      refine lv_bipush (v := (-2)) hx hb dX5_revoke_50 (by decide) ?_
      have hZ : X = N_revoke X i := by
        try simp only [m_nil]
        try unfold N_revoke N_rk
        try dsimp only
        all_goals repeat (first | rw [ci_t c_1] | rw [ci_f c_1] | rw [ci_t c_11] | rw [ci_f c_11])
        all_goals (first | rfl | (rw [sg_self]) | (simp only [m_nil]; done) | (simp only [m_nil]; rfl))
      have hV : (-2) = R_revoke X i := by
        try simp only [m_nil]
        try unfold R_revoke R_rk
        try dsimp only
        all_goals repeat (first | rw [ci_t c_1] | rw [ci_f c_1] | rw [ci_t c_11] | rw [ci_f c_11])
        all_goals (first | rfl | (rw [sg_self]) | (simp only [m_nil]; done) | (simp only [m_nil]; rfl))
      exact retWE hx hb hr hlocks (by rw [← hZ]; exact hP) hS dX5_revoke_52 hV
    · rw [p_rec_some c_11]
      obtain ⟨z_11, ez_11, hz_11⟩ : ∃ z : Nat, z = (p_slot X i).toNatClampNeg ∧ z < 12 := ⟨_, rfl, slot_lt _ _⟩
      rw [← ez_11]
      refine W.eq (g2 := F0 m 14 ls [.ref (ad (221 + z_11))]) rfl ?_
      refine lv_astore_n (lv' := [(2, .ref (ad (221 + z_11))), (0, .ref (ad 233)), (1, .int i)]) hx hb dX5_revoke_14 rfl hl (by decide) rfl (fun ls hl => ?_)
      refine lv_aload_n hx hb dX5_revoke_15 rfl (lv_at hl 0 rfl) ?_
      refine lv_ifnull hx hb dX5_revoke_16 ?_
      refine lv_aload_n hx hb dX5_revoke_19 rfl (lv_at hl 0 rfl) ?_
      refine xget (C := RX2) (T := TX2) (N := 6) (ci := 2) (w := .ref (ad (17 * (z_11 + 1)))) hx hb hts hi_X2 hown hK hP ((221 + z_11)) (gd hz_11) rfl 0 (by decide) lk_151 rfl dX5_revoke_20 ?_
      refine xget (C := RX0) (T := TX0) (N := 6) (ci := 0) (w := .int (X ((z_11 + 1)) 14 0)) hx hb hts hi_X0 hown hK hP (17 * (z_11 + 1) + 0) (gg_0 (show (z_11 + 1) < 13 by omega)) rfl 2 (by decide) lk_97 rfl dX5_revoke_23 ?_
      refine lv_aload_n hx hb dX5_revoke_26 rfl (lv_at hl 1 rfl) ?_
      refine xget (C := RX5) (T := TX5) (N := 2) (ci := 5) (w := .ref (ad 0)) hx hb hts hi_X5 hown hK hP 233 g0_233 rfl 0 (by decide) lk_10 rfl dX5_revoke_27 ?_
      refine xget (C := RX0) (T := TX0) (N := 6) (ci := 0) (w := .int (X 0 14 0)) hx hb hts hi_X0 hown hK hP 0 g0_0 rfl 2 (by decide) lk_97 rfl dX5_revoke_30 ?_
      refine lv_icmp_ne (tgt := 50) hx hb dX5_revoke_33 (by decide) (fun c_33 => ?_) (fun c_33 => ?_)
      · refine lv_bipush (v := (-2)) hx hb dX5_revoke_50 (by decide) ?_
        have hZ : X = N_revoke X i := by
          subst ez_11
          try simp only [m_nil]
          try unfold N_revoke N_rk
          try dsimp only
          all_goals repeat (first | rw [ci_t c_1] | rw [ci_f c_1] | rw [ci_t c_11] | rw [ci_f c_11] | rw [ci_t c_33] | rw [ci_f c_33])
          all_goals (first | rfl | (rw [sg_self]) | (simp only [m_nil]; done) | (simp only [m_nil]; rfl))
        have hV : (-2) = R_revoke X i := by
          subst ez_11
          try simp only [m_nil]
          try unfold R_revoke R_rk
          try dsimp only
          all_goals repeat (first | rw [ci_t c_1] | rw [ci_f c_1] | rw [ci_t c_11] | rw [ci_f c_11] | rw [ci_t c_33] | rw [ci_f c_33])
          all_goals (first | rfl | (rw [sg_self]) | (simp only [m_nil]; done) | (simp only [m_nil]; rfl))
        exact retWE hx hb hr hlocks (by rw [← hZ]; exact hP) hS dX5_revoke_52 hV
      · refine lv_aload_n hx hb dX5_revoke_36 rfl (lv_at hl 1 rfl) ?_
        refine xget (C := RX5) (T := TX5) (N := 2) (ci := 5) (w := .ref (ad 234)) hx hb hts hi_X5 hown hK hP 233 g0_233 rfl 1 (by decide) lk_19 rfl dX5_revoke_37 ?_
        refine lv_aload_n hx hb dX5_revoke_40 rfl (lv_at hl 0 rfl) ?_
        refine xget (C := RX2) (T := TX2) (N := 6) (ci := 2) (w := .int (X 13 0 z_11)) hx hb hts hi_X2 hown hK hP ((221 + z_11)) (gd hz_11) rfl 1 (by decide) lk_163 rfl dX5_revoke_41 ?_
        refine callB (As := [.int (X 13 0 z_11)]) (rest := []) ⟨hx, hb, hml, hown, hts⟩ (c_X4_wasRevoked X (X 13 0 z_11)) (cwV 1 hts gX5_revoke_X4_wasRevoked rfl rfl rfl (by decide +kernel) ⟨Nat.le_of_ble_eq_true rfl, Nat.le_of_ble_eq_true rfl⟩) hK hN hP 234 g0_234 rfl rfl hl.1 rfl (Nat.le_of_ble_eq_true rfl) dX5_revoke_44 ⟨Nat.zero_le _, Nat.zero_le _⟩ (fun c_44 => ?_) (fun c_44 => ?_)
        · refine lv_if_eq (tgt := 53) hx hb dX5_revoke_47 (by decide) (fun h9 => absurd h9 (by decide)) (fun _ => ?_)
          refine lv_bipush (v := (-2)) hx hb dX5_revoke_50 (by decide) ?_
          have hZ : X = N_revoke X i := by
            subst ez_11
            try simp only [m_nil]
            try unfold N_revoke N_rk
            try dsimp only
            all_goals repeat (first | rw [ci_t c_1] | rw [ci_f c_1] | rw [ci_t c_11] | rw [ci_f c_11] | rw [ci_t c_33] | rw [ci_f c_33] | rw [ci_t c_44] | rw [ci_f c_44])
            all_goals (first | rfl | (rw [sg_self]) | (simp only [m_nil]; done) | (simp only [m_nil]; rfl))
          have hV : (-2) = R_revoke X i := by
            subst ez_11
            try simp only [m_nil]
            try unfold R_revoke R_rk
            try dsimp only
            all_goals repeat (first | rw [ci_t c_1] | rw [ci_f c_1] | rw [ci_t c_11] | rw [ci_f c_11] | rw [ci_t c_33] | rw [ci_f c_33] | rw [ci_t c_44] | rw [ci_f c_44])
            all_goals (first | rfl | (rw [sg_self]) | (simp only [m_nil]; done) | (simp only [m_nil]; rfl))
          exact retWE hx hb hr hlocks (by rw [← hZ]; exact hP) hS dX5_revoke_52 hV
        · refine lv_if_eq (tgt := 53) hx hb dX5_revoke_47 (by decide) (fun _ => ?_) (fun h9 => absurd (by decide) h9)
          refine lv_aload_n hx hb dX5_revoke_53 rfl (lv_at hl 0 rfl) ?_
          refine xget (C := RX2) (T := TX2) (N := 6) (ci := 2) (w := .int (X 13 1 z_11)) hx hb hts hi_X2 hown hK hP ((221 + z_11)) (gd hz_11) rfl 2 (by decide) lk_169 rfl dX5_revoke_54 ?_
          refine lv_bipush (v := 8) hx hb dX5_revoke_57 (by decide) ?_
          refine lv_icmp_ne (tgt := 83) hx hb dX5_revoke_59 (by decide) (fun c_59 => ?_) (fun c_59 => ?_)
          · refine lv_aload_n hx hb dX5_revoke_83 rfl (lv_at hl 0 rfl) ?_
            refine xget (C := RX2) (T := TX2) (N := 6) (ci := 2) (w := .int (X 13 1 z_11)) hx hb hts hi_X2 hown hK hP ((221 + z_11)) (gd hz_11) rfl 2 (by decide) lk_169 rfl dX5_revoke_84 ?_
            refine lv_iconst (v := 5) hx hb dX5_revoke_87 (by decide) ?_
            refine lv_icmp_ne (tgt := 104) hx hb dX5_revoke_88 (by decide) (fun c_88 => ?_) (fun c_88 => ?_)
            · refine lv_bipush (v := (-2)) hx hb dX5_revoke_104 (by decide) ?_
              have hZ : X = N_revoke X i := by
                subst ez_11
                try simp only [m_nil]
                try unfold N_revoke N_rk
                try dsimp only
                all_goals repeat (first | rw [ci_t c_1] | rw [ci_f c_1] | rw [ci_t c_11] | rw [ci_f c_11] | rw [ci_t c_33] | rw [ci_f c_33] | rw [ci_t c_44] | rw [ci_f c_44] | rw [ci_t c_59] | rw [ci_f c_59] | rw [ci_t c_88] | rw [ci_f c_88])
                all_goals (first | rfl | (rw [sg_self]) | (simp only [m_nil]; done) | (simp only [m_nil]; rfl))
              have hV : (-2) = R_revoke X i := by
                subst ez_11
                try simp only [m_nil]
                try unfold R_revoke R_rk
                try dsimp only
                all_goals repeat (first | rw [ci_t c_1] | rw [ci_f c_1] | rw [ci_t c_11] | rw [ci_f c_11] | rw [ci_t c_33] | rw [ci_f c_33] | rw [ci_t c_44] | rw [ci_f c_44] | rw [ci_t c_59] | rw [ci_f c_59] | rw [ci_t c_88] | rw [ci_f c_88])
                all_goals (first | rfl | (rw [sg_self]) | (simp only [m_nil]; done) | (simp only [m_nil]; rfl))
              exact retWE hx hb hr hlocks (by rw [← hZ]; exact hP) hS dX5_revoke_106 hV
            · refine lv_aload_n hx hb dX5_revoke_91 rfl (lv_at hl 1 rfl) ?_
              refine lv_aload_n hx hb dX5_revoke_92 rfl (lv_at hl 0 rfl) ?_
              refine xget (C := RX2) (T := TX2) (N := 6) (ci := 2) (w := .int (X 13 0 z_11)) hx hb hts hi_X2 hown hK hP ((221 + z_11)) (gd hz_11) rfl 1 (by decide) lk_163 rfl dX5_revoke_93 ?_
              refine lv_aload_n hx hb dX5_revoke_96 rfl (lv_at hl 0 rfl) ?_
              refine xget (C := RX2) (T := TX2) (N := 6) (ci := 2) (w := .int (X 13 2 z_11)) hx hb hts hi_X2 hown hK hP ((221 + z_11)) (gd hz_11) rfl 3 (by decide) lk_172 rfl dX5_revoke_97 ?_
              refine callWE (As := [.int (X 13 0 z_11), .int (X 13 2 z_11)]) (rest := []) ⟨hx, hb, hml, hown, hts⟩ (c_X5_revokeCommitment hdj X (X 13 0 z_11) (X 13 2 z_11)) (cwV 2 hts gX5_revoke_X5_revokeCommitment rfl rfl rfl (by decide +kernel) ⟨Nat.le_of_ble_eq_true rfl, Nat.le_of_ble_eq_true rfl⟩) hK hN hP 233 g0_233 rfl rfl hl.1 rfl (Nat.le_of_ble_eq_true rfl) dX5_revoke_100 ⟨Nat.zero_le _, Nat.zero_le _⟩ hS (fun _ h9 => h9) (fun H locs hP hS _ _ => ?_)
              obtain ⟨X_1, eX_1⟩ : ∃ Z : St, Z = opX X (g_rc (X 0) (X 13 2 z_11)) 10 (X 13 0 z_11) (-9) 0 (b_free0 (X 0) (X 13 2 z_11)) := ⟨_, rfl⟩
              rw [← eX_1] at hP
              have hZ : X_1 = N_revoke X i := by
                subst eX_1 ez_11
                try simp only [m_nil]
                try unfold N_revoke N_rk
                try dsimp only
                all_goals repeat (first | rw [ci_t c_1] | rw [ci_f c_1] | rw [ci_t c_11] | rw [ci_f c_11] | rw [ci_t c_33] | rw [ci_f c_33] | rw [ci_t c_44] | rw [ci_f c_44] | rw [ci_t c_59] | rw [ci_f c_59] | rw [ci_t c_88] | rw [ci_f c_88])
                all_goals (first | rfl | (rw [sg_self]) | (simp only [m_nil]; done) | (simp only [m_nil]; rfl))
              have hV : opV (g_rc (X 0) (X 13 2 z_11)) (a_free0 (X 0) (X 13 2 z_11)) = R_revoke X i := by
                subst eX_1 ez_11
                try simp only [m_nil]
                try unfold R_revoke R_rk
                try dsimp only
                all_goals repeat (first | rw [ci_t c_1] | rw [ci_f c_1] | rw [ci_t c_11] | rw [ci_f c_11] | rw [ci_t c_33] | rw [ci_f c_33] | rw [ci_t c_44] | rw [ci_f c_44] | rw [ci_t c_59] | rw [ci_f c_59] | rw [ci_t c_88] | rw [ci_f c_88])
                all_goals (first | rfl | (rw [sg_self]) | (simp only [m_nil]; done) | (simp only [m_nil]; rfl))
              exact retWE hx hb hr hlocks (by rw [← hZ]; exact hP) hS dX5_revoke_103 hV
          · refine lv_aload_n hx hb dX5_revoke_62 rfl (lv_at hl 1 rfl) ?_
            refine lv_aload_n hx hb dX5_revoke_63 rfl (lv_at hl 0 rfl) ?_
            refine xget (C := RX2) (T := TX2) (N := 6) (ci := 2) (w := .int (X 13 0 z_11)) hx hb hts hi_X2 hown hK hP ((221 + z_11)) (gd hz_11) rfl 1 (by decide) lk_163 rfl dX5_revoke_64 ?_
            refine lv_aload_n hx hb dX5_revoke_67 rfl (lv_at hl 0 rfl) ?_
            refine xget (C := RX2) (T := TX2) (N := 6) (ci := 2) (w := .int (X 13 2 z_11)) hx hb hts hi_X2 hown hK hP ((221 + z_11)) (gd hz_11) rfl 3 (by decide) lk_172 rfl dX5_revoke_68 ?_
            refine lv_aload_n hx hb dX5_revoke_71 rfl (lv_at hl 0 rfl) ?_
            refine xget (C := RX2) (T := TX2) (N := 6) (ci := 2) (w := .int (X 13 3 z_11)) hx hb hts hi_X2 hown hK hP ((221 + z_11)) (gd hz_11) rfl 4 (by decide) lk_175 rfl dX5_revoke_72 ?_
            refine lv_aload_n hx hb dX5_revoke_75 rfl (lv_at hl 0 rfl) ?_
            refine xget (C := RX2) (T := TX2) (N := 6) (ci := 2) (w := .int (X 13 4 z_11)) hx hb hts hi_X2 hown hK hP ((221 + z_11)) (gd hz_11) rfl 5 (by decide) lk_178 rfl dX5_revoke_76 ?_
            refine callWE (As := [.int (X 13 0 z_11), .int (X 13 2 z_11), .int (X 13 3 z_11), .int (X 13 4 z_11)]) (rest := []) ⟨hx, hb, hml, hown, hts⟩ (c_X5_revokeVirement hdj X (X 13 0 z_11) (X 13 2 z_11) (X 13 3 z_11) (X 13 4 z_11)) (cwV 4 hts gX5_revoke_X5_revokeVirement rfl rfl rfl (by decide +kernel) ⟨Nat.le_of_ble_eq_true rfl, Nat.le_of_ble_eq_true rfl⟩) hK hN hP 233 g0_233 rfl rfl hl.1 rfl (Nat.le_of_ble_eq_true rfl) dX5_revoke_79 ⟨Nat.zero_le _, Nat.zero_le _⟩ hS (fun _ h9 => h9) (fun H locs hP hS _ _ => ?_)
            obtain ⟨X_2, eX_2⟩ : ∃ Z : St, Z = opX X (g_rv (X 0) (X 13 3 z_11) (X 13 4 z_11)) 10 (X 13 0 z_11) (-9) 0 (b_mv (X 0) (X 13 2 z_11) (X 13 3 z_11) (-(X 13 4 z_11))) := ⟨_, rfl⟩
            rw [← eX_2] at hP
            have hZ : X_2 = N_revoke X i := by
              subst eX_2 ez_11
              try simp only [m_nil]
              try unfold N_revoke N_rk
              try dsimp only
              all_goals repeat (first | rw [ci_t c_1] | rw [ci_f c_1] | rw [ci_t c_11] | rw [ci_f c_11] | rw [ci_t c_33] | rw [ci_f c_33] | rw [ci_t c_44] | rw [ci_f c_44] | rw [ci_t c_59] | rw [ci_f c_59])
              all_goals (first | rfl | (rw [sg_self]) | (simp only [m_nil]; done) | (simp only [m_nil]; rfl))
            have hV : opV (g_rv (X 0) (X 13 3 z_11) (X 13 4 z_11)) (X 13 4 z_11) = R_revoke X i := by
              subst eX_2 ez_11
              try simp only [m_nil]
              try unfold R_revoke R_rk
              try dsimp only
              all_goals repeat (first | rw [ci_t c_1] | rw [ci_f c_1] | rw [ci_t c_11] | rw [ci_f c_11] | rw [ci_t c_33] | rw [ci_f c_33] | rw [ci_t c_44] | rw [ci_f c_44] | rw [ci_t c_59] | rw [ci_f c_59])
              all_goals (first | rfl | (rw [sg_self]) | (simp only [m_nil]; done) | (simp only [m_nil]; rfl))
            exact retWE hx hb hr hlocks (by rw [← hZ]; exact hP) hS dX5_revoke_82 hV
  · refine lv_iconst (v := (-1)) hx hb dX5_revoke_4 (by decide) ?_
    have hZ : X = N_revoke X i := by
      try simp only [m_nil]
      try unfold N_revoke N_rk
      try dsimp only
      all_goals repeat (first | rw [ci_t c_1] | rw [ci_f c_1])
      all_goals (first | rfl | (rw [sg_self]) | (simp only [m_nil]; done) | (simp only [m_nil]; rfl))
    have hV : (-1) = R_revoke X i := by
      try simp only [m_nil]
      try unfold R_revoke R_rk
      try dsimp only
      all_goals repeat (first | rw [ci_t c_1] | rw [ci_f c_1])
      all_goals (first | rfl | (rw [sg_self]) | (simp only [m_nil]; done) | (simp only [m_nil]; rfl))
    exact retWE hx hb hr hlocks (by rw [← hZ]; exact hP) hS dX5_revoke_5 hV
set_option maxHeartbeats 4000000 in
set_option maxRecDepth 100000 in
theorem c_X5_count {l : Launch} {D : va_G} {cI cR : ClassId} {ad : Nat → Nat} (X : St) (wh : Int32) : RoE l D cI cR (wC cI cR ad X) yX5_count wsX5_count ({ frames := 4, cells := 0, slots := 0, locals := 88 } : Room) [.ref (ad 233), .int wh] (v_count (X 0) (X 14 0 1) wh) := by
  refine OfW (cc := cX5_count) (maxL := 2) (ret := (some .int)) (by decide +kernel) rfl (Nat.le_of_ble_eq_true rfl) (fun p e s m below meth c hx hb hr hts hown hlocks hml hnm hP hK hN ls hl => ?_)
  have hl : lv_has ls 2 [(0, .ref (ad 233)), (1, .int wh)] := hl
  have lk_10 := hts (.fieldLink RX5 10 "HeadBudgets" "now" "LHeadBudgets$Books;") (by decide +kernel)
  have lk_97 := hts (.fieldLink RX5 97 "HeadBudgets$Books" "year" "I") (by decide +kernel)
  have lk_23 := hts (.fieldLink RX5 23 "HeadBudgets$Books" "heads" "LHeadBudgets$Heads;") (by decide +kernel)
  have lk_41 := hts (.fieldLink RX5 41 "HeadBudgets$Heads" "made" "I") (by decide +kernel)
  have lk_82 := hts (.fieldLink RX5 82 "HeadBudgets$Books" "commitments" "LHeadBudgets$Commitments;") (by decide +kernel)
  have lk_86 := hts (.fieldLink RX5 86 "HeadBudgets$Commitments" "made" "I") (by decide +kernel)
  have lk_72 := hts (.fieldLink RX5 72 "HeadBudgets$Books" "carriedPart" "I") (by decide +kernel)
  have lk_144 := hts (.fieldLink RX5 144 "HeadBudgets$Books" "lapsed" "I") (by decide +kernel)
  have lk_116 := hts (.fieldLink RX5 116 "HeadBudgets$Books" "spent" "I") (by decide +kernel)
  have lk_19 := hts (.fieldLink RX5 19 "HeadBudgets" "memory" "LHeadBudgets$Memory;") (by decide +kernel)
  have lk_197 := hts (.fieldLink RX5 197 "HeadBudgets$Memory" "held" "I") (by decide +kernel)
  have hi_X0 : ∀ w ∈ wsX00, w ∈ wsX5_count := by decide +kernel
  have hi_X1 : ∀ w ∈ wsX10, w ∈ wsX5_count := by decide +kernel
  have hi_X3 : ∀ w ∈ wsX30, w ∈ wsX5_count := by decide +kernel
  have hi_X4 : ∀ w ∈ wsX40, w ∈ wsX5_count := by decide +kernel
  have hi_X5 : ∀ w ∈ wsX50, w ∈ wsX5_count := by decide +kernel
  refine lv_iload_n hx hb dX5_count_0 rfl (lv_at hl 1 rfl) ?_
  by_cases s_1_0 : wh = 0
  · refine lv_tableIn (off := 55) (tgt := 56) hx hb dX5_count_1 (by rw [s_1_0]; decide) (by rw [s_1_0]; decide) (by rw [s_1_0]; rfl) (by decide) ?_
    refine lv_aload_n hx hb dX5_count_56 rfl (lv_at hl 0 rfl) ?_
    refine xget (C := RX5) (T := TX5) (N := 2) (ci := 5) (w := .ref (ad 0)) hx hb hts hi_X5 hown hK hP 233 g0_233 rfl 0 (by decide) lk_10 rfl dX5_count_57 ?_
    refine xget (C := RX0) (T := TX0) (N := 6) (ci := 0) (w := .int (X 0 14 0)) hx hb hts hi_X0 hown hK hP 0 g0_0 rfl 2 (by decide) lk_97 rfl dX5_count_60 ?_
    exact retE hx hb hr hlocks dX5_count_63 (by first | rfl | (unfold v_count; repeat (first | rw [ci_t s_1_0] | rw [ci_f s_1_0])))
  by_cases s_1_1 : wh = 1
  · refine lv_tableIn (off := 63) (tgt := 64) hx hb dX5_count_1 (by rw [s_1_1]; decide) (by rw [s_1_1]; decide) (by rw [s_1_1]; rfl) (by decide) ?_
    refine lv_aload_n hx hb dX5_count_64 rfl (lv_at hl 0 rfl) ?_
    refine xget (C := RX5) (T := TX5) (N := 2) (ci := 5) (w := .ref (ad 0)) hx hb hts hi_X5 hown hK hP 233 g0_233 rfl 0 (by decide) lk_10 rfl dX5_count_65 ?_
    refine xget (C := RX0) (T := TX0) (N := 6) (ci := 0) (w := .ref (ad 1)) hx hb hts hi_X0 hown hK hP 0 g0_0 rfl 0 (by decide) lk_23 rfl dX5_count_68 ?_
    refine xget (C := RX3) (T := TX3) (N := 11) (ci := 3) (w := .int (X 0 14 1)) hx hb hts hi_X3 hown hK hP 1 g0_1 rfl 10 (by decide) lk_41 rfl dX5_count_71 ?_
    exact retE hx hb hr hlocks dX5_count_74 (by first | rfl | (unfold v_count; repeat (first | rw [ci_t s_1_1] | rw [ci_f s_1_1] | rw [ci_t s_1_0] | rw [ci_f s_1_0])))
  by_cases s_1_2 : wh = 2
  · refine lv_tableIn (off := 74) (tgt := 75) hx hb dX5_count_1 (by rw [s_1_2]; decide) (by rw [s_1_2]; decide) (by rw [s_1_2]; rfl) (by decide) ?_
    refine lv_aload_n hx hb dX5_count_75 rfl (lv_at hl 0 rfl) ?_
    refine xget (C := RX5) (T := TX5) (N := 2) (ci := 5) (w := .ref (ad 0)) hx hb hts hi_X5 hown hK hP 233 g0_233 rfl 0 (by decide) lk_10 rfl dX5_count_76 ?_
    refine xget (C := RX0) (T := TX0) (N := 6) (ci := 0) (w := .ref (ad 12)) hx hb hts hi_X0 hown hK hP 0 g0_0 rfl 1 (by decide) lk_82 rfl dX5_count_79 ?_
    refine xget (C := RX1) (T := TX1) (N := 5) (ci := 1) (w := .int (X 0 14 2)) hx hb hts hi_X1 hown hK hP 12 g0_12 rfl 4 (by decide) lk_86 rfl dX5_count_82 ?_
    exact retE hx hb hr hlocks dX5_count_85 (by first | rfl | (unfold v_count; repeat (first | rw [ci_t s_1_2] | rw [ci_f s_1_2] | rw [ci_t s_1_0] | rw [ci_f s_1_0] | rw [ci_t s_1_1] | rw [ci_f s_1_1])))
  by_cases s_1_3 : wh = 3
  · refine lv_tableIn (off := 85) (tgt := 86) hx hb dX5_count_1 (by rw [s_1_3]; decide) (by rw [s_1_3]; decide) (by rw [s_1_3]; rfl) (by decide) ?_
    refine lv_aload_n hx hb dX5_count_86 rfl (lv_at hl 0 rfl) ?_
    refine xget (C := RX5) (T := TX5) (N := 2) (ci := 5) (w := .ref (ad 0)) hx hb hts hi_X5 hown hK hP 233 g0_233 rfl 0 (by decide) lk_10 rfl dX5_count_87 ?_
    refine xget (C := RX0) (T := TX0) (N := 6) (ci := 0) (w := .ref (ad 12)) hx hb hts hi_X0 hown hK hP 0 g0_0 rfl 1 (by decide) lk_82 rfl dX5_count_90 ?_
    refine callE (As := []) (rest := []) ⟨hx, hb, hml, hown, hts⟩ (c_X1_countOpen X) (cwV 0 hts gX5_count_X1_countOpen rfl rfl rfl (by decide +kernel) ⟨Nat.le_of_ble_eq_true rfl, Nat.le_of_ble_eq_true rfl⟩) hK hN hP 12 g0_12 rfl rfl hl.1 rfl (Nat.le_of_ble_eq_true rfl) dX5_count_93 ⟨Nat.zero_le _, Nat.zero_le _⟩ ?_
    exact retE hx hb hr hlocks dX5_count_96 (by first | rfl | (unfold v_count; repeat (first | rw [ci_t s_1_3] | rw [ci_f s_1_3] | rw [ci_t s_1_0] | rw [ci_f s_1_0] | rw [ci_t s_1_1] | rw [ci_f s_1_1] | rw [ci_t s_1_2] | rw [ci_f s_1_2])))
  by_cases s_1_4 : wh = 4
  · refine lv_tableIn (off := 96) (tgt := 97) hx hb dX5_count_1 (by rw [s_1_4]; decide) (by rw [s_1_4]; decide) (by rw [s_1_4]; rfl) (by decide) ?_
    refine lv_aload_n hx hb dX5_count_97 rfl (lv_at hl 0 rfl) ?_
    refine xget (C := RX5) (T := TX5) (N := 2) (ci := 5) (w := .ref (ad 0)) hx hb hts hi_X5 hown hK hP 233 g0_233 rfl 0 (by decide) lk_10 rfl dX5_count_98 ?_
    refine xget (C := RX0) (T := TX0) (N := 6) (ci := 0) (w := .ref (ad 1)) hx hb hts hi_X0 hown hK hP 0 g0_0 rfl 0 (by decide) lk_23 rfl dX5_count_101 ?_
    refine callE (As := []) (rest := []) ⟨hx, hb, hml, hown, hts⟩ (c_X3_countBarred X) (cwV 0 hts gX5_count_X3_countBarred rfl rfl rfl (by decide +kernel) ⟨Nat.le_of_ble_eq_true rfl, Nat.le_of_ble_eq_true rfl⟩) hK hN hP 1 g0_1 rfl rfl hl.1 rfl (Nat.le_of_ble_eq_true rfl) dX5_count_104 ⟨Nat.zero_le _, Nat.zero_le _⟩ ?_
    exact retE hx hb hr hlocks dX5_count_107 (by first | rfl | (unfold v_count; repeat (first | rw [ci_t s_1_4] | rw [ci_f s_1_4] | rw [ci_t s_1_0] | rw [ci_f s_1_0] | rw [ci_t s_1_1] | rw [ci_f s_1_1] | rw [ci_t s_1_2] | rw [ci_f s_1_2] | rw [ci_t s_1_3] | rw [ci_f s_1_3])))
  by_cases s_1_5 : wh = 5
  · refine lv_tableIn (off := 107) (tgt := 108) hx hb dX5_count_1 (by rw [s_1_5]; decide) (by rw [s_1_5]; decide) (by rw [s_1_5]; rfl) (by decide) ?_
    refine lv_aload_n hx hb dX5_count_108 rfl (lv_at hl 0 rfl) ?_
    refine xget (C := RX5) (T := TX5) (N := 2) (ci := 5) (w := .ref (ad 0)) hx hb hts hi_X5 hown hK hP 233 g0_233 rfl 0 (by decide) lk_10 rfl dX5_count_109 ?_
    refine xget (C := RX0) (T := TX0) (N := 6) (ci := 0) (w := .int (X 0 14 3)) hx hb hts hi_X0 hown hK hP 0 g0_0 rfl 3 (by decide) lk_72 rfl dX5_count_112 ?_
    exact retE hx hb hr hlocks dX5_count_115 (by first | rfl | (unfold v_count; repeat (first | rw [ci_t s_1_5] | rw [ci_f s_1_5] | rw [ci_t s_1_0] | rw [ci_f s_1_0] | rw [ci_t s_1_1] | rw [ci_f s_1_1] | rw [ci_t s_1_2] | rw [ci_f s_1_2] | rw [ci_t s_1_3] | rw [ci_f s_1_3] | rw [ci_t s_1_4] | rw [ci_f s_1_4])))
  by_cases s_1_6 : wh = 6
  · refine lv_tableIn (off := 115) (tgt := 116) hx hb dX5_count_1 (by rw [s_1_6]; decide) (by rw [s_1_6]; decide) (by rw [s_1_6]; rfl) (by decide) ?_
    refine lv_aload_n hx hb dX5_count_116 rfl (lv_at hl 0 rfl) ?_
    refine xget (C := RX5) (T := TX5) (N := 2) (ci := 5) (w := .ref (ad 0)) hx hb hts hi_X5 hown hK hP 233 g0_233 rfl 0 (by decide) lk_10 rfl dX5_count_117 ?_
    refine xget (C := RX0) (T := TX0) (N := 6) (ci := 0) (w := .ref (ad 1)) hx hb hts hi_X0 hown hK hP 0 g0_0 rfl 0 (by decide) lk_23 rfl dX5_count_120 ?_
    refine lv_iconst (v := 0) hx hb dX5_count_123 (by decide) ?_
    refine lv_iconst (v := 0) hx hb dX5_count_124 (by decide) ?_
    refine callE (As := [.int 0, .int 0]) (rest := []) ⟨hx, hb, hml, hown, hts⟩ (c_X3_sumWithin X 0 0) (cwV 2 hts gX5_count_X3_sumWithin rfl rfl rfl (by decide +kernel) ⟨Nat.le_of_ble_eq_true rfl, Nat.le_of_ble_eq_true rfl⟩) hK hN hP 1 g0_1 rfl rfl hl.1 rfl (Nat.le_of_ble_eq_true rfl) dX5_count_125 ⟨Nat.zero_le _, Nat.zero_le _⟩ ?_
    exact retE hx hb hr hlocks dX5_count_128 (by first | rfl | (unfold v_count; repeat (first | rw [ci_t s_1_6] | rw [ci_f s_1_6] | rw [ci_t s_1_0] | rw [ci_f s_1_0] | rw [ci_t s_1_1] | rw [ci_f s_1_1] | rw [ci_t s_1_2] | rw [ci_f s_1_2] | rw [ci_t s_1_3] | rw [ci_f s_1_3] | rw [ci_t s_1_4] | rw [ci_f s_1_4] | rw [ci_t s_1_5] | rw [ci_f s_1_5])))
  by_cases s_1_7 : wh = 7
  · refine lv_tableIn (off := 128) (tgt := 129) hx hb dX5_count_1 (by rw [s_1_7]; decide) (by rw [s_1_7]; decide) (by rw [s_1_7]; rfl) (by decide) ?_
    refine lv_aload_n hx hb dX5_count_129 rfl (lv_at hl 0 rfl) ?_
    refine xget (C := RX5) (T := TX5) (N := 2) (ci := 5) (w := .ref (ad 0)) hx hb hts hi_X5 hown hK hP 233 g0_233 rfl 0 (by decide) lk_10 rfl dX5_count_130 ?_
    refine xget (C := RX0) (T := TX0) (N := 6) (ci := 0) (w := .int (X 0 14 4)) hx hb hts hi_X0 hown hK hP 0 g0_0 rfl 4 (by decide) lk_144 rfl dX5_count_133 ?_
    exact retE hx hb hr hlocks dX5_count_136 (by first | rfl | (unfold v_count; repeat (first | rw [ci_t s_1_7] | rw [ci_f s_1_7] | rw [ci_t s_1_0] | rw [ci_f s_1_0] | rw [ci_t s_1_1] | rw [ci_f s_1_1] | rw [ci_t s_1_2] | rw [ci_f s_1_2] | rw [ci_t s_1_3] | rw [ci_f s_1_3] | rw [ci_t s_1_4] | rw [ci_f s_1_4] | rw [ci_t s_1_5] | rw [ci_f s_1_5] | rw [ci_t s_1_6] | rw [ci_f s_1_6])))
  by_cases s_1_8 : wh = 8
  · refine lv_tableIn (off := 136) (tgt := 137) hx hb dX5_count_1 (by rw [s_1_8]; decide) (by rw [s_1_8]; decide) (by rw [s_1_8]; rfl) (by decide) ?_
    refine lv_aload_n hx hb dX5_count_137 rfl (lv_at hl 0 rfl) ?_
    refine xget (C := RX5) (T := TX5) (N := 2) (ci := 5) (w := .ref (ad 0)) hx hb hts hi_X5 hown hK hP 233 g0_233 rfl 0 (by decide) lk_10 rfl dX5_count_138 ?_
    refine xget (C := RX0) (T := TX0) (N := 6) (ci := 0) (w := .int (X 0 14 5)) hx hb hts hi_X0 hown hK hP 0 g0_0 rfl 5 (by decide) lk_116 rfl dX5_count_141 ?_
    exact retE hx hb hr hlocks dX5_count_144 (by first | rfl | (unfold v_count; repeat (first | rw [ci_t s_1_8] | rw [ci_f s_1_8] | rw [ci_t s_1_0] | rw [ci_f s_1_0] | rw [ci_t s_1_1] | rw [ci_f s_1_1] | rw [ci_t s_1_2] | rw [ci_f s_1_2] | rw [ci_t s_1_3] | rw [ci_f s_1_3] | rw [ci_t s_1_4] | rw [ci_f s_1_4] | rw [ci_t s_1_5] | rw [ci_f s_1_5] | rw [ci_t s_1_6] | rw [ci_f s_1_6] | rw [ci_t s_1_7] | rw [ci_f s_1_7])))
  by_cases s_1_9 : wh = 9
  · refine lv_tableIn (off := 144) (tgt := 145) hx hb dX5_count_1 (by rw [s_1_9]; decide) (by rw [s_1_9]; decide) (by rw [s_1_9]; rfl) (by decide) ?_
    refine lv_aload_n hx hb dX5_count_145 rfl (lv_at hl 0 rfl) ?_
    refine xget (C := RX5) (T := TX5) (N := 2) (ci := 5) (w := .ref (ad 234)) hx hb hts hi_X5 hown hK hP 233 g0_233 rfl 1 (by decide) lk_19 rfl dX5_count_146 ?_
    refine xget (C := RX4) (T := TX4) (N := 4) (ci := 4) (w := .int (X 14 0 1)) hx hb hts hi_X4 hown hK hP 234 g0_234 rfl 2 (by decide) lk_197 rfl dX5_count_149 ?_
    exact retE hx hb hr hlocks dX5_count_152 (by first | rfl | (unfold v_count; repeat (first | rw [ci_t s_1_9] | rw [ci_f s_1_9] | rw [ci_t s_1_0] | rw [ci_f s_1_0] | rw [ci_t s_1_1] | rw [ci_f s_1_1] | rw [ci_t s_1_2] | rw [ci_f s_1_2] | rw [ci_t s_1_3] | rw [ci_f s_1_3] | rw [ci_t s_1_4] | rw [ci_f s_1_4] | rw [ci_t s_1_5] | rw [ci_f s_1_5] | rw [ci_t s_1_6] | rw [ci_f s_1_6] | rw [ci_t s_1_7] | rw [ci_f s_1_7] | rw [ci_t s_1_8] | rw [ci_f s_1_8])))
  have h9 : (wh).toInt < 0 ∨ 9 < (wh).toInt := by
    have q_0 := lv_neT (a := 0) s_1_0 rfl
    have q_1 := lv_neT (a := 1) s_1_1 rfl
    have q_2 := lv_neT (a := 2) s_1_2 rfl
    have q_3 := lv_neT (a := 3) s_1_3 rfl
    have q_4 := lv_neT (a := 4) s_1_4 rfl
    have q_5 := lv_neT (a := 5) s_1_5 rfl
    have q_6 := lv_neT (a := 6) s_1_6 rfl
    have q_7 := lv_neT (a := 7) s_1_7 rfl
    have q_8 := lv_neT (a := 8) s_1_8 rfl
    have q_9 := lv_neT (a := 9) s_1_9 rfl
    omega
  refine lv_tableOut (tgt := 153) hx hb dX5_count_1 h9 (by decide) ?_
  refine lv_iconst (v := (-1)) hx hb dX5_count_153 (by decide) ?_
  exact retE hx hb hr hlocks dX5_count_154 (by first | rfl | (unfold v_count; repeat (first | rw [ci_t s_1_0] | rw [ci_f s_1_0] | rw [ci_t s_1_1] | rw [ci_f s_1_1] | rw [ci_t s_1_2] | rw [ci_f s_1_2] | rw [ci_t s_1_3] | rw [ci_f s_1_3] | rw [ci_t s_1_4] | rw [ci_f s_1_4] | rw [ci_t s_1_5] | rw [ci_f s_1_5] | rw [ci_t s_1_6] | rw [ci_f s_1_6] | rw [ci_t s_1_7] | rw [ci_f s_1_7] | rw [ci_t s_1_8] | rw [ci_f s_1_8] | rw [ci_t s_1_9] | rw [ci_f s_1_9])))
set_option maxHeartbeats 4000000 in
set_option maxRecDepth 100000 in
theorem c_X5_head {l : Launch} {D : va_G} {cI cR : ClassId} {ad : Nat → Nat} (X : St) (h : Int32) (wh : Int32) : RoE l D cI cR (wC cI cR ad X) yX5_head wsX5_head ({ frames := 2, cells := 0, slots := 0, locals := 44 } : Room) [.ref (ad 233), .int h, .int wh] (v_head (X 0) h wh) := by
  refine OfW (cc := cX5_head) (maxL := 4) (ret := (some .int)) (by decide +kernel) rfl (Nat.le_of_ble_eq_true rfl) (fun p e s m below meth c hx hb hr hts hown hlocks hml hnm hP hK hN ls hl => ?_)
  have hl : lv_has ls 4 [(0, .ref (ad 233)), (1, .int h), (2, .int wh)] := hl
  have lk_10 := hts (.fieldLink RX5 10 "HeadBudgets" "now" "LHeadBudgets$Books;") (by decide +kernel)
  have lk_23 := hts (.fieldLink RX5 23 "HeadBudgets$Books" "heads" "LHeadBudgets$Heads;") (by decide +kernel)
  have lk_200 := hts (.fieldLink RX5 200 "HeadBudgets$Heads" "above" "[I") (by decide +kernel)
  have lk_37 := hts (.fieldLink RX5 37 "HeadBudgets$Heads" "depth" "[I") (by decide +kernel)
  have lk_203 := hts (.fieldLink RX5 203 "HeadBudgets$Heads" "rank" "[I") (by decide +kernel)
  have lk_59 := hts (.fieldLink RX5 59 "HeadBudgets$Heads" "frozen" "[I") (by decide +kernel)
  have lk_52 := hts (.fieldLink RX5 52 "HeadBudgets$Heads" "allotment" "[I") (by decide +kernel)
  have lk_206 := hts (.fieldLink RX5 206 "HeadBudgets$Heads" "committed" "[I") (by decide +kernel)
  have lk_209 := hts (.fieldLink RX5 209 "HeadBudgets$Heads" "spent" "[I") (by decide +kernel)
  have lk_56 := hts (.fieldLink RX5 56 "HeadBudgets$Heads" "allotted" "[I") (by decide +kernel)
  have lk_211 := hts (.fieldLink RX5 211 "HeadBudgets$Heads" "left" "[I") (by decide +kernel)
  have lk_69 := hts (.fieldLink RX5 69 "HeadBudgets$Heads" "share" "[I") (by decide +kernel)
  have hi_X0 : ∀ w ∈ wsX00, w ∈ wsX5_head := by decide +kernel
  have hi_X3 : ∀ w ∈ wsX30, w ∈ wsX5_head := by decide +kernel
  have hi_X5 : ∀ w ∈ wsX50, w ∈ wsX5_head := by decide +kernel
  refine lv_aload_n hx hb dX5_head_0 rfl (lv_at hl 0 rfl) ?_
  refine xget (C := RX5) (T := TX5) (N := 2) (ci := 5) (w := .ref (ad 0)) hx hb hts hi_X5 hown hK hP 233 g0_233 rfl 0 (by decide) lk_10 rfl dX5_head_1 ?_
  refine xget (C := RX0) (T := TX0) (N := 6) (ci := 0) (w := .ref (ad 1)) hx hb hts hi_X0 hown hK hP 0 g0_0 rfl 0 (by decide) lk_23 rfl dX5_head_4 ?_
  refine lv_astore_n (lv' := [(3, .ref (ad 1)), (0, .ref (ad 233)), (1, .int h), (2, .int wh)]) hx hb dX5_head_7 rfl hl (by decide) rfl (fun ls hl => ?_)
  refine lv_aload_n hx hb dX5_head_8 rfl (lv_at hl 0 rfl) ?_
  refine lv_iload_n hx hb dX5_head_9 rfl (lv_at hl 2 rfl) ?_
  refine callB (As := [.int h]) (rest := []) ⟨hx, hb, hml, hown, hts⟩ (c_X3_has X h) (cwV 1 hts gX5_head_X3_has rfl rfl rfl (by decide +kernel) ⟨Nat.le_of_ble_eq_true rfl, Nat.le_of_ble_eq_true rfl⟩) hK hN hP 1 g0_1 rfl rfl hl.1 rfl (Nat.le_of_ble_eq_true rfl) dX5_head_10 ⟨Nat.zero_le _, Nat.zero_le _⟩ (fun c_10 => ?_) (fun c_10 => ?_)
  · refine lv_if_ne (tgt := 18) hx hb dX5_head_13 (by decide) (fun _ => ?_) (fun h9 => absurd h9 (by decide))
    refine lv_iload_n hx hb dX5_head_18 rfl (lv_at hl 3 rfl) ?_
    by_cases s_19_0 : wh = 0
    · refine lv_tableIn (off := 61) (tgt := 80) hx hb dX5_head_19 (by rw [s_19_0]; decide) (by rw [s_19_0]; decide) (by rw [s_19_0]; rfl) (by decide) ?_
      refine lv_aload_n hx hb dX5_head_80 rfl (lv_at hl 0 rfl) ?_
      refine xget (C := RX3) (T := TX3) (N := 11) (ci := 3) (w := .ref (ad 2)) hx hb hts hi_X3 hown hK hP 1 g0_1 rfl 0 (by decide) lk_200 rfl dX5_head_81 ?_
      refine lv_iload_n hx hb dX5_head_84 rfl (lv_at hl 2 rfl) ?_
      refine xald (x := qv (X 0) 0 h) hx hb hK hP 2 g0_2 (in20h c_10) rfl dX5_head_85 ?_
      exact retE hx hb hr hlocks dX5_head_86 (by first | rfl | (unfold v_head; repeat (first | rw [ci_t c_10] | rw [ci_f c_10] | rw [ci_t s_19_0] | rw [ci_f s_19_0])))
    by_cases s_19_1 : wh = 1
    · refine lv_tableIn (off := 68) (tgt := 87) hx hb dX5_head_19 (by rw [s_19_1]; decide) (by rw [s_19_1]; decide) (by rw [s_19_1]; rfl) (by decide) ?_
      refine lv_aload_n hx hb dX5_head_87 rfl (lv_at hl 0 rfl) ?_
      refine xget (C := RX3) (T := TX3) (N := 11) (ci := 3) (w := .ref (ad 3)) hx hb hts hi_X3 hown hK hP 1 g0_1 rfl 1 (by decide) lk_37 rfl dX5_head_88 ?_
      refine lv_iload_n hx hb dX5_head_91 rfl (lv_at hl 2 rfl) ?_
      refine xald (x := qv (X 0) 9 h) hx hb hK hP 3 g0_3 (in20h c_10) rfl dX5_head_92 ?_
      exact retE hx hb hr hlocks dX5_head_93 (by first | rfl | (unfold v_head; repeat (first | rw [ci_t c_10] | rw [ci_f c_10] | rw [ci_t s_19_1] | rw [ci_f s_19_1] | rw [ci_t s_19_0] | rw [ci_f s_19_0])))
    by_cases s_19_2 : wh = 2
    · refine lv_tableIn (off := 75) (tgt := 94) hx hb dX5_head_19 (by rw [s_19_2]; decide) (by rw [s_19_2]; decide) (by rw [s_19_2]; rfl) (by decide) ?_
      refine lv_aload_n hx hb dX5_head_94 rfl (lv_at hl 0 rfl) ?_
      refine xget (C := RX3) (T := TX3) (N := 11) (ci := 3) (w := .ref (ad 4)) hx hb hts hi_X3 hown hK hP 1 g0_1 rfl 2 (by decide) lk_203 rfl dX5_head_95 ?_
      refine lv_iload_n hx hb dX5_head_98 rfl (lv_at hl 2 rfl) ?_
      refine xald (x := qv (X 0) 1 h) hx hb hK hP 4 g0_4 (in20h c_10) rfl dX5_head_99 ?_
      exact retE hx hb hr hlocks dX5_head_100 (by first | rfl | (unfold v_head; repeat (first | rw [ci_t c_10] | rw [ci_f c_10] | rw [ci_t s_19_2] | rw [ci_f s_19_2] | rw [ci_t s_19_0] | rw [ci_f s_19_0] | rw [ci_t s_19_1] | rw [ci_f s_19_1])))
    by_cases s_19_3 : wh = 3
    · refine lv_tableIn (off := 82) (tgt := 101) hx hb dX5_head_19 (by rw [s_19_3]; decide) (by rw [s_19_3]; decide) (by rw [s_19_3]; rfl) (by decide) ?_
      refine lv_aload_n hx hb dX5_head_101 rfl (lv_at hl 0 rfl) ?_
      refine xget (C := RX3) (T := TX3) (N := 11) (ci := 3) (w := .ref (ad 5)) hx hb hts hi_X3 hown hK hP 1 g0_1 rfl 3 (by decide) lk_59 rfl dX5_head_102 ?_
      refine lv_iload_n hx hb dX5_head_105 rfl (lv_at hl 2 rfl) ?_
      refine xald (x := qv (X 0) 2 h) hx hb hK hP 5 g0_5 (in20h c_10) rfl dX5_head_106 ?_
      exact retE hx hb hr hlocks dX5_head_107 (by first | rfl | (unfold v_head; repeat (first | rw [ci_t c_10] | rw [ci_f c_10] | rw [ci_t s_19_3] | rw [ci_f s_19_3] | rw [ci_t s_19_0] | rw [ci_f s_19_0] | rw [ci_t s_19_1] | rw [ci_f s_19_1] | rw [ci_t s_19_2] | rw [ci_f s_19_2])))
    by_cases s_19_4 : wh = 4
    · refine lv_tableIn (off := 89) (tgt := 108) hx hb dX5_head_19 (by rw [s_19_4]; decide) (by rw [s_19_4]; decide) (by rw [s_19_4]; rfl) (by decide) ?_
      refine lv_aload_n hx hb dX5_head_108 rfl (lv_at hl 0 rfl) ?_
      refine lv_iload_n hx hb dX5_head_109 rfl (lv_at hl 2 rfl) ?_
      refine callB (As := [.int h]) (rest := []) ⟨hx, hb, hml, hown, hts⟩ (c_X3_isBarred X h) (cwV 1 hts gX5_head_X3_isBarred rfl rfl rfl (by decide +kernel) ⟨Nat.le_of_ble_eq_true rfl, Nat.le_of_ble_eq_true rfl⟩) hK hN hP 1 g0_1 rfl rfl hl.1 rfl (Nat.le_of_ble_eq_true rfl) dX5_head_110 ⟨Nat.zero_le _, Nat.zero_le _⟩ (fun c_110 => ?_) (fun c_110 => ?_)
      · refine lv_if_eq (tgt := 120) hx hb dX5_head_113 (by decide) (fun h9 => absurd h9 (by decide)) (fun _ => ?_)
        refine lv_iconst (v := 1) hx hb dX5_head_116 (by decide) ?_
        refine lv_goto (tgt := 121) hx hb dX5_head_117 (by decide) ?_
        exact retE hx hb hr hlocks dX5_head_121 (by first | rfl | (unfold v_head; repeat (first | rw [ci_t c_10] | rw [ci_f c_10] | rw [ci_t s_19_4] | rw [ci_f s_19_4] | rw [ci_t s_19_0] | rw [ci_f s_19_0] | rw [ci_t s_19_1] | rw [ci_f s_19_1] | rw [ci_t s_19_2] | rw [ci_f s_19_2] | rw [ci_t s_19_3] | rw [ci_f s_19_3] | rw [ci_t c_110] | rw [ci_f c_110])))
      · refine lv_if_eq (tgt := 120) hx hb dX5_head_113 (by decide) (fun _ => ?_) (fun h9 => absurd (by decide) h9)
        refine lv_iconst (v := 0) hx hb dX5_head_120 (by decide) ?_
        exact retE hx hb hr hlocks dX5_head_121 (by first | rfl | (unfold v_head; repeat (first | rw [ci_t c_10] | rw [ci_f c_10] | rw [ci_t s_19_4] | rw [ci_f s_19_4] | rw [ci_t s_19_0] | rw [ci_f s_19_0] | rw [ci_t s_19_1] | rw [ci_f s_19_1] | rw [ci_t s_19_2] | rw [ci_f s_19_2] | rw [ci_t s_19_3] | rw [ci_f s_19_3] | rw [ci_t c_110] | rw [ci_f c_110])))
    by_cases s_19_5 : wh = 5
    · refine lv_tableIn (off := 103) (tgt := 122) hx hb dX5_head_19 (by rw [s_19_5]; decide) (by rw [s_19_5]; decide) (by rw [s_19_5]; rfl) (by decide) ?_
      refine lv_aload_n hx hb dX5_head_122 rfl (lv_at hl 0 rfl) ?_
      refine xget (C := RX3) (T := TX3) (N := 11) (ci := 3) (w := .ref (ad 6)) hx hb hts hi_X3 hown hK hP 1 g0_1 rfl 4 (by decide) lk_52 rfl dX5_head_123 ?_
      refine lv_iload_n hx hb dX5_head_126 rfl (lv_at hl 2 rfl) ?_
      refine xald (x := qv (X 0) 3 h) hx hb hK hP 6 g0_6 (in20h c_10) rfl dX5_head_127 ?_
      exact retE hx hb hr hlocks dX5_head_128 (by first | rfl | (unfold v_head; repeat (first | rw [ci_t c_10] | rw [ci_f c_10] | rw [ci_t s_19_5] | rw [ci_f s_19_5] | rw [ci_t s_19_0] | rw [ci_f s_19_0] | rw [ci_t s_19_1] | rw [ci_f s_19_1] | rw [ci_t s_19_2] | rw [ci_f s_19_2] | rw [ci_t s_19_3] | rw [ci_f s_19_3] | rw [ci_t s_19_4] | rw [ci_f s_19_4])))
    by_cases s_19_6 : wh = 6
    · refine lv_tableIn (off := 110) (tgt := 129) hx hb dX5_head_19 (by rw [s_19_6]; decide) (by rw [s_19_6]; decide) (by rw [s_19_6]; rfl) (by decide) ?_
      refine lv_aload_n hx hb dX5_head_129 rfl (lv_at hl 0 rfl) ?_
      refine xget (C := RX3) (T := TX3) (N := 11) (ci := 3) (w := .ref (ad 7)) hx hb hts hi_X3 hown hK hP 1 g0_1 rfl 5 (by decide) lk_206 rfl dX5_head_130 ?_
      refine lv_iload_n hx hb dX5_head_133 rfl (lv_at hl 2 rfl) ?_
      refine xald (x := qv (X 0) 4 h) hx hb hK hP 7 g0_7 (in20h c_10) rfl dX5_head_134 ?_
      exact retE hx hb hr hlocks dX5_head_135 (by first | rfl | (unfold v_head; repeat (first | rw [ci_t c_10] | rw [ci_f c_10] | rw [ci_t s_19_6] | rw [ci_f s_19_6] | rw [ci_t s_19_0] | rw [ci_f s_19_0] | rw [ci_t s_19_1] | rw [ci_f s_19_1] | rw [ci_t s_19_2] | rw [ci_f s_19_2] | rw [ci_t s_19_3] | rw [ci_f s_19_3] | rw [ci_t s_19_4] | rw [ci_f s_19_4] | rw [ci_t s_19_5] | rw [ci_f s_19_5])))
    by_cases s_19_7 : wh = 7
    · refine lv_tableIn (off := 117) (tgt := 136) hx hb dX5_head_19 (by rw [s_19_7]; decide) (by rw [s_19_7]; decide) (by rw [s_19_7]; rfl) (by decide) ?_
      refine lv_aload_n hx hb dX5_head_136 rfl (lv_at hl 0 rfl) ?_
      refine xget (C := RX3) (T := TX3) (N := 11) (ci := 3) (w := .ref (ad 8)) hx hb hts hi_X3 hown hK hP 1 g0_1 rfl 6 (by decide) lk_209 rfl dX5_head_137 ?_
      refine lv_iload_n hx hb dX5_head_140 rfl (lv_at hl 2 rfl) ?_
      refine xald (x := qv (X 0) 5 h) hx hb hK hP 8 g0_8 (in20h c_10) rfl dX5_head_141 ?_
      exact retE hx hb hr hlocks dX5_head_142 (by first | rfl | (unfold v_head; repeat (first | rw [ci_t c_10] | rw [ci_f c_10] | rw [ci_t s_19_7] | rw [ci_f s_19_7] | rw [ci_t s_19_0] | rw [ci_f s_19_0] | rw [ci_t s_19_1] | rw [ci_f s_19_1] | rw [ci_t s_19_2] | rw [ci_f s_19_2] | rw [ci_t s_19_3] | rw [ci_f s_19_3] | rw [ci_t s_19_4] | rw [ci_f s_19_4] | rw [ci_t s_19_5] | rw [ci_f s_19_5] | rw [ci_t s_19_6] | rw [ci_f s_19_6])))
    by_cases s_19_8 : wh = 8
    · refine lv_tableIn (off := 124) (tgt := 143) hx hb dX5_head_19 (by rw [s_19_8]; decide) (by rw [s_19_8]; decide) (by rw [s_19_8]; rfl) (by decide) ?_
      refine lv_aload_n hx hb dX5_head_143 rfl (lv_at hl 0 rfl) ?_
      refine lv_iload_n hx hb dX5_head_144 rfl (lv_at hl 2 rfl) ?_
      refine callE (As := [.int h]) (rest := []) ⟨hx, hb, hml, hown, hts⟩ (c_X3_freeOf X h) (cwV 1 hts gX5_head_X3_freeOf rfl rfl rfl (by decide +kernel) ⟨Nat.le_of_ble_eq_true rfl, Nat.le_of_ble_eq_true rfl⟩) hK hN hP 1 g0_1 rfl rfl hl.1 rfl (Nat.le_of_ble_eq_true rfl) dX5_head_145 ⟨Nat.zero_le _, Nat.zero_le _⟩ ?_
      exact retE hx hb hr hlocks dX5_head_148 (by first | rfl | (unfold v_head; repeat (first | rw [ci_t c_10] | rw [ci_f c_10] | rw [ci_t s_19_8] | rw [ci_f s_19_8] | rw [ci_t s_19_0] | rw [ci_f s_19_0] | rw [ci_t s_19_1] | rw [ci_f s_19_1] | rw [ci_t s_19_2] | rw [ci_f s_19_2] | rw [ci_t s_19_3] | rw [ci_f s_19_3] | rw [ci_t s_19_4] | rw [ci_f s_19_4] | rw [ci_t s_19_5] | rw [ci_f s_19_5] | rw [ci_t s_19_6] | rw [ci_f s_19_6] | rw [ci_t s_19_7] | rw [ci_f s_19_7])))
    by_cases s_19_9 : wh = 9
    · refine lv_tableIn (off := 130) (tgt := 149) hx hb dX5_head_19 (by rw [s_19_9]; decide) (by rw [s_19_9]; decide) (by rw [s_19_9]; rfl) (by decide) ?_
      refine lv_aload_n hx hb dX5_head_149 rfl (lv_at hl 0 rfl) ?_
      refine xget (C := RX3) (T := TX3) (N := 11) (ci := 3) (w := .ref (ad 9)) hx hb hts hi_X3 hown hK hP 1 g0_1 rfl 7 (by decide) lk_56 rfl dX5_head_150 ?_
      refine lv_iload_n hx hb dX5_head_153 rfl (lv_at hl 2 rfl) ?_
      refine xald (x := qv (X 0) 6 h) hx hb hK hP 9 g0_9 (in20h c_10) rfl dX5_head_154 ?_
      exact retE hx hb hr hlocks dX5_head_155 (by first | rfl | (unfold v_head; repeat (first | rw [ci_t c_10] | rw [ci_f c_10] | rw [ci_t s_19_9] | rw [ci_f s_19_9] | rw [ci_t s_19_0] | rw [ci_f s_19_0] | rw [ci_t s_19_1] | rw [ci_f s_19_1] | rw [ci_t s_19_2] | rw [ci_f s_19_2] | rw [ci_t s_19_3] | rw [ci_f s_19_3] | rw [ci_t s_19_4] | rw [ci_f s_19_4] | rw [ci_t s_19_5] | rw [ci_f s_19_5] | rw [ci_t s_19_6] | rw [ci_f s_19_6] | rw [ci_t s_19_7] | rw [ci_f s_19_7] | rw [ci_t s_19_8] | rw [ci_f s_19_8])))
    by_cases s_19_10 : wh = 10
    · refine lv_tableIn (off := 137) (tgt := 156) hx hb dX5_head_19 (by rw [s_19_10]; decide) (by rw [s_19_10]; decide) (by rw [s_19_10]; rfl) (by decide) ?_
      refine lv_aload_n hx hb dX5_head_156 rfl (lv_at hl 0 rfl) ?_
      refine xget (C := RX3) (T := TX3) (N := 11) (ci := 3) (w := .ref (ad 10)) hx hb hts hi_X3 hown hK hP 1 g0_1 rfl 8 (by decide) lk_211 rfl dX5_head_157 ?_
      refine lv_iload_n hx hb dX5_head_160 rfl (lv_at hl 2 rfl) ?_
      refine xald (x := qv (X 0) 7 h) hx hb hK hP 10 g0_10 (in20h c_10) rfl dX5_head_161 ?_
      exact retE hx hb hr hlocks dX5_head_162 (by first | rfl | (unfold v_head; repeat (first | rw [ci_t c_10] | rw [ci_f c_10] | rw [ci_t s_19_10] | rw [ci_f s_19_10] | rw [ci_t s_19_0] | rw [ci_f s_19_0] | rw [ci_t s_19_1] | rw [ci_f s_19_1] | rw [ci_t s_19_2] | rw [ci_f s_19_2] | rw [ci_t s_19_3] | rw [ci_f s_19_3] | rw [ci_t s_19_4] | rw [ci_f s_19_4] | rw [ci_t s_19_5] | rw [ci_f s_19_5] | rw [ci_t s_19_6] | rw [ci_f s_19_6] | rw [ci_t s_19_7] | rw [ci_f s_19_7] | rw [ci_t s_19_8] | rw [ci_f s_19_8] | rw [ci_t s_19_9] | rw [ci_f s_19_9])))
    by_cases s_19_11 : wh = 11
    · refine lv_tableIn (off := 144) (tgt := 163) hx hb dX5_head_19 (by rw [s_19_11]; decide) (by rw [s_19_11]; decide) (by rw [s_19_11]; rfl) (by decide) ?_
      refine lv_aload_n hx hb dX5_head_163 rfl (lv_at hl 0 rfl) ?_
      refine xget (C := RX3) (T := TX3) (N := 11) (ci := 3) (w := .ref (ad 11)) hx hb hts hi_X3 hown hK hP 1 g0_1 rfl 9 (by decide) lk_69 rfl dX5_head_164 ?_
      refine lv_iload_n hx hb dX5_head_167 rfl (lv_at hl 2 rfl) ?_
      refine xald (x := qv (X 0) 8 h) hx hb hK hP 11 g0_11 (in20h c_10) rfl dX5_head_168 ?_
      exact retE hx hb hr hlocks dX5_head_169 (by first | rfl | (unfold v_head; repeat (first | rw [ci_t c_10] | rw [ci_f c_10] | rw [ci_t s_19_11] | rw [ci_f s_19_11] | rw [ci_t s_19_0] | rw [ci_f s_19_0] | rw [ci_t s_19_1] | rw [ci_f s_19_1] | rw [ci_t s_19_2] | rw [ci_f s_19_2] | rw [ci_t s_19_3] | rw [ci_f s_19_3] | rw [ci_t s_19_4] | rw [ci_f s_19_4] | rw [ci_t s_19_5] | rw [ci_f s_19_5] | rw [ci_t s_19_6] | rw [ci_f s_19_6] | rw [ci_t s_19_7] | rw [ci_f s_19_7] | rw [ci_t s_19_8] | rw [ci_f s_19_8] | rw [ci_t s_19_9] | rw [ci_f s_19_9] | rw [ci_t s_19_10] | rw [ci_f s_19_10])))
    have h9 : (wh).toInt < 0 ∨ 11 < (wh).toInt := by
      have q_0 := lv_neT (a := 0) s_19_0 rfl
      have q_1 := lv_neT (a := 1) s_19_1 rfl
      have q_2 := lv_neT (a := 2) s_19_2 rfl
      have q_3 := lv_neT (a := 3) s_19_3 rfl
      have q_4 := lv_neT (a := 4) s_19_4 rfl
      have q_5 := lv_neT (a := 5) s_19_5 rfl
      have q_6 := lv_neT (a := 6) s_19_6 rfl
      have q_7 := lv_neT (a := 7) s_19_7 rfl
      have q_8 := lv_neT (a := 8) s_19_8 rfl
      have q_9 := lv_neT (a := 9) s_19_9 rfl
      have q_10 := lv_neT (a := 10) s_19_10 rfl
      have q_11 := lv_neT (a := 11) s_19_11 rfl
      omega
    refine lv_tableOut (tgt := 170) hx hb dX5_head_19 h9 (by decide) ?_
    refine lv_iconst (v := (-1)) hx hb dX5_head_170 (by decide) ?_
    exact retE hx hb hr hlocks dX5_head_171 (by first | rfl | (unfold v_head; repeat (first | rw [ci_t c_10] | rw [ci_f c_10] | rw [ci_t s_19_0] | rw [ci_f s_19_0] | rw [ci_t s_19_1] | rw [ci_f s_19_1] | rw [ci_t s_19_2] | rw [ci_f s_19_2] | rw [ci_t s_19_3] | rw [ci_f s_19_3] | rw [ci_t s_19_4] | rw [ci_f s_19_4] | rw [ci_t s_19_5] | rw [ci_f s_19_5] | rw [ci_t s_19_6] | rw [ci_f s_19_6] | rw [ci_t s_19_7] | rw [ci_f s_19_7] | rw [ci_t s_19_8] | rw [ci_f s_19_8] | rw [ci_t s_19_9] | rw [ci_f s_19_9] | rw [ci_t s_19_10] | rw [ci_f s_19_10] | rw [ci_t s_19_11] | rw [ci_f s_19_11])))
  · refine lv_if_ne (tgt := 18) hx hb dX5_head_13 (by decide) (fun h9 => absurd (by decide) h9) (fun _ => ?_)
    refine lv_iconst (v := (-1)) hx hb dX5_head_16 (by decide) ?_
    exact retE hx hb hr hlocks dX5_head_17 (by first | rfl | (unfold v_head; repeat (first | rw [ci_t c_10] | rw [ci_f c_10])))
set_option maxHeartbeats 4000000 in
set_option maxRecDepth 100000 in
theorem c_X5_total {l : Launch} {D : va_G} {cI cR : ClassId} {ad : Nat → Nat} (X : St) (h : Int32) (wh : Int32) : RoE l D cI cR (wC cI cR ad X) yX5_total wsX5_total ({ frames := 4, cells := 0, slots := 0, locals := 88 } : Room) [.ref (ad 233), .int h, .int wh] (v_total (X 0) h wh) := by
  refine OfW (cc := cX5_total) (maxL := 3) (ret := (some .int)) (by decide +kernel) rfl (Nat.le_of_ble_eq_true rfl) (fun p e s m below meth c hx hb hr hts hown hlocks hml hnm hP hK hN ls hl => ?_)
  have hl : lv_has ls 3 [(0, .ref (ad 233)), (1, .int h), (2, .int wh)] := hl
  have lk_10 := hts (.fieldLink RX5 10 "HeadBudgets" "now" "LHeadBudgets$Books;") (by decide +kernel)
  have lk_23 := hts (.fieldLink RX5 23 "HeadBudgets$Books" "heads" "LHeadBudgets$Heads;") (by decide +kernel)
  have hi_X0 : ∀ w ∈ wsX00, w ∈ wsX5_total := by decide +kernel
  have hi_X5 : ∀ w ∈ wsX50, w ∈ wsX5_total := by decide +kernel
  refine lv_aload_n hx hb dX5_total_0 rfl (lv_at hl 0 rfl) ?_
  refine xget (C := RX5) (T := TX5) (N := 2) (ci := 5) (w := .ref (ad 0)) hx hb hts hi_X5 hown hK hP 233 g0_233 rfl 0 (by decide) lk_10 rfl dX5_total_1 ?_
  refine xget (C := RX0) (T := TX0) (N := 6) (ci := 0) (w := .ref (ad 1)) hx hb hts hi_X0 hown hK hP 0 g0_0 rfl 0 (by decide) lk_23 rfl dX5_total_4 ?_
  refine lv_iload_n hx hb dX5_total_7 rfl (lv_at hl 1 rfl) ?_
  refine callB (As := [.int h]) (rest := []) ⟨hx, hb, hml, hown, hts⟩ (c_X3_has X h) (cwV 1 hts gX5_total_X3_has rfl rfl rfl (by decide +kernel) ⟨Nat.le_of_ble_eq_true rfl, Nat.le_of_ble_eq_true rfl⟩) hK hN hP 1 g0_1 rfl rfl hl.1 rfl (Nat.le_of_ble_eq_true rfl) dX5_total_8 ⟨Nat.zero_le _, Nat.zero_le _⟩ (fun c_8 => ?_) (fun c_8 => ?_)
  · refine lv_if_eq (tgt := 23) hx hb dX5_total_11 (by decide) (fun h9 => absurd h9 (by decide)) (fun _ => ?_)
    refine lv_iload_n hx hb dX5_total_14 rfl (lv_at hl 2 rfl) ?_
    refine lv_if_lt (tgt := 23) hx hb dX5_total_15 (by decide) (fun c_15 => ?_) (fun c_15 => ?_)
    · refine lv_iconst (v := (-1)) hx hb dX5_total_23 (by decide) ?_
      exact retE hx hb hr hlocks dX5_total_24 (by first | rfl | (unfold v_total; repeat (first | rw [ci_t c_8] | rw [ci_f c_8] | rw [ci_t c_15] | rw [ci_f c_15])))
    · refine lv_iload_n hx hb dX5_total_18 rfl (lv_at hl 2 rfl) ?_
      refine lv_iconst (v := 4) hx hb dX5_total_19 (by decide) ?_
      refine lv_icmp_le (tgt := 25) hx hb dX5_total_20 (by decide) (fun c_20 => ?_) (fun c_20 => ?_)
      · refine lv_aload_n hx hb dX5_total_25 rfl (lv_at hl 0 rfl) ?_
        refine xget (C := RX5) (T := TX5) (N := 2) (ci := 5) (w := .ref (ad 0)) hx hb hts hi_X5 hown hK hP 233 g0_233 rfl 0 (by decide) lk_10 rfl dX5_total_26 ?_
        refine xget (C := RX0) (T := TX0) (N := 6) (ci := 0) (w := .ref (ad 1)) hx hb hts hi_X0 hown hK hP 0 g0_0 rfl 0 (by decide) lk_23 rfl dX5_total_29 ?_
        refine lv_iload_n hx hb dX5_total_32 rfl (lv_at hl 1 rfl) ?_
        refine lv_iload_n hx hb dX5_total_33 rfl (lv_at hl 2 rfl) ?_
        refine callE (As := [.int h, .int wh]) (rest := []) ⟨hx, hb, hml, hown, hts⟩ (c_X3_sumWithin X h wh) (cwV 2 hts gX5_total_X3_sumWithin rfl rfl rfl (by decide +kernel) ⟨Nat.le_of_ble_eq_true rfl, Nat.le_of_ble_eq_true rfl⟩) hK hN hP 1 g0_1 rfl rfl hl.1 rfl (Nat.le_of_ble_eq_true rfl) dX5_total_34 ⟨Nat.zero_le _, Nat.zero_le _⟩ ?_
        exact retE hx hb hr hlocks dX5_total_37 (by first | rfl | (unfold v_total; repeat (first | rw [ci_t c_8] | rw [ci_f c_8] | rw [ci_t c_15] | rw [ci_f c_15] | rw [ci_t c_20] | rw [ci_f c_20])))
      · refine lv_iconst (v := (-1)) hx hb dX5_total_23 (by decide) ?_
        exact retE hx hb hr hlocks dX5_total_24 (by first | rfl | (unfold v_total; repeat (first | rw [ci_t c_8] | rw [ci_f c_8] | rw [ci_t c_15] | rw [ci_f c_15] | rw [ci_t c_20] | rw [ci_f c_20])))
  · refine lv_if_eq (tgt := 23) hx hb dX5_total_11 (by decide) (fun _ => ?_) (fun h9 => absurd (by decide) h9)
    refine lv_iconst (v := (-1)) hx hb dX5_total_23 (by decide) ?_
    exact retE hx hb hr hlocks dX5_total_24 (by first | rfl | (unfold v_total; repeat (first | rw [ci_t c_8] | rw [ci_f c_8])))
set_option maxHeartbeats 4000000 in
set_option maxRecDepth 100000 in
theorem c_X5_commitment {l : Launch} {D : va_G} {cI cR : ClassId} {ad : Nat → Nat} (X : St) (q : Int32) (wh : Int32) : RoE l D cI cR (wC cI cR ad X) yX5_commitment wsX5_commitment ({ frames := 1, cells := 0, slots := 0, locals := 21 } : Room) [.ref (ad 233), .int q, .int wh] (v_comm (X 0) q wh) := by
  refine OfW (cc := cX5_commitment) (maxL := 4) (ret := (some .int)) (by decide +kernel) rfl (Nat.le_of_ble_eq_true rfl) (fun p e s m below meth c hx hb hr hts hown hlocks hml hnm hP hK hN ls hl => ?_)
  have hl : lv_has ls 4 [(0, .ref (ad 233)), (1, .int q), (2, .int wh)] := hl
  have lk_10 := hts (.fieldLink RX5 10 "HeadBudgets" "now" "LHeadBudgets$Books;") (by decide +kernel)
  have lk_82 := hts (.fieldLink RX5 82 "HeadBudgets$Books" "commitments" "LHeadBudgets$Commitments;") (by decide +kernel)
  have lk_110 := hts (.fieldLink RX5 110 "HeadBudgets$Commitments" "head" "[I") (by decide +kernel)
  have lk_104 := hts (.fieldLink RX5 104 "HeadBudgets$Commitments" "open" "[I") (by decide +kernel)
  have lk_107 := hts (.fieldLink RX5 107 "HeadBudgets$Commitments" "paid" "[I") (by decide +kernel)
  have lk_214 := hts (.fieldLink RX5 214 "HeadBudgets$Commitments" "year" "[I") (by decide +kernel)
  have hi_X0 : ∀ w ∈ wsX00, w ∈ wsX5_commitment := by decide +kernel
  have hi_X1 : ∀ w ∈ wsX10, w ∈ wsX5_commitment := by decide +kernel
  have hi_X5 : ∀ w ∈ wsX50, w ∈ wsX5_commitment := by decide +kernel
  refine lv_aload_n hx hb dX5_commitment_0 rfl (lv_at hl 0 rfl) ?_
  refine xget (C := RX5) (T := TX5) (N := 2) (ci := 5) (w := .ref (ad 0)) hx hb hts hi_X5 hown hK hP 233 g0_233 rfl 0 (by decide) lk_10 rfl dX5_commitment_1 ?_
  refine xget (C := RX0) (T := TX0) (N := 6) (ci := 0) (w := .ref (ad 12)) hx hb hts hi_X0 hown hK hP 0 g0_0 rfl 1 (by decide) lk_82 rfl dX5_commitment_4 ?_
  refine lv_astore_n (lv' := [(3, .ref (ad 12)), (0, .ref (ad 233)), (1, .int q), (2, .int wh)]) hx hb dX5_commitment_7 rfl hl (by decide) rfl (fun ls hl => ?_)
  refine lv_aload_n hx hb dX5_commitment_8 rfl (lv_at hl 0 rfl) ?_
  refine lv_iload_n hx hb dX5_commitment_9 rfl (lv_at hl 2 rfl) ?_
  refine callB (As := [.int q]) (rest := []) ⟨hx, hb, hml, hown, hts⟩ (c_X1_has X q) (cwV 1 hts gX5_commitment_X1_has rfl rfl rfl (by decide +kernel) ⟨Nat.le_of_ble_eq_true rfl, Nat.le_of_ble_eq_true rfl⟩) hK hN hP 12 g0_12 rfl rfl hl.1 rfl (Nat.le_of_ble_eq_true rfl) dX5_commitment_10 ⟨Nat.zero_le _, Nat.zero_le _⟩ (fun c_10 => ?_) (fun c_10 => ?_)
  · refine lv_if_ne (tgt := 18) hx hb dX5_commitment_13 (by decide) (fun _ => ?_) (fun h9 => absurd h9 (by decide))
    refine lv_iload_n hx hb dX5_commitment_18 rfl (lv_at hl 3 rfl) ?_
    by_cases s_19_0 : wh = 0
    · refine lv_tableIn (off := 29) (tgt := 48) hx hb dX5_commitment_19 (by rw [s_19_0]; decide) (by rw [s_19_0]; decide) (by rw [s_19_0]; rfl) (by decide) ?_
      refine lv_aload_n hx hb dX5_commitment_48 rfl (lv_at hl 0 rfl) ?_
      refine xget (C := RX1) (T := TX1) (N := 5) (ci := 1) (w := .ref (ad 13)) hx hb hts hi_X1 hown hK hP 12 g0_12 rfl 0 (by decide) lk_110 rfl dX5_commitment_49 ?_
      refine lv_iload_n hx hb dX5_commitment_52 rfl (lv_at hl 2 rfl) ?_
      refine xald (x := qv (X 0) 10 q) hx hb hK hP 13 g0_13 (in40h c_10) rfl dX5_commitment_53 ?_
      exact retE hx hb hr hlocks dX5_commitment_54 (by first | rfl | (unfold v_comm; repeat (first | rw [ci_t c_10] | rw [ci_f c_10] | rw [ci_t s_19_0] | rw [ci_f s_19_0])))
    by_cases s_19_1 : wh = 1
    · refine lv_tableIn (off := 36) (tgt := 55) hx hb dX5_commitment_19 (by rw [s_19_1]; decide) (by rw [s_19_1]; decide) (by rw [s_19_1]; rfl) (by decide) ?_
      refine lv_aload_n hx hb dX5_commitment_55 rfl (lv_at hl 0 rfl) ?_
      refine xget (C := RX1) (T := TX1) (N := 5) (ci := 1) (w := .ref (ad 14)) hx hb hts hi_X1 hown hK hP 12 g0_12 rfl 1 (by decide) lk_104 rfl dX5_commitment_56 ?_
      refine lv_iload_n hx hb dX5_commitment_59 rfl (lv_at hl 2 rfl) ?_
      refine xald (x := qv (X 0) 11 q) hx hb hK hP 14 g0_14 (in40h c_10) rfl dX5_commitment_60 ?_
      exact retE hx hb hr hlocks dX5_commitment_61 (by first | rfl | (unfold v_comm; repeat (first | rw [ci_t c_10] | rw [ci_f c_10] | rw [ci_t s_19_1] | rw [ci_f s_19_1] | rw [ci_t s_19_0] | rw [ci_f s_19_0])))
    by_cases s_19_2 : wh = 2
    · refine lv_tableIn (off := 43) (tgt := 62) hx hb dX5_commitment_19 (by rw [s_19_2]; decide) (by rw [s_19_2]; decide) (by rw [s_19_2]; rfl) (by decide) ?_
      refine lv_aload_n hx hb dX5_commitment_62 rfl (lv_at hl 0 rfl) ?_
      refine xget (C := RX1) (T := TX1) (N := 5) (ci := 1) (w := .ref (ad 15)) hx hb hts hi_X1 hown hK hP 12 g0_12 rfl 2 (by decide) lk_107 rfl dX5_commitment_63 ?_
      refine lv_iload_n hx hb dX5_commitment_66 rfl (lv_at hl 2 rfl) ?_
      refine xald (x := qv (X 0) 12 q) hx hb hK hP 15 g0_15 (in40h c_10) rfl dX5_commitment_67 ?_
      exact retE hx hb hr hlocks dX5_commitment_68 (by first | rfl | (unfold v_comm; repeat (first | rw [ci_t c_10] | rw [ci_f c_10] | rw [ci_t s_19_2] | rw [ci_f s_19_2] | rw [ci_t s_19_0] | rw [ci_f s_19_0] | rw [ci_t s_19_1] | rw [ci_f s_19_1])))
    by_cases s_19_3 : wh = 3
    · refine lv_tableIn (off := 50) (tgt := 69) hx hb dX5_commitment_19 (by rw [s_19_3]; decide) (by rw [s_19_3]; decide) (by rw [s_19_3]; rfl) (by decide) ?_
      refine lv_aload_n hx hb dX5_commitment_69 rfl (lv_at hl 0 rfl) ?_
      refine xget (C := RX1) (T := TX1) (N := 5) (ci := 1) (w := .ref (ad 16)) hx hb hts hi_X1 hown hK hP 12 g0_12 rfl 3 (by decide) lk_214 rfl dX5_commitment_70 ?_
      refine lv_iload_n hx hb dX5_commitment_73 rfl (lv_at hl 2 rfl) ?_
      refine xald (x := qv (X 0) 13 q) hx hb hK hP 16 g0_16 (in40h c_10) rfl dX5_commitment_74 ?_
      exact retE hx hb hr hlocks dX5_commitment_75 (by first | rfl | (unfold v_comm; repeat (first | rw [ci_t c_10] | rw [ci_f c_10] | rw [ci_t s_19_3] | rw [ci_f s_19_3] | rw [ci_t s_19_0] | rw [ci_f s_19_0] | rw [ci_t s_19_1] | rw [ci_f s_19_1] | rw [ci_t s_19_2] | rw [ci_f s_19_2])))
    have h9 : (wh).toInt < 0 ∨ 3 < (wh).toInt := by
      have q_0 := lv_neT (a := 0) s_19_0 rfl
      have q_1 := lv_neT (a := 1) s_19_1 rfl
      have q_2 := lv_neT (a := 2) s_19_2 rfl
      have q_3 := lv_neT (a := 3) s_19_3 rfl
      omega
    refine lv_tableOut (tgt := 76) hx hb dX5_commitment_19 h9 (by decide) ?_
    refine lv_iconst (v := (-1)) hx hb dX5_commitment_76 (by decide) ?_
    exact retE hx hb hr hlocks dX5_commitment_77 (by first | rfl | (unfold v_comm; repeat (first | rw [ci_t c_10] | rw [ci_f c_10] | rw [ci_t s_19_0] | rw [ci_f s_19_0] | rw [ci_t s_19_1] | rw [ci_f s_19_1] | rw [ci_t s_19_2] | rw [ci_f s_19_2] | rw [ci_t s_19_3] | rw [ci_f s_19_3])))
  · refine lv_if_ne (tgt := 18) hx hb dX5_commitment_13 (by decide) (fun h9 => absurd (by decide) h9) (fun _ => ?_)
    refine lv_iconst (v := (-1)) hx hb dX5_commitment_16 (by decide) ?_
    exact retE hx hb hr hlocks dX5_commitment_17 (by first | rfl | (unfold v_comm; repeat (first | rw [ci_t c_10] | rw [ci_f c_10])))
set_option maxHeartbeats 4000000 in
set_option maxRecDepth 100000 in
theorem c_X5_deed {l : Launch} {D : va_G} {cI cR : ClassId} {ad : Nat → Nat} (X : St) (i : Int32) : RoE l D cI cR (wC cI cR ad X) yX5_deed wsX5_deed ({ frames := 2, cells := 0, slots := 0, locals := 43 } : Room) [.ref (ad 233), .int i] (V_deed X i) := by
  refine OfW (cc := cX5_deed) (maxL := 3) (ret := (some .int)) (by decide +kernel) rfl (Nat.le_of_ble_eq_true rfl) (fun p e s m below meth c hx hb hr hts hown hlocks hml hnm hP hK hN ls hl => ?_)
  have hl : lv_has ls 3 [(0, .ref (ad 233)), (1, .int i)] := hl
  have lk_19 := hts (.fieldLink RX5 19 "HeadBudgets" "memory" "LHeadBudgets$Memory;") (by decide +kernel)
  have lk_169 := hts (.fieldLink RX5 169 "HeadBudgets$Deed" "kind" "I") (by decide +kernel)
  have hi_X2 : ∀ w ∈ wsX20, w ∈ wsX5_deed := by decide +kernel
  have hi_X5 : ∀ w ∈ wsX50, w ∈ wsX5_deed := by decide +kernel
  refine lv_iload_n hx hb dX5_deed_0 rfl (lv_at hl 1 rfl) ?_
  refine lv_if_ge (tgt := 6) hx hb dX5_deed_1 (by decide) (fun c_1 => ?_) (fun c_1 => ?_)
  · refine lv_aload_n hx hb dX5_deed_6 rfl (lv_at hl 0 rfl) ?_
    refine xget (C := RX5) (T := TX5) (N := 2) (ci := 5) (w := .ref (ad 234)) hx hb hts hi_X5 hown hK hP 233 g0_233 rfl 1 (by decide) lk_19 rfl dX5_deed_7 ?_
    refine lv_iload_n hx hb dX5_deed_10 rfl (lv_at hl 1 rfl) ?_
    refine callQ (As := [.int i]) (rest := []) ⟨hx, hb, hml, hown, hts⟩ (c_X4_recall X i) (cwV 1 hts gX5_deed_X4_recall rfl rfl rfl (by decide +kernel) ⟨Nat.le_of_ble_eq_true rfl, Nat.le_of_ble_eq_true rfl⟩) hK hN hP 234 g0_234 rfl rfl hl.1 rfl (Nat.le_of_ble_eq_true rfl) dX5_deed_11 ⟨Nat.zero_le _, Nat.zero_le _⟩ ?_
    by_cases c_11 : p_norec X i
    · rw [p_rec_none c_11]
      refine W.eq (g2 := F0 m 14 ls [.null]) rfl ?_
      refine lv_astore_nN (lv' := [(2, .null), (0, .ref (ad 233)), (1, .int i)]) hx hb dX5_deed_14 rfl hl (by decide) rfl (fun ls hl => ?_)
      refine lv_aload_nN hx hb dX5_deed_15 rfl (lv_at hl 0 rfl) ?_
      refine lv_ifnonnullN hx hb dX5_deed_16 ?_
      refine lv_bipush (v := (-9)) hx hb dX5_deed_19 (by decide) ?_
      refine lv_goto (tgt := 28) hx hb dX5_deed_21 (by decide) ?_
      exact retE hx hb hr hlocks dX5_deed_28 (by unfold V_deed; repeat (first | rw [ci_t c_1] | rw [ci_f c_1] | rw [ci_t c_11] | rw [ci_f c_11]))
    · rw [p_rec_some c_11]
      obtain ⟨z_11, ez_11, hz_11⟩ : ∃ z : Nat, z = (p_slot X i).toNatClampNeg ∧ z < 12 := ⟨_, rfl, slot_lt _ _⟩
      rw [← ez_11]
      refine W.eq (g2 := F0 m 14 ls [.ref (ad (221 + z_11))]) rfl ?_
      refine lv_astore_n (lv' := [(2, .ref (ad (221 + z_11))), (0, .ref (ad 233)), (1, .int i)]) hx hb dX5_deed_14 rfl hl (by decide) rfl (fun ls hl => ?_)
      refine lv_aload_n hx hb dX5_deed_15 rfl (lv_at hl 0 rfl) ?_
      refine lv_ifnonnull (tgt := 24) hx hb dX5_deed_16 (by decide) ?_
      refine lv_aload_n hx hb dX5_deed_24 rfl (lv_at hl 0 rfl) ?_
      refine xget (C := RX2) (T := TX2) (N := 6) (ci := 2) (w := .int (X 13 1 z_11)) hx hb hts hi_X2 hown hK hP ((221 + z_11)) (gd hz_11) rfl 2 (by decide) lk_169 rfl dX5_deed_25 ?_
      exact retE hx hb hr hlocks dX5_deed_28 (by rw [ez_11]; unfold V_deed; repeat (first | rw [ci_t c_1] | rw [ci_f c_1] | rw [ci_t c_11] | rw [ci_f c_11]))
  · refine lv_iconst (v := (-1)) hx hb dX5_deed_4 (by decide) ?_
    exact retE hx hb hr hlocks dX5_deed_5 (by unfold V_deed; repeat (first | rw [ci_t c_1] | rw [ci_f c_1]))
set_option maxHeartbeats 4000000 in
set_option maxRecDepth 100000 in
theorem c_X5_mostFrom {l : Launch} {D : va_G} {cI cR : ClassId} {ad : Nat → Nat} (X : St) (f : Int32) (t : Int32) : RoE l D cI cR (wC cI cR ad X) yX5_mostFrom wsX5_mostFrom ({ frames := 4, cells := 0, slots := 0, locals := 92 } : Room) [.ref (ad 233), .int f, .int t] (v_most (X 0) f t) := by
  refine OfW (cc := cX5_mostFrom) (maxL := 3) (ret := (some .int)) (by decide +kernel) rfl (Nat.le_of_ble_eq_true rfl) (fun p e s m below meth c hx hb hr hts hown hlocks hml hnm hP hK hN ls hl => ?_)
  have hl : lv_has ls 3 [(0, .ref (ad 233)), (1, .int f), (2, .int t)] := hl
  have lk_10 := hts (.fieldLink RX5 10 "HeadBudgets" "now" "LHeadBudgets$Books;") (by decide +kernel)
  have lk_23 := hts (.fieldLink RX5 23 "HeadBudgets$Books" "heads" "LHeadBudgets$Heads;") (by decide +kernel)
  have hi_X0 : ∀ w ∈ wsX00, w ∈ wsX5_mostFrom := by decide +kernel
  have hi_X5 : ∀ w ∈ wsX50, w ∈ wsX5_mostFrom := by decide +kernel
  refine lv_aload_n hx hb dX5_mostFrom_0 rfl (lv_at hl 0 rfl) ?_
  refine xget (C := RX5) (T := TX5) (N := 2) (ci := 5) (w := .ref (ad 0)) hx hb hts hi_X5 hown hK hP 233 g0_233 rfl 0 (by decide) lk_10 rfl dX5_mostFrom_1 ?_
  refine xget (C := RX0) (T := TX0) (N := 6) (ci := 0) (w := .ref (ad 1)) hx hb hts hi_X0 hown hK hP 0 g0_0 rfl 0 (by decide) lk_23 rfl dX5_mostFrom_4 ?_
  refine lv_iload_n hx hb dX5_mostFrom_7 rfl (lv_at hl 1 rfl) ?_
  refine lv_iload_n hx hb dX5_mostFrom_8 rfl (lv_at hl 2 rfl) ?_
  refine callB (As := [.int f, .int t]) (rest := []) ⟨hx, hb, hml, hown, hts⟩ (c_X3_hasBoth X f t) (cwV 2 hts gX5_mostFrom_X3_hasBoth rfl rfl rfl (by decide +kernel) ⟨Nat.le_of_ble_eq_true rfl, Nat.le_of_ble_eq_true rfl⟩) hK hN hP 1 g0_1 rfl rfl hl.1 rfl (Nat.le_of_ble_eq_true rfl) dX5_mostFrom_9 ⟨Nat.zero_le _, Nat.zero_le _⟩ (fun c_9 => ?_) (fun c_9 => ?_)
  · refine lv_if_ne (tgt := 17) hx hb dX5_mostFrom_12 (by decide) (fun _ => ?_) (fun h9 => absurd h9 (by decide))
    refine lv_aload_n hx hb dX5_mostFrom_17 rfl (lv_at hl 0 rfl) ?_
    refine xget (C := RX5) (T := TX5) (N := 2) (ci := 5) (w := .ref (ad 0)) hx hb hts hi_X5 hown hK hP 233 g0_233 rfl 0 (by decide) lk_10 rfl dX5_mostFrom_18 ?_
    refine xget (C := RX0) (T := TX0) (N := 6) (ci := 0) (w := .ref (ad 1)) hx hb hts hi_X0 hown hK hP 0 g0_0 rfl 0 (by decide) lk_23 rfl dX5_mostFrom_21 ?_
    refine lv_iload_n hx hb dX5_mostFrom_24 rfl (lv_at hl 1 rfl) ?_
    refine lv_iload_n hx hb dX5_mostFrom_25 rfl (lv_at hl 2 rfl) ?_
    refine callE (As := [.int f, .int t]) (rest := []) ⟨hx, hb, hml, hown, hts⟩ (c_X3_movable X f t) (cwV 2 hts gX5_mostFrom_X3_movable rfl rfl rfl (by decide +kernel) ⟨Nat.le_of_ble_eq_true rfl, Nat.le_of_ble_eq_true rfl⟩) hK hN hP 1 g0_1 rfl rfl hl.1 rfl (Nat.le_of_ble_eq_true rfl) dX5_mostFrom_26 ⟨Nat.zero_le _, Nat.zero_le _⟩ ?_
    exact retE hx hb hr hlocks dX5_mostFrom_29 (by first | rfl | (unfold v_most; repeat (first | rw [ci_t c_9] | rw [ci_f c_9])))
  · refine lv_if_ne (tgt := 17) hx hb dX5_mostFrom_12 (by decide) (fun h9 => absurd (by decide) h9) (fun _ => ?_)
    refine lv_iconst (v := (-1)) hx hb dX5_mostFrom_15 (by decide) ?_
    exact retE hx hb hr hlocks dX5_mostFrom_16 (by first | rfl | (unfold v_most; repeat (first | rw [ci_t c_9] | rw [ci_f c_9])))
set_option maxHeartbeats 4000000 in
set_option maxRecDepth 100000 in
theorem c_X5_bestGiver {l : Launch} {D : va_G} {cI cR : ClassId} {ad : Nat → Nat} (X : St) (t : Int32) : RoE l D cI cR (wC cI cR ad X) yX5_bestGiver wsX5_bestGiver ({ frames := 5, cells := 0, slots := 0, locals := 117 } : Room) [.ref (ad 233), .int t] (v_giver (X 0) t) := by
  refine OfW (cc := cX5_bestGiver) (maxL := 2) (ret := (some .int)) (by decide +kernel) rfl (Nat.le_of_ble_eq_true rfl) (fun p e s m below meth c hx hb hr hts hown hlocks hml hnm hP hK hN ls hl => ?_)
  have hl : lv_has ls 2 [(0, .ref (ad 233)), (1, .int t)] := hl
  have lk_10 := hts (.fieldLink RX5 10 "HeadBudgets" "now" "LHeadBudgets$Books;") (by decide +kernel)
  have lk_23 := hts (.fieldLink RX5 23 "HeadBudgets$Books" "heads" "LHeadBudgets$Heads;") (by decide +kernel)
  have hi_X0 : ∀ w ∈ wsX00, w ∈ wsX5_bestGiver := by decide +kernel
  have hi_X5 : ∀ w ∈ wsX50, w ∈ wsX5_bestGiver := by decide +kernel
  refine lv_aload_n hx hb dX5_bestGiver_0 rfl (lv_at hl 0 rfl) ?_
  refine xget (C := RX5) (T := TX5) (N := 2) (ci := 5) (w := .ref (ad 0)) hx hb hts hi_X5 hown hK hP 233 g0_233 rfl 0 (by decide) lk_10 rfl dX5_bestGiver_1 ?_
  refine xget (C := RX0) (T := TX0) (N := 6) (ci := 0) (w := .ref (ad 1)) hx hb hts hi_X0 hown hK hP 0 g0_0 rfl 0 (by decide) lk_23 rfl dX5_bestGiver_4 ?_
  refine lv_iload_n hx hb dX5_bestGiver_7 rfl (lv_at hl 1 rfl) ?_
  refine callB (As := [.int t]) (rest := []) ⟨hx, hb, hml, hown, hts⟩ (c_X3_has X t) (cwV 1 hts gX5_bestGiver_X3_has rfl rfl rfl (by decide +kernel) ⟨Nat.le_of_ble_eq_true rfl, Nat.le_of_ble_eq_true rfl⟩) hK hN hP 1 g0_1 rfl rfl hl.1 rfl (Nat.le_of_ble_eq_true rfl) dX5_bestGiver_8 ⟨Nat.zero_le _, Nat.zero_le _⟩ (fun c_8 => ?_) (fun c_8 => ?_)
  · refine lv_if_ne (tgt := 16) hx hb dX5_bestGiver_11 (by decide) (fun _ => ?_) (fun h9 => absurd h9 (by decide))
    refine lv_aload_n hx hb dX5_bestGiver_16 rfl (lv_at hl 0 rfl) ?_
    refine xget (C := RX5) (T := TX5) (N := 2) (ci := 5) (w := .ref (ad 0)) hx hb hts hi_X5 hown hK hP 233 g0_233 rfl 0 (by decide) lk_10 rfl dX5_bestGiver_17 ?_
    refine xget (C := RX0) (T := TX0) (N := 6) (ci := 0) (w := .ref (ad 1)) hx hb hts hi_X0 hown hK hP 0 g0_0 rfl 0 (by decide) lk_23 rfl dX5_bestGiver_20 ?_
    refine lv_iload_n hx hb dX5_bestGiver_23 rfl (lv_at hl 1 rfl) ?_
    refine callE (As := [.int t]) (rest := []) ⟨hx, hb, hml, hown, hts⟩ (c_X3_giverOfMost X t) (cwV 1 hts gX5_bestGiver_X3_giverOfMost rfl rfl rfl (by decide +kernel) ⟨Nat.le_of_ble_eq_true rfl, Nat.le_of_ble_eq_true rfl⟩) hK hN hP 1 g0_1 rfl rfl hl.1 rfl (Nat.le_of_ble_eq_true rfl) dX5_bestGiver_24 ⟨Nat.zero_le _, Nat.zero_le _⟩ ?_
    exact retE hx hb hr hlocks dX5_bestGiver_27 (by first | rfl | (unfold v_giver; repeat (first | rw [ci_t c_8] | rw [ci_f c_8])))
  · refine lv_if_ne (tgt := 16) hx hb dX5_bestGiver_11 (by decide) (fun h9 => absurd (by decide) h9) (fun _ => ?_)
    refine lv_iconst (v := (-1)) hx hb dX5_bestGiver_14 (by decide) ?_
    exact retE hx hb hr hlocks dX5_bestGiver_15 (by first | rfl | (unfold v_giver; repeat (first | rw [ci_t c_8] | rw [ci_f c_8])))
set_option maxHeartbeats 4000000 in
set_option maxRecDepth 100000 in
theorem c_X5_wouldLapse {l : Launch} {D : va_G} {cI cR : ClassId} {ad : Nat → Nat} (X : St) (h : Int32) : RoE l D cI cR (wC cI cR ad X) yX5_wouldLapse wsX5_wouldLapse ({ frames := 3, cells := 0, slots := 0, locals := 70 } : Room) [.ref (ad 233), .int h] (v_lapse (X 0) h) := by
  refine OfW (cc := cX5_wouldLapse) (maxL := 2) (ret := (some .int)) (by decide +kernel) rfl (Nat.le_of_ble_eq_true rfl) (fun p e s m below meth c hx hb hr hts hown hlocks hml hnm hP hK hN ls hl => ?_)
  have hl : lv_has ls 2 [(0, .ref (ad 233)), (1, .int h)] := hl
  have lk_10 := hts (.fieldLink RX5 10 "HeadBudgets" "now" "LHeadBudgets$Books;") (by decide +kernel)
  have lk_23 := hts (.fieldLink RX5 23 "HeadBudgets$Books" "heads" "LHeadBudgets$Heads;") (by decide +kernel)
  have lk_72 := hts (.fieldLink RX5 72 "HeadBudgets$Books" "carriedPart" "I") (by decide +kernel)
  have hi_X0 : ∀ w ∈ wsX00, w ∈ wsX5_wouldLapse := by decide +kernel
  have hi_X5 : ∀ w ∈ wsX50, w ∈ wsX5_wouldLapse := by decide +kernel
  refine lv_aload_n hx hb dX5_wouldLapse_0 rfl (lv_at hl 0 rfl) ?_
  refine xget (C := RX5) (T := TX5) (N := 2) (ci := 5) (w := .ref (ad 0)) hx hb hts hi_X5 hown hK hP 233 g0_233 rfl 0 (by decide) lk_10 rfl dX5_wouldLapse_1 ?_
  refine xget (C := RX0) (T := TX0) (N := 6) (ci := 0) (w := .ref (ad 1)) hx hb hts hi_X0 hown hK hP 0 g0_0 rfl 0 (by decide) lk_23 rfl dX5_wouldLapse_4 ?_
  refine lv_iload_n hx hb dX5_wouldLapse_7 rfl (lv_at hl 1 rfl) ?_
  refine callB (As := [.int h]) (rest := []) ⟨hx, hb, hml, hown, hts⟩ (c_X3_has X h) (cwV 1 hts gX5_wouldLapse_X3_has rfl rfl rfl (by decide +kernel) ⟨Nat.le_of_ble_eq_true rfl, Nat.le_of_ble_eq_true rfl⟩) hK hN hP 1 g0_1 rfl rfl hl.1 rfl (Nat.le_of_ble_eq_true rfl) dX5_wouldLapse_8 ⟨Nat.zero_le _, Nat.zero_le _⟩ (fun c_8 => ?_) (fun c_8 => ?_)
  · refine lv_if_ne (tgt := 16) hx hb dX5_wouldLapse_11 (by decide) (fun _ => ?_) (fun h9 => absurd h9 (by decide))
    refine lv_aload_n hx hb dX5_wouldLapse_16 rfl (lv_at hl 0 rfl) ?_
    refine xget (C := RX5) (T := TX5) (N := 2) (ci := 5) (w := .ref (ad 0)) hx hb hts hi_X5 hown hK hP 233 g0_233 rfl 0 (by decide) lk_10 rfl dX5_wouldLapse_17 ?_
    refine xget (C := RX0) (T := TX0) (N := 6) (ci := 0) (w := .ref (ad 1)) hx hb hts hi_X0 hown hK hP 0 g0_0 rfl 0 (by decide) lk_23 rfl dX5_wouldLapse_20 ?_
    refine lv_iload_n hx hb dX5_wouldLapse_23 rfl (lv_at hl 1 rfl) ?_
    refine lv_aload_n hx hb dX5_wouldLapse_24 rfl (lv_at hl 0 rfl) ?_
    refine xget (C := RX5) (T := TX5) (N := 2) (ci := 5) (w := .ref (ad 0)) hx hb hts hi_X5 hown hK hP 233 g0_233 rfl 0 (by decide) lk_10 rfl dX5_wouldLapse_25 ?_
    refine xget (C := RX0) (T := TX0) (N := 6) (ci := 0) (w := .int (X 0 14 3)) hx hb hts hi_X0 hown hK hP 0 g0_0 rfl 3 (by decide) lk_72 rfl dX5_wouldLapse_28 ?_
    refine callE (As := [.int h, .int (X 0 14 3)]) (rest := []) ⟨hx, hb, hml, hown, hts⟩ (c_X3_lapseWithin X h (X 0 14 3)) (cwV 2 hts gX5_wouldLapse_X3_lapseWithin rfl rfl rfl (by decide +kernel) ⟨Nat.le_of_ble_eq_true rfl, Nat.le_of_ble_eq_true rfl⟩) hK hN hP 1 g0_1 rfl rfl hl.1 rfl (Nat.le_of_ble_eq_true rfl) dX5_wouldLapse_31 ⟨Nat.zero_le _, Nat.zero_le _⟩ ?_
    exact retE hx hb hr hlocks dX5_wouldLapse_34 (by first | rfl | (unfold v_lapse; repeat (first | rw [ci_t c_8] | rw [ci_f c_8])))
  · refine lv_if_ne (tgt := 16) hx hb dX5_wouldLapse_11 (by decide) (fun h9 => absurd (by decide) h9) (fun _ => ?_)
    refine lv_iconst (v := (-1)) hx hb dX5_wouldLapse_14 (by decide) ?_
    exact retE hx hb hr hlocks dX5_wouldLapse_15 (by first | rfl | (unfold v_lapse; repeat (first | rw [ci_t c_8] | rw [ci_f c_8])))
