set_option maxHeartbeats 4000000 in
set_option maxRecDepth 100000 in
theorem c_X6_free0 {l : Launch} {D : va_G} {cI cR : ClassId} {am : Nat → Nat} (hdj : Dj 9 am) (Y : St) (q : Int32) (hq : cin q) (hh : hin (qv (Y 0) 10 q)) : WoE l D cI cR (Aw 9 am) (wM cI am Y) (wM cI am (sg Y 0 (m_free0 (Y 0) q))) yX6_free0 wsX6_free0 ({ frames := 1, cells := 0, slots := 0, locals := 21 } : Room) [.ref (am 0), .int q] (qv (Y 0) 11 q) := by
  refine OfW (cc := cX6_free0) (maxL := 3) (ret := (some .int)) (by decide +kernel) rfl (Nat.le_of_ble_eq_true rfl) (fun p e s m below meth c hx hb hr hts hown hlocks hml hnm hP hK hN ls hl => ?_)
  have hl : lv_has ls 3 [(0, .ref (am 0)), (1, .int q)] := hl
  have lk_7 := hts (.fieldLink RX6 7 "HeadBudgetsModel" "row" "[I") (by decide +kernel)
  have hi_X6 : ∀ w ∈ wsX60, w ∈ wsX6_free0 := by decide +kernel
  have hS : va_S (Aw 9 am) s.heap s.heap [] := va_S.rf
  have hP : va_P D vwCl (wM cI am Y) s.heap := hP
  refine lv_aload_n hx hb dX6_free0_0 rfl (lv_at hl 0 rfl) ?_
  refine xget (C := RX6) (T := TX6) (N := 10) (ci := 6) (w := .ref (am 1)) hx hb hts hi_X6 hown hK hP 0 rfl rfl 0 (by decide) lk_7 rfl dX6_free0_1 ?_
  refine lv_iload_n hx hb dX6_free0_4 rfl (lv_at hl 1 rfl) ?_
  refine lv_iconst (v := 1) hx hb dX6_free0_5 (by decide) ?_
  refine callSE (As := [.int q, .int 1]) (rest := [.ref (am 1)]) ⟨hx, hb, hml, hown, hts⟩ (c_X6_ofCommitment q 1) (va_cwS 2 hts gX6_free0_X6_ofCommitment rfl rfl rfl (by decide +kernel) ⟨Nat.le_of_ble_eq_true rfl, Nat.le_of_ble_eq_true rfl⟩) hK hN rfl hl.1 rfl (Nat.le_of_ble_eq_true rfl) dX6_free0_6 ⟨Nat.zero_le _, Nat.zero_le _⟩ ?_
  refine xald (x := qv (Y 0) 11 q) hx hb hK hP 1 rfl (oC_in (n := 1) (by assumption) (by decide)) (row_oC (n := 1) (by assumption) (by decide)) dX6_free0_9 ?_
  refine lv_istore_n (lv' := [(2, .int (qv (Y 0) 11 q)), (0, .ref (am 0)), (1, .int q)]) hx hb dX6_free0_10 rfl hl (by decide) rfl (fun ls hl => ?_)
  refine lv_aload_n hx hb dX6_free0_11 rfl (lv_at hl 1 rfl) ?_
  refine xget (C := RX6) (T := TX6) (N := 10) (ci := 6) (w := .ref (am 1)) hx hb hts hi_X6 hown hK hP 0 rfl rfl 0 (by decide) lk_7 rfl dX6_free0_12 ?_
  refine lv_aload_n hx hb dX6_free0_15 rfl (lv_at hl 1 rfl) ?_
  refine xget (C := RX6) (T := TX6) (N := 10) (ci := 6) (w := .ref (am 1)) hx hb hts hi_X6 hown hK hP 0 rfl rfl 0 (by decide) lk_7 rfl dX6_free0_16 ?_
  refine lv_iload_n hx hb dX6_free0_19 rfl (lv_at hl 2 rfl) ?_
  refine lv_iconst (v := 0) hx hb dX6_free0_20 (by decide) ?_
  refine callSE (As := [.int q, .int 0]) (rest := [.ref (am 1), .ref (am 1)]) ⟨hx, hb, hml, hown, hts⟩ (c_X6_ofCommitment q 0) (va_cwS 2 hts gX6_free0_X6_ofCommitment rfl rfl rfl (by decide +kernel) ⟨Nat.le_of_ble_eq_true rfl, Nat.le_of_ble_eq_true rfl⟩) hK hN rfl hl.1 rfl (Nat.le_of_ble_eq_true rfl) dX6_free0_21 ⟨Nat.zero_le _, Nat.zero_le _⟩ ?_
  refine xald (x := qv (Y 0) 10 q) hx hb hK hP 1 rfl (oC_in (n := 0) (by assumption) (by decide)) (row_oC (n := 0) (by assumption) (by decide)) dX6_free0_24 ?_
  refine lv_iconst (v := 4) hx hb dX6_free0_25 (by decide) ?_
  refine callSE (As := [.int (qv (Y 0) 10 q), .int 4]) (rest := [.ref (am 1)]) ⟨hx, hb, hml, hown, hts⟩ (c_X6_of (qv (Y 0) 10 q) 4) (va_cwS 2 hts gX6_free0_X6_of rfl rfl rfl (by decide +kernel) ⟨Nat.le_of_ble_eq_true rfl, Nat.le_of_ble_eq_true rfl⟩) hK hN rfl hl.1 rfl (Nat.le_of_ble_eq_true rfl) dX6_free0_26 ⟨Nat.zero_le _, Nat.zero_le _⟩ ?_
  refine lv_dup2_11 hx hb dX6_free0_29 rfl rfl ?_
  refine xald (x := qv (Y 0) 4 (qv (Y 0) 10 q)) hx hb hK hP 1 rfl (oH_in (n := 4) (by assumption) (by decide)) (row_oH (n := 4) (by assumption) (by decide)) dX6_free0_30 ?_
  refine lv_iload_n hx hb dX6_free0_31 rfl (lv_at hl 0 rfl) ?_
  refine lv_isub hx hb dX6_free0_32 ?_
  refine xast hx hb hK hP (wM_D hdj) hS 1 rfl (oH_in (n := 4) (by assumption) (by decide)) (wM_oH (n := 4) (by assumption) (by decide)) dX6_free0_33 (fun H locs hP hS => ?_)
  obtain ⟨X_1, eX_1⟩ : ∃ Z : St, Z = u3 Y 0 4 (qv (Y 0) 10 q).toNatClampNeg ((qv (Y 0) 4 (qv (Y 0) 10 q)) - (qv (Y 0) 11 q)) := ⟨_, rfl⟩
  rw [← eX_1] at hP
  refine lv_aload_n hx hb dX6_free0_34 rfl (lv_at hl 1 rfl) ?_
  refine xget (C := RX6) (T := TX6) (N := 10) (ci := 6) (w := .ref (am 1)) hx hb hts hi_X6 hown hK hP 0 rfl rfl 0 (by decide) lk_7 rfl dX6_free0_35 ?_
  refine lv_iload_n hx hb dX6_free0_38 rfl (lv_at hl 2 rfl) ?_
  refine lv_iconst (v := 1) hx hb dX6_free0_39 (by decide) ?_
  refine callSE (As := [.int q, .int 1]) (rest := [.ref (am 1)]) ⟨hx, hb, hml, hown, hts⟩ (c_X6_ofCommitment q 1) (va_cwS 2 hts gX6_free0_X6_ofCommitment rfl rfl rfl (by decide +kernel) ⟨Nat.le_of_ble_eq_true rfl, Nat.le_of_ble_eq_true rfl⟩) hK hN rfl hl.1 rfl (Nat.le_of_ble_eq_true rfl) dX6_free0_40 ⟨Nat.zero_le _, Nat.zero_le _⟩ ?_
  refine lv_iconst (v := 0) hx hb dX6_free0_43 (by decide) ?_
  refine xast hx hb hK hP (wM_D hdj) hS 1 rfl (oC_in (n := 1) (by assumption) (by decide)) (wM_oC (n := 1) (by assumption) (by decide)) dX6_free0_44 (fun H locs hP hS => ?_)
  obtain ⟨X_2, eX_2⟩ : ∃ Z : St, Z = u3 X_1 0 11 q.toNatClampNeg 0 := ⟨_, rfl⟩
  rw [← eX_2] at hP
  refine lv_iload_n hx hb dX6_free0_45 rfl (lv_at hl 0 rfl) ?_
  have hZ : X_2 = sg Y 0 (m_free0 (Y 0) q) := by
    subst eX_2 eX_1
    try simp only [u3_sg, sg_sg, sg_g, N_remM_0]
    try unfold m_free0
    try dsimp only
    all_goals (first | rfl | (rw [sg_self]) | (simp only [u3_sg, sg_sg, sg_g, N_remM_0]; done) | (simp only [u3_sg, sg_sg, sg_g, N_remM_0]; rfl))
  have hV : qv (Y 0) 11 q = qv (Y 0) 11 q := by
    subst eX_2 eX_1
    try simp only [u3_sg, sg_sg, sg_g, N_remM_0]
    try dsimp only
    all_goals (first | rfl | (rw [sg_self]) | (simp only [u3_sg, sg_sg, sg_g, N_remM_0]; done) | (simp only [u3_sg, sg_sg, sg_g, N_remM_0]; rfl))
  exact retWE hx hb hr hlocks (by rw [← hZ]; exact hP) hS dX6_free0_46 hV
set_option maxHeartbeats 4000000 in
set_option maxRecDepth 100000 in
theorem c_X6_moves {l : Launch} {D : va_G} {cI cR : ClassId} {am : Nat → Nat} (hdj : Dj 9 am) (Y : St) (f : Int32) (t : Int32) (a : Int32) (hf : hin f) (ht : hin t) : WoV l D cI cR (Aw 9 am) (wM cI am Y) (wM cI am (sg Y 0 (m_mv (Y 0) f t a))) yX6_moves wsX6_moves ({ frames := 1, cells := 0, slots := 0, locals := 21 } : Room) [.ref (am 0), .int f, .int t, .int a] := by
  refine OfW (cc := cX6_moves) (maxL := 4) (ret := none) (by decide +kernel) rfl (Nat.le_of_ble_eq_true rfl) (fun p e s m below meth c hx hb hr hts hown hlocks hml hnm hP hK hN ls hl => ?_)
  have hl : lv_has ls 4 [(0, .ref (am 0)), (1, .int f), (2, .int t), (3, .int a)] := hl
  have lk_7 := hts (.fieldLink RX6 7 "HeadBudgetsModel" "row" "[I") (by decide +kernel)
  have hi_X6 : ∀ w ∈ wsX60, w ∈ wsX6_moves := by decide +kernel
  have hS : va_S (Aw 9 am) s.heap s.heap [] := va_S.rf
  have hP : va_P D vwCl (wM cI am Y) s.heap := hP
  refine lv_aload_n hx hb dX6_moves_0 rfl (lv_at hl 0 rfl) ?_
  refine xget (C := RX6) (T := TX6) (N := 10) (ci := 6) (w := .ref (am 1)) hx hb hts hi_X6 hown hK hP 0 rfl rfl 0 (by decide) lk_7 rfl dX6_moves_1 ?_
  refine lv_iload_n hx hb dX6_moves_4 rfl (lv_at hl 1 rfl) ?_
  refine lv_iconst (v := 3) hx hb dX6_moves_5 (by decide) ?_
  refine callSE (As := [.int f, .int 3]) (rest := [.ref (am 1)]) ⟨hx, hb, hml, hown, hts⟩ (c_X6_of f 3) (va_cwS 2 hts gX6_moves_X6_of rfl rfl rfl (by decide +kernel) ⟨Nat.le_of_ble_eq_true rfl, Nat.le_of_ble_eq_true rfl⟩) hK hN rfl hl.1 rfl (Nat.le_of_ble_eq_true rfl) dX6_moves_6 ⟨Nat.zero_le _, Nat.zero_le _⟩ ?_
  refine lv_dup2_11 hx hb dX6_moves_9 rfl rfl ?_
  refine xald (x := qv (Y 0) 3 f) hx hb hK hP 1 rfl (oH_in (n := 3) (by assumption) (by decide)) (row_oH (n := 3) (by assumption) (by decide)) dX6_moves_10 ?_
  refine lv_iload_n hx hb dX6_moves_11 rfl (lv_at hl 3 rfl) ?_
  refine lv_isub hx hb dX6_moves_12 ?_
  refine xast hx hb hK hP (wM_D hdj) hS 1 rfl (oH_in (n := 3) (by assumption) (by decide)) (wM_oH (n := 3) (by assumption) (by decide)) dX6_moves_13 (fun H locs hP hS => ?_)
  obtain ⟨X_1, eX_1⟩ : ∃ Z : St, Z = u3 Y 0 3 f.toNatClampNeg ((qv (Y 0) 3 f) - a) := ⟨_, rfl⟩
  rw [← eX_1] at hP
  refine lv_aload_n hx hb dX6_moves_14 rfl (lv_at hl 0 rfl) ?_
  refine xget (C := RX6) (T := TX6) (N := 10) (ci := 6) (w := .ref (am 1)) hx hb hts hi_X6 hown hK hP 0 rfl rfl 0 (by decide) lk_7 rfl dX6_moves_15 ?_
  refine lv_iload_n hx hb dX6_moves_18 rfl (lv_at hl 2 rfl) ?_
  refine lv_iconst (v := 3) hx hb dX6_moves_19 (by decide) ?_
  refine callSE (As := [.int t, .int 3]) (rest := [.ref (am 1)]) ⟨hx, hb, hml, hown, hts⟩ (c_X6_of t 3) (va_cwS 2 hts gX6_moves_X6_of rfl rfl rfl (by decide +kernel) ⟨Nat.le_of_ble_eq_true rfl, Nat.le_of_ble_eq_true rfl⟩) hK hN rfl hl.1 rfl (Nat.le_of_ble_eq_true rfl) dX6_moves_20 ⟨Nat.zero_le _, Nat.zero_le _⟩ ?_
  refine lv_dup2_11 hx hb dX6_moves_23 rfl rfl ?_
  refine xald (x := qv (X_1 0) 3 t) hx hb hK hP 1 rfl (oH_in (n := 3) (by assumption) (by decide)) (row_oH (n := 3) (by assumption) (by decide)) dX6_moves_24 ?_
  refine lv_iload_n hx hb dX6_moves_25 rfl (lv_at hl 3 rfl) ?_
  refine lv_iadd hx hb dX6_moves_26 ?_
  refine xast hx hb hK hP (wM_D hdj) hS 1 rfl (oH_in (n := 3) (by assumption) (by decide)) (wM_oH (n := 3) (by assumption) (by decide)) dX6_moves_27 (fun H locs hP hS => ?_)
  obtain ⟨X_2, eX_2⟩ : ∃ Z : St, Z = u3 X_1 0 3 t.toNatClampNeg ((qv (X_1 0) 3 t) + a) := ⟨_, rfl⟩
  rw [← eX_2] at hP
  have hZ : X_2 = sg Y 0 (m_mv (Y 0) f t a) := by
    subst eX_2 eX_1
    try simp only [u3_sg, sg_sg, sg_g, N_remM_0]
    try unfold m_mv
    try dsimp only
    all_goals (first | rfl | (rw [sg_self]) | (simp only [u3_sg, sg_sg, sg_g, N_remM_0]; done) | (simp only [u3_sg, sg_sg, sg_g, N_remM_0]; rfl))
  exact retWV hx hb hr hlocks (by rw [← hZ]; exact hP) hS dX6_moves_28
set_option maxHeartbeats 4000000 in
set_option maxRecDepth 100000 in
theorem c_X6_make {l : Launch} {D : va_G} {cI cR : ClassId} {am : Nat → Nat} (hdj : Dj 9 am) (Y : St) (n : Nat) (hn : n ≤ 12) (hd : Y 14 0 0 = nI n) {K : Int} (hok : Ok K (Y 0)) (a : Int32) (k : Int32) : WoE l D cI cR (Aw 9 am) (wM cI am Y) (wM cI am (opY Y n (g_make (Y 0) a k) 0 a k 0 (m_make (Y 0) a k))) yX6_make wsX6_make ({ frames := 3, cells := 0, slots := 0, locals := 68 } : Room) [.ref (am 0), .int a, .int k] (opV (g_make (Y 0) a k) (Y 0 14 1)) := by
  refine OfW (cc := cX6_make) (maxL := 4) (ret := (some .int)) (by decide +kernel) rfl (Nat.le_of_ble_eq_true rfl) (fun p e s m below meth c hx hb hr hts hown hlocks hml hnm hP hK hN ls hl => ?_)
  have hl : lv_has ls 4 [(0, .ref (am 0)), (1, .int a), (2, .int k)] := hl
  have lk_7 := hts (.fieldLink RX6 7 "HeadBudgetsModel" "row" "[I") (by decide +kernel)
  have hi_X6 : ∀ w ∈ wsX60, w ∈ wsX6_make := by decide +kernel
  have hS : va_S (Aw 9 am) s.heap s.heap [] := va_S.rf
  have hP : va_P D vwCl (wM cI am Y) s.heap := hP
  refine lv_aload_n hx hb dX6_make_0 rfl (lv_at hl 0 rfl) ?_
  refine lv_iload_n hx hb dX6_make_1 rfl (lv_at hl 1 rfl) ?_
  refine callB (As := [.int a]) (rest := []) ⟨hx, hb, hml, hown, hts⟩ (c_X6_isHead Y hok a) (cwV 1 hts gX6_make_X6_isHead rfl rfl rfl (by decide +kernel) ⟨Nat.le_of_ble_eq_true rfl, Nat.le_of_ble_eq_true rfl⟩) hK hN hP 0 rfl rfl rfl hl.1 rfl (Nat.le_of_ble_eq_true rfl) dX6_make_2 ⟨Nat.zero_le _, Nat.zero_le _⟩ (fun c_2 => ?_) (fun c_2 => ?_)
  · refine lv_if_eq (tgt := 18) hx hb dX6_make_5 (by decide) (fun h9 => absurd h9 (by decide)) (fun _ => ?_)
    refine lv_iload_n hx hb dX6_make_8 rfl (lv_at hl 2 rfl) ?_
    refine lv_iconst (v := 0) hx hb dX6_make_9 (by decide) ?_
    refine lv_bipush (v := 9) hx hb dX6_make_10 (by decide) ?_
    refine callSB (As := [.int k, .int 0, .int 9]) (rest := []) ⟨hx, hb, hml, hown, hts⟩ (c_X6_in k 0 9) (va_cwS 3 hts gX6_make_X6_in rfl rfl rfl (by decide +kernel) ⟨Nat.le_of_ble_eq_true rfl, Nat.le_of_ble_eq_true rfl⟩) hK hN rfl hl.1 rfl (Nat.le_of_ble_eq_true rfl) dX6_make_12 ⟨Nat.zero_le _, Nat.zero_le _⟩ (fun c_12 => ?_) (fun c_12 => ?_)
    · refine lv_if_ne (tgt := 20) hx hb dX6_make_15 (by decide) (fun _ => ?_) (fun h9 => absurd h9 (by decide))
      refine lv_aload_n hx hb dX6_make_20 rfl (lv_at hl 0 rfl) ?_
      refine lv_iload_n hx hb dX6_make_21 rfl (lv_at hl 1 rfl) ?_
      refine callE (As := [.int a]) (rest := []) ⟨hx, hb, hml, hown, hts⟩ (c_X6_depth Y hok a (by assumption)) (cwV 1 hts gX6_make_X6_depth rfl rfl rfl (by decide +kernel) ⟨Nat.le_of_ble_eq_true rfl, Nat.le_of_ble_eq_true rfl⟩) hK hN hP 0 rfl rfl rfl hl.1 rfl (Nat.le_of_ble_eq_true rfl) dX6_make_22 ⟨Nat.zero_le _, Nat.zero_le _⟩ ?_
      refine lv_iconst (v := 4) hx hb dX6_make_25 (by decide) ?_
      refine lv_icmp_ne (tgt := 32) hx hb dX6_make_26 (by decide) (fun c_26 => ?_) (fun c_26 => ?_)
      · refine lv_aload_n hx hb dX6_make_32 rfl (lv_at hl 0 rfl) ?_
        refine xget (C := RX6) (T := TX6) (N := 10) (ci := 6) (w := .ref (am 1)) hx hb hts hi_X6 hown hK hP 0 rfl rfl 0 (by decide) lk_7 rfl dX6_make_33 ?_
        refine lv_iconst (v := 1) hx hb dX6_make_36 (by decide) ?_
        refine xald (x := Y 0 14 1) hx hb hK hP 1 rfl (vp_in_lit (by decide)) (row_n _ (o := 1) (by decide)) dX6_make_37 ?_
        refine lv_bipush (v := 20) hx hb dX6_make_38 (by decide) ?_
        refine lv_icmp_ne (tgt := 46) hx hb dX6_make_40 (by decide) (fun c_40 => ?_) (fun c_40 => ?_)
        · refine lv_aload_n hx hb dX6_make_46 rfl (lv_at hl 0 rfl) ?_
          refine lv_iconst (v := 0) hx hb dX6_make_47 (by decide) ?_
          refine lv_iload_n hx hb dX6_make_48 rfl (lv_at hl 1 rfl) ?_
          refine lv_iload_n hx hb dX6_make_49 rfl (lv_at hl 2 rfl) ?_
          refine lv_iconst (v := 0) hx hb dX6_make_50 (by decide) ?_
          refine callWV (As := [.int 0, .int a, .int k, .int 0]) (rest := []) ⟨hx, hb, hml, hown, hts⟩ (c_X6_remember hdj Y 0 a k 0 n hn hd) (cwV 4 hts gX6_make_X6_remember rfl rfl rfl (by decide +kernel) ⟨Nat.le_of_ble_eq_true rfl, Nat.le_of_ble_eq_true rfl⟩) hK hN hP 0 rfl rfl rfl hl.1 rfl (Nat.le_of_ble_eq_true rfl) dX6_make_51 ⟨Nat.zero_le _, Nat.zero_le _⟩ hS (fun _ h9 => h9) (fun H locs hP hS => ?_)
          obtain ⟨X_1, eX_1⟩ : ∃ Z : St, Z = N_remM Y n 0 a k 0 := ⟨_, rfl⟩
          rw [← eX_1] at hP
          have hh9 : hin (X_1 0 14 1) := by rw [eX_1, N_remM_0]; exact (hin_new hok c_40)
          refine lv_aload_n hx hb dX6_make_54 rfl (lv_at hl 0 rfl) ?_
          refine xget (C := RX6) (T := TX6) (N := 10) (ci := 6) (w := .ref (am 1)) hx hb hts hi_X6 hown hK hP 0 rfl rfl 0 (by decide) lk_7 rfl dX6_make_55 ?_
          refine lv_iconst (v := 1) hx hb dX6_make_58 (by decide) ?_
          refine xald (x := X_1 0 14 1) hx hb hK hP 1 rfl (vp_in_lit (by decide)) (row_n _ (o := 1) (by decide)) dX6_make_59 ?_
          refine lv_istore_n (lv' := [(3, .int (X_1 0 14 1)), (0, .ref (am 0)), (1, .int a), (2, .int k)]) hx hb dX6_make_60 rfl hl (by decide) rfl (fun ls hl => ?_)
          refine lv_aload_n hx hb dX6_make_61 rfl (lv_at hl 1 rfl) ?_
          refine xget (C := RX6) (T := TX6) (N := 10) (ci := 6) (w := .ref (am 1)) hx hb hts hi_X6 hown hK hP 0 rfl rfl 0 (by decide) lk_7 rfl dX6_make_62 ?_
          refine lv_iload_n hx hb dX6_make_65 rfl (lv_at hl 0 rfl) ?_
          refine lv_iconst (v := 0) hx hb dX6_make_66 (by decide) ?_
          refine callSE (As := [.int (X_1 0 14 1), .int 0]) (rest := [.ref (am 1)]) ⟨hx, hb, hml, hown, hts⟩ (c_X6_of (X_1 0 14 1) 0) (va_cwS 2 hts gX6_make_X6_of rfl rfl rfl (by decide +kernel) ⟨Nat.le_of_ble_eq_true rfl, Nat.le_of_ble_eq_true rfl⟩) hK hN rfl hl.1 rfl (Nat.le_of_ble_eq_true rfl) dX6_make_67 ⟨Nat.zero_le _, Nat.zero_le _⟩ ?_
          refine lv_iload_n hx hb dX6_make_70 rfl (lv_at hl 2 rfl) ?_
          refine xast hx hb hK hP (wM_D hdj) hS 1 rfl (oH_in (n := 0) (by assumption) (by decide)) (wM_oH (n := 0) (by assumption) (by decide)) dX6_make_71 (fun H locs hP hS => ?_)
          obtain ⟨X_2, eX_2⟩ : ∃ Z : St, Z = u3 X_1 0 0 (X_1 0 14 1).toNatClampNeg a := ⟨_, rfl⟩
          rw [← eX_2] at hP
          refine lv_aload_n hx hb dX6_make_72 rfl (lv_at hl 1 rfl) ?_
          refine xget (C := RX6) (T := TX6) (N := 10) (ci := 6) (w := .ref (am 1)) hx hb hts hi_X6 hown hK hP 0 rfl rfl 0 (by decide) lk_7 rfl dX6_make_73 ?_
          refine lv_iload_n hx hb dX6_make_76 rfl (lv_at hl 0 rfl) ?_
          refine lv_iconst (v := 1) hx hb dX6_make_77 (by decide) ?_
          refine callSE (As := [.int (X_1 0 14 1), .int 1]) (rest := [.ref (am 1)]) ⟨hx, hb, hml, hown, hts⟩ (c_X6_of (X_1 0 14 1) 1) (va_cwS 2 hts gX6_make_X6_of rfl rfl rfl (by decide +kernel) ⟨Nat.le_of_ble_eq_true rfl, Nat.le_of_ble_eq_true rfl⟩) hK hN rfl hl.1 rfl (Nat.le_of_ble_eq_true rfl) dX6_make_78 ⟨Nat.zero_le _, Nat.zero_le _⟩ ?_
          refine lv_iload_n hx hb dX6_make_81 rfl (lv_at hl 3 rfl) ?_
          refine xast hx hb hK hP (wM_D hdj) hS 1 rfl (oH_in (n := 1) (by assumption) (by decide)) (wM_oH (n := 1) (by assumption) (by decide)) dX6_make_82 (fun H locs hP hS => ?_)
          obtain ⟨X_3, eX_3⟩ : ∃ Z : St, Z = u3 X_2 0 1 (X_1 0 14 1).toNatClampNeg k := ⟨_, rfl⟩
          rw [← eX_3] at hP
          refine lv_aload_n hx hb dX6_make_83 rfl (lv_at hl 1 rfl) ?_
          refine xget (C := RX6) (T := TX6) (N := 10) (ci := 6) (w := .ref (am 1)) hx hb hts hi_X6 hown hK hP 0 rfl rfl 0 (by decide) lk_7 rfl dX6_make_84 ?_
          refine lv_iload_n hx hb dX6_make_87 rfl (lv_at hl 0 rfl) ?_
          refine lv_bipush (v := 8) hx hb dX6_make_88 (by decide) ?_
          refine callSE (As := [.int (X_1 0 14 1), .int 8]) (rest := [.ref (am 1)]) ⟨hx, hb, hml, hown, hts⟩ (c_X6_of (X_1 0 14 1) 8) (va_cwS 2 hts gX6_make_X6_of rfl rfl rfl (by decide +kernel) ⟨Nat.le_of_ble_eq_true rfl, Nat.le_of_ble_eq_true rfl⟩) hK hN rfl hl.1 rfl (Nat.le_of_ble_eq_true rfl) dX6_make_90 ⟨Nat.zero_le _, Nat.zero_le _⟩ ?_
          refine lv_bipush (v := 50) hx hb dX6_make_93 (by decide) ?_
          refine xast hx hb hK hP (wM_D hdj) hS 1 rfl (oH_in (n := 8) (by assumption) (by decide)) (wM_oH (n := 8) (by assumption) (by decide)) dX6_make_95 (fun H locs hP hS => ?_)
          obtain ⟨X_4, eX_4⟩ : ∃ Z : St, Z = u3 X_3 0 8 (X_1 0 14 1).toNatClampNeg 50 := ⟨_, rfl⟩
          rw [← eX_4] at hP
          refine lv_aload_n hx hb dX6_make_96 rfl (lv_at hl 1 rfl) ?_
          refine xget (C := RX6) (T := TX6) (N := 10) (ci := 6) (w := .ref (am 1)) hx hb hts hi_X6 hown hK hP 0 rfl rfl 0 (by decide) lk_7 rfl dX6_make_97 ?_
          refine lv_iconst (v := 1) hx hb dX6_make_100 (by decide) ?_
          refine lv_dup2_11 hx hb dX6_make_101 rfl rfl ?_
          refine xald (x := X_4 0 14 1) hx hb hK hP 1 rfl (vp_in_lit (by decide)) (row_n _ (o := 1) (by decide)) dX6_make_102 ?_
          refine lv_iconst (v := 1) hx hb dX6_make_103 (by decide) ?_
          refine lv_iadd hx hb dX6_make_104 ?_
          refine xast hx hb hK hP (wM_D hdj) hS 1 rfl (vp_in_lit (by decide)) (wM_sn (o := 1) (by decide)) dX6_make_105 (fun H locs hP hS => ?_)
          obtain ⟨X_5, eX_5⟩ : ∃ Z : St, Z = u3 X_4 0 14 1 ((X_4 0 14 1) + 1) := ⟨_, rfl⟩
          rw [← eX_5] at hP
          refine lv_iload_n hx hb dX6_make_106 rfl (lv_at hl 0 rfl) ?_
          have hg : g_make (Y 0) a k = 0 := by rw [gm_make hok]; repeat (first | rw [ci_t c_2] | rw [ci_f c_2] | rw [ci_t c_12] | rw [ci_f c_12] | rw [ci_t c_26] | rw [ci_f c_26] | rw [ci_t c_40] | rw [ci_f c_40])
          have hZ : X_5 = sg (N_remM Y n 0 a k 0) 0 (m_make (Y 0) a k) := by
            subst eX_5 eX_4 eX_3 eX_2 eX_1
            try simp only [u3_sg, sg_sg, sg_g, N_remM_0]
            try unfold m_make
            try dsimp only
            all_goals repeat (first | rw [ci_t c_2] | rw [ci_f c_2] | rw [ci_t c_12] | rw [ci_f c_12] | rw [ci_t c_26] | rw [ci_f c_26] | rw [ci_t c_40] | rw [ci_f c_40])
            all_goals (first | rfl | (rw [sg_self]) | (simp only [u3_sg, sg_sg, sg_g, N_remM_0]; done) | (simp only [u3_sg, sg_sg, sg_g, N_remM_0]; rfl))
          have hV : X_1 0 14 1 = Y 0 14 1 := by
            subst eX_5 eX_4 eX_3 eX_2 eX_1
            try simp only [u3_sg, sg_sg, sg_g, N_remM_0]
            try dsimp only
            all_goals repeat (first | rw [ci_t c_2] | rw [ci_f c_2] | rw [ci_t c_12] | rw [ci_f c_12] | rw [ci_t c_26] | rw [ci_f c_26] | rw [ci_t c_40] | rw [ci_f c_40])
            all_goals (first | rfl | (rw [sg_self]) | (simp only [u3_sg, sg_sg, sg_g, N_remM_0]; done) | (simp only [u3_sg, sg_sg, sg_g, N_remM_0]; rfl))
          exact retWE hx hb hr hlocks (by rw [opY_0 hg, ← hZ]; exact hP) hS dX6_make_107 (by rw [opV_0 hg]; first | done | exact hV)
        · refine lv_bipush (v := (-3)) hx hb dX6_make_43 (by decide) ?_
          have hg : g_make (Y 0) a k = (-3) := by rw [gm_make hok]; repeat (first | rw [ci_t c_2] | rw [ci_f c_2] | rw [ci_t c_12] | rw [ci_f c_12] | rw [ci_t c_26] | rw [ci_f c_26] | rw [ci_t c_40] | rw [ci_f c_40])
          exact retWE hx hb hr hlocks (by rw [opY_e hg (by decide)]; exact hP) hS dX6_make_45 (opV_e hg (by decide))
      · refine lv_bipush (v := (-2)) hx hb dX6_make_29 (by decide) ?_
        have hg : g_make (Y 0) a k = (-2) := by rw [gm_make hok]; repeat (first | rw [ci_t c_2] | rw [ci_f c_2] | rw [ci_t c_12] | rw [ci_f c_12] | rw [ci_t c_26] | rw [ci_f c_26])
        exact retWE hx hb hr hlocks (by rw [opY_e hg (by decide)]; exact hP) hS dX6_make_31 (opV_e hg (by decide))
    · refine lv_if_ne (tgt := 20) hx hb dX6_make_15 (by decide) (fun h9 => absurd (by decide) h9) (fun _ => ?_)
      refine lv_iconst (v := (-1)) hx hb dX6_make_18 (by decide) ?_
      have hg : g_make (Y 0) a k = (-1) := by rw [gm_make hok]; repeat (first | rw [ci_t c_2] | rw [ci_f c_2] | rw [ci_t c_12] | rw [ci_f c_12])
      exact retWE hx hb hr hlocks (by rw [opY_e hg (by decide)]; exact hP) hS dX6_make_19 (opV_e hg (by decide))
  · refine lv_if_eq (tgt := 18) hx hb dX6_make_5 (by decide) (fun _ => ?_) (fun h9 => absurd (by decide) h9)
    refine lv_iconst (v := (-1)) hx hb dX6_make_18 (by decide) ?_
    have hg : g_make (Y 0) a k = (-1) := by rw [gm_make hok]; repeat (first | rw [ci_t c_2] | rw [ci_f c_2])
    exact retWE hx hb hr hlocks (by rw [opY_e hg (by decide)]; exact hP) hS dX6_make_19 (opV_e hg (by decide))
set_option maxHeartbeats 4000000 in
set_option maxRecDepth 100000 in
theorem c_X6_allot {l : Launch} {D : va_G} {cI cR : ClassId} {am : Nat → Nat} (hdj : Dj 9 am) (Y : St) (n : Nat) (hn : n ≤ 12) (hd : Y 14 0 0 = nI n) {K : Int} (hok : Ok K (Y 0)) (h : Int32) (a : Int32) : WoE l D cI cR (Aw 9 am) (wM cI am Y) (wM cI am (opY Y n (g_allot (Y 0) h a) 1 h 0 a (n_allot (Y 0) h a))) yX6_allot wsX6_allot ({ frames := 3, cells := 0, slots := 0, locals := 68 } : Room) [.ref (am 0), .int h, .int a] (opV (g_allot (Y 0) h a) (qv (n_allot (Y 0) h a) 3 h)) := by
  refine OfW (cc := cX6_allot) (maxL := 3) (ret := (some .int)) (by decide +kernel) rfl (Nat.le_of_ble_eq_true rfl) (fun p e s m below meth c hx hb hr hts hown hlocks hml hnm hP hK hN ls hl => ?_)
  have hl : lv_has ls 3 [(0, .ref (am 0)), (1, .int h), (2, .int a)] := hl
  have lk_7 := hts (.fieldLink RX6 7 "HeadBudgetsModel" "row" "[I") (by decide +kernel)
  have hi_X6 : ∀ w ∈ wsX60, w ∈ wsX6_allot := by decide +kernel
  have hS : va_S (Aw 9 am) s.heap s.heap [] := va_S.rf
  have hP : va_P D vwCl (wM cI am Y) s.heap := hP
  refine lv_aload_n hx hb dX6_allot_0 rfl (lv_at hl 0 rfl) ?_
  refine lv_iload_n hx hb dX6_allot_1 rfl (lv_at hl 1 rfl) ?_
  refine callB (As := [.int h]) (rest := []) ⟨hx, hb, hml, hown, hts⟩ (c_X6_isHead Y hok h) (cwV 1 hts gX6_allot_X6_isHead rfl rfl rfl (by decide +kernel) ⟨Nat.le_of_ble_eq_true rfl, Nat.le_of_ble_eq_true rfl⟩) hK hN hP 0 rfl rfl rfl hl.1 rfl (Nat.le_of_ble_eq_true rfl) dX6_allot_2 ⟨Nat.zero_le _, Nat.zero_le _⟩ (fun c_2 => ?_) (fun c_2 => ?_)
  · have hh := hin_has c_2
    refine lv_if_eq (tgt := 15) hx hb dX6_allot_5 (by decide) (fun h9 => absurd h9 (by decide)) (fun _ => ?_)
    refine lv_iload_n hx hb dX6_allot_8 rfl (lv_at hl 2 rfl) ?_
    refine callSB (As := [.int a]) (rest := []) ⟨hx, hb, hml, hown, hts⟩ (c_X6_isAmount a) (va_cwS 1 hts gX6_allot_X6_isAmount rfl rfl rfl (by decide +kernel) ⟨Nat.le_of_ble_eq_true rfl, Nat.le_of_ble_eq_true rfl⟩) hK hN rfl hl.1 rfl (Nat.le_of_ble_eq_true rfl) dX6_allot_9 ⟨Nat.zero_le _, Nat.zero_le _⟩ (fun c_9 => ?_) (fun c_9 => ?_)
    · refine lv_if_ne (tgt := 17) hx hb dX6_allot_12 (by decide) (fun _ => ?_) (fun h9 => absurd h9 (by decide))
      refine lv_aload_n hx hb dX6_allot_17 rfl (lv_at hl 0 rfl) ?_
      refine xget (C := RX6) (T := TX6) (N := 10) (ci := 6) (w := .ref (am 1)) hx hb hts hi_X6 hown hK hP 0 rfl rfl 0 (by decide) lk_7 rfl dX6_allot_18 ?_
      refine lv_iload_n hx hb dX6_allot_21 rfl (lv_at hl 1 rfl) ?_
      refine lv_iconst (v := 3) hx hb dX6_allot_22 (by decide) ?_
      refine callSE (As := [.int h, .int 3]) (rest := [.ref (am 1)]) ⟨hx, hb, hml, hown, hts⟩ (c_X6_of h 3) (va_cwS 2 hts gX6_allot_X6_of rfl rfl rfl (by decide +kernel) ⟨Nat.le_of_ble_eq_true rfl, Nat.le_of_ble_eq_true rfl⟩) hK hN rfl hl.1 rfl (Nat.le_of_ble_eq_true rfl) dX6_allot_23 ⟨Nat.zero_le _, Nat.zero_le _⟩ ?_
      refine xald (x := qv (Y 0) 3 h) hx hb hK hP 1 rfl (oH_in (n := 3) (by assumption) (by decide)) (row_oH (n := 3) (by assumption) (by decide)) dX6_allot_26 ?_
      refine lv_iload_n hx hb dX6_allot_27 rfl (lv_at hl 2 rfl) ?_
      refine lv_iadd hx hb dX6_allot_28 ?_
      refine lv_ldc (v := 1000000) hx hb hown (hts (.constant RX6 78 1000000) (by decide +kernel)) dX6_allot_29 ?_
      refine lv_icmp_le (tgt := 37) hx hb dX6_allot_31 (by decide) (fun c_31 => ?_) (fun c_31 => ?_)
      · refine lv_aload_n hx hb dX6_allot_37 rfl (lv_at hl 0 rfl) ?_
        refine lv_iconst (v := 1) hx hb dX6_allot_38 (by decide) ?_
        refine lv_iload_n hx hb dX6_allot_39 rfl (lv_at hl 1 rfl) ?_
        refine lv_iconst (v := 0) hx hb dX6_allot_40 (by decide) ?_
        refine lv_iload_n hx hb dX6_allot_41 rfl (lv_at hl 2 rfl) ?_
        refine callWV (As := [.int 1, .int h, .int 0, .int a]) (rest := []) ⟨hx, hb, hml, hown, hts⟩ (c_X6_remember hdj Y 1 h 0 a n hn hd) (cwV 4 hts gX6_allot_X6_remember rfl rfl rfl (by decide +kernel) ⟨Nat.le_of_ble_eq_true rfl, Nat.le_of_ble_eq_true rfl⟩) hK hN hP 0 rfl rfl rfl hl.1 rfl (Nat.le_of_ble_eq_true rfl) dX6_allot_42 ⟨Nat.zero_le _, Nat.zero_le _⟩ hS (fun _ h9 => h9) (fun H locs hP hS => ?_)
        obtain ⟨X_1, eX_1⟩ : ∃ Z : St, Z = N_remM Y n 1 h 0 a := ⟨_, rfl⟩
        rw [← eX_1] at hP
        refine lv_aload_n hx hb dX6_allot_45 rfl (lv_at hl 0 rfl) ?_
        refine xget (C := RX6) (T := TX6) (N := 10) (ci := 6) (w := .ref (am 1)) hx hb hts hi_X6 hown hK hP 0 rfl rfl 0 (by decide) lk_7 rfl dX6_allot_46 ?_
        refine lv_iload_n hx hb dX6_allot_49 rfl (lv_at hl 1 rfl) ?_
        refine lv_iconst (v := 3) hx hb dX6_allot_50 (by decide) ?_
        refine callSE (As := [.int h, .int 3]) (rest := [.ref (am 1)]) ⟨hx, hb, hml, hown, hts⟩ (c_X6_of h 3) (va_cwS 2 hts gX6_allot_X6_of rfl rfl rfl (by decide +kernel) ⟨Nat.le_of_ble_eq_true rfl, Nat.le_of_ble_eq_true rfl⟩) hK hN rfl hl.1 rfl (Nat.le_of_ble_eq_true rfl) dX6_allot_51 ⟨Nat.zero_le _, Nat.zero_le _⟩ ?_
        refine lv_dup2_11 hx hb dX6_allot_54 rfl rfl ?_
        refine xald (x := qv (X_1 0) 3 h) hx hb hK hP 1 rfl (oH_in (n := 3) (by assumption) (by decide)) (row_oH (n := 3) (by assumption) (by decide)) dX6_allot_55 ?_
        refine lv_iload_n hx hb dX6_allot_56 rfl (lv_at hl 2 rfl) ?_
        refine lv_iadd hx hb dX6_allot_57 ?_
        refine xast hx hb hK hP (wM_D hdj) hS 1 rfl (oH_in (n := 3) (by assumption) (by decide)) (wM_oH (n := 3) (by assumption) (by decide)) dX6_allot_58 (fun H locs hP hS => ?_)
        obtain ⟨X_2, eX_2⟩ : ∃ Z : St, Z = u3 X_1 0 3 h.toNatClampNeg ((qv (X_1 0) 3 h) + a) := ⟨_, rfl⟩
        rw [← eX_2] at hP
        refine lv_aload_n hx hb dX6_allot_59 rfl (lv_at hl 0 rfl) ?_
        refine xget (C := RX6) (T := TX6) (N := 10) (ci := 6) (w := .ref (am 1)) hx hb hts hi_X6 hown hK hP 0 rfl rfl 0 (by decide) lk_7 rfl dX6_allot_60 ?_
        refine lv_iload_n hx hb dX6_allot_63 rfl (lv_at hl 1 rfl) ?_
        refine lv_bipush (v := 6) hx hb dX6_allot_64 (by decide) ?_
        refine callSE (As := [.int h, .int 6]) (rest := [.ref (am 1)]) ⟨hx, hb, hml, hown, hts⟩ (c_X6_of h 6) (va_cwS 2 hts gX6_allot_X6_of rfl rfl rfl (by decide +kernel) ⟨Nat.le_of_ble_eq_true rfl, Nat.le_of_ble_eq_true rfl⟩) hK hN rfl hl.1 rfl (Nat.le_of_ble_eq_true rfl) dX6_allot_66 ⟨Nat.zero_le _, Nat.zero_le _⟩ ?_
        refine lv_dup2_11 hx hb dX6_allot_69 rfl rfl ?_
        refine xald (x := qv (X_2 0) 6 h) hx hb hK hP 1 rfl (oH_in (n := 6) (by assumption) (by decide)) (row_oH (n := 6) (by assumption) (by decide)) dX6_allot_70 ?_
        refine lv_iload_n hx hb dX6_allot_71 rfl (lv_at hl 2 rfl) ?_
        refine lv_iadd hx hb dX6_allot_72 ?_
        refine xast hx hb hK hP (wM_D hdj) hS 1 rfl (oH_in (n := 6) (by assumption) (by decide)) (wM_oH (n := 6) (by assumption) (by decide)) dX6_allot_73 (fun H locs hP hS => ?_)
        obtain ⟨X_3, eX_3⟩ : ∃ Z : St, Z = u3 X_2 0 6 h.toNatClampNeg ((qv (X_2 0) 6 h) + a) := ⟨_, rfl⟩
        rw [← eX_3] at hP
        refine lv_aload_n hx hb dX6_allot_74 rfl (lv_at hl 0 rfl) ?_
        refine xget (C := RX6) (T := TX6) (N := 10) (ci := 6) (w := .ref (am 1)) hx hb hts hi_X6 hown hK hP 0 rfl rfl 0 (by decide) lk_7 rfl dX6_allot_75 ?_
        refine lv_iload_n hx hb dX6_allot_78 rfl (lv_at hl 1 rfl) ?_
        refine lv_iconst (v := 3) hx hb dX6_allot_79 (by decide) ?_
        refine callSE (As := [.int h, .int 3]) (rest := [.ref (am 1)]) ⟨hx, hb, hml, hown, hts⟩ (c_X6_of h 3) (va_cwS 2 hts gX6_allot_X6_of rfl rfl rfl (by decide +kernel) ⟨Nat.le_of_ble_eq_true rfl, Nat.le_of_ble_eq_true rfl⟩) hK hN rfl hl.1 rfl (Nat.le_of_ble_eq_true rfl) dX6_allot_80 ⟨Nat.zero_le _, Nat.zero_le _⟩ ?_
        refine xald (x := qv (X_3 0) 3 h) hx hb hK hP 1 rfl (oH_in (n := 3) (by assumption) (by decide)) (row_oH (n := 3) (by assumption) (by decide)) dX6_allot_83 ?_
        have hg : g_allot (Y 0) h a = 0 := by rw [gm_allot hok]; repeat (first | rw [ci_t c_2] | rw [ci_f c_2] | rw [ci_t c_9] | rw [ci_f c_9] | rw [ci_t c_31] | rw [ci_f c_31])
        have hZ : X_3 = sg (N_remM Y n 1 h 0 a) 0 (n_allot (Y 0) h a) := by
          subst eX_3 eX_2 eX_1
          try simp only [u3_sg, sg_sg, sg_g, N_remM_0]
          try unfold n_allot
          try dsimp only
          all_goals repeat (first | rw [ci_t c_2] | rw [ci_f c_2] | rw [ci_t c_9] | rw [ci_f c_9] | rw [ci_t c_31] | rw [ci_f c_31])
          all_goals (first | rfl | (rw [sg_self]) | (simp only [u3_sg, sg_sg, sg_g, N_remM_0]; done) | (simp only [u3_sg, sg_sg, sg_g, N_remM_0]; rfl))
        have hV : qv (X_3 0) 3 h = qv (n_allot (Y 0) h a) 3 h := by
          subst eX_3 eX_2 eX_1
          try simp only [u3_sg, sg_sg, sg_g, N_remM_0]
          try unfold n_allot
          try dsimp only
          all_goals repeat (first | rw [ci_t c_2] | rw [ci_f c_2] | rw [ci_t c_9] | rw [ci_f c_9] | rw [ci_t c_31] | rw [ci_f c_31])
          all_goals (first | rfl | (rw [sg_self]) | (simp only [u3_sg, sg_sg, sg_g, N_remM_0]; done) | (simp only [u3_sg, sg_sg, sg_g, N_remM_0]; rfl))
        exact retWE hx hb hr hlocks (by rw [opY_0 hg, ← hZ]; exact hP) hS dX6_allot_84 (by rw [opV_0 hg]; first | done | exact hV)
      · refine lv_bipush (v := (-3)) hx hb dX6_allot_34 (by decide) ?_
        have hg : g_allot (Y 0) h a = (-3) := by rw [gm_allot hok]; repeat (first | rw [ci_t c_2] | rw [ci_f c_2] | rw [ci_t c_9] | rw [ci_f c_9] | rw [ci_t c_31] | rw [ci_f c_31])
        exact retWE hx hb hr hlocks (by rw [opY_e hg (by decide)]; exact hP) hS dX6_allot_36 (opV_e hg (by decide))
    · refine lv_if_ne (tgt := 17) hx hb dX6_allot_12 (by decide) (fun h9 => absurd (by decide) h9) (fun _ => ?_)
      refine lv_iconst (v := (-1)) hx hb dX6_allot_15 (by decide) ?_
      have hg : g_allot (Y 0) h a = (-1) := by rw [gm_allot hok]; repeat (first | rw [ci_t c_2] | rw [ci_f c_2] | rw [ci_t c_9] | rw [ci_f c_9])
      exact retWE hx hb hr hlocks (by rw [opY_e hg (by decide)]; exact hP) hS dX6_allot_16 (opV_e hg (by decide))
  · refine lv_if_eq (tgt := 15) hx hb dX6_allot_5 (by decide) (fun _ => ?_) (fun h9 => absurd (by decide) h9)
    refine lv_iconst (v := (-1)) hx hb dX6_allot_15 (by decide) ?_
    have hg : g_allot (Y 0) h a = (-1) := by rw [gm_allot hok]; repeat (first | rw [ci_t c_2] | rw [ci_f c_2])
    exact retWE hx hb hr hlocks (by rw [opY_e hg (by decide)]; exact hP) hS dX6_allot_16 (opV_e hg (by decide))
set_option maxHeartbeats 4000000 in
set_option maxRecDepth 100000 in
theorem c_X6_freeze {l : Launch} {D : va_G} {cI cR : ClassId} {am : Nat → Nat} (hdj : Dj 9 am) (Y : St) (n : Nat) (hn : n ≤ 12) (hd : Y 14 0 0 = nI n) {K : Int} (hok : Ok K (Y 0)) (h : Int32) (x : Int32) : WoE l D cI cR (Aw 9 am) (wM cI am Y) (wM cI am (opY Y n (g_freeze (Y 0) h x) 2 h 0 x (n_freeze (Y 0) h x))) yX6_freeze wsX6_freeze ({ frames := 4, cells := 0, slots := 0, locals := 86 } : Room) [.ref (am 0), .int h, .int x] (opV (g_freeze (Y 0) h x) (p_cntb (n_freeze (Y 0) h x) 20)) := by
  refine OfW (cc := cX6_freeze) (maxL := 3) (ret := (some .int)) (by decide +kernel) rfl (Nat.le_of_ble_eq_true rfl) (fun p e s m below meth c hx hb hr hts hown hlocks hml hnm hP hK hN ls hl => ?_)
  have hl : lv_has ls 3 [(0, .ref (am 0)), (1, .int h), (2, .int x)] := hl
  have lk_7 := hts (.fieldLink RX6 7 "HeadBudgetsModel" "row" "[I") (by decide +kernel)
  have hi_X6 : ∀ w ∈ wsX60, w ∈ wsX6_freeze := by decide +kernel
  have hS : va_S (Aw 9 am) s.heap s.heap [] := va_S.rf
  have hP : va_P D vwCl (wM cI am Y) s.heap := hP
  refine lv_aload_n hx hb dX6_freeze_0 rfl (lv_at hl 0 rfl) ?_
  refine lv_iload_n hx hb dX6_freeze_1 rfl (lv_at hl 1 rfl) ?_
  refine callB (As := [.int h]) (rest := []) ⟨hx, hb, hml, hown, hts⟩ (c_X6_isHead Y hok h) (cwV 1 hts gX6_freeze_X6_isHead rfl rfl rfl (by decide +kernel) ⟨Nat.le_of_ble_eq_true rfl, Nat.le_of_ble_eq_true rfl⟩) hK hN hP 0 rfl rfl rfl hl.1 rfl (Nat.le_of_ble_eq_true rfl) dX6_freeze_2 ⟨Nat.zero_le _, Nat.zero_le _⟩ (fun c_2 => ?_) (fun c_2 => ?_)
  · have hh := hin_has c_2
    refine lv_if_eq (tgt := 17) hx hb dX6_freeze_5 (by decide) (fun h9 => absurd h9 (by decide)) (fun _ => ?_)
    refine lv_iload_n hx hb dX6_freeze_8 rfl (lv_at hl 2 rfl) ?_
    refine lv_iconst (v := 0) hx hb dX6_freeze_9 (by decide) ?_
    refine lv_iconst (v := 1) hx hb dX6_freeze_10 (by decide) ?_
    refine callSB (As := [.int x, .int 0, .int 1]) (rest := []) ⟨hx, hb, hml, hown, hts⟩ (c_X6_in x 0 1) (va_cwS 3 hts gX6_freeze_X6_in rfl rfl rfl (by decide +kernel) ⟨Nat.le_of_ble_eq_true rfl, Nat.le_of_ble_eq_true rfl⟩) hK hN rfl hl.1 rfl (Nat.le_of_ble_eq_true rfl) dX6_freeze_11 ⟨Nat.zero_le _, Nat.zero_le _⟩ (fun c_11 => ?_) (fun c_11 => ?_)
    · refine lv_if_ne (tgt := 19) hx hb dX6_freeze_14 (by decide) (fun _ => ?_) (fun h9 => absurd h9 (by decide))
      refine lv_aload_n hx hb dX6_freeze_19 rfl (lv_at hl 0 rfl) ?_
      refine xget (C := RX6) (T := TX6) (N := 10) (ci := 6) (w := .ref (am 1)) hx hb hts hi_X6 hown hK hP 0 rfl rfl 0 (by decide) lk_7 rfl dX6_freeze_20 ?_
      refine lv_iload_n hx hb dX6_freeze_23 rfl (lv_at hl 1 rfl) ?_
      refine lv_iconst (v := 2) hx hb dX6_freeze_24 (by decide) ?_
      refine callSE (As := [.int h, .int 2]) (rest := [.ref (am 1)]) ⟨hx, hb, hml, hown, hts⟩ (c_X6_of h 2) (va_cwS 2 hts gX6_freeze_X6_of rfl rfl rfl (by decide +kernel) ⟨Nat.le_of_ble_eq_true rfl, Nat.le_of_ble_eq_true rfl⟩) hK hN rfl hl.1 rfl (Nat.le_of_ble_eq_true rfl) dX6_freeze_25 ⟨Nat.zero_le _, Nat.zero_le _⟩ ?_
      refine xald (x := qv (Y 0) 2 h) hx hb hK hP 1 rfl (oH_in (n := 2) (by assumption) (by decide)) (row_oH (n := 2) (by assumption) (by decide)) dX6_freeze_28 ?_
      refine lv_iload_n hx hb dX6_freeze_29 rfl (lv_at hl 2 rfl) ?_
      refine lv_icmp_ne (tgt := 36) hx hb dX6_freeze_30 (by decide) (fun c_30 => ?_) (fun c_30 => ?_)
      · refine lv_aload_n hx hb dX6_freeze_36 rfl (lv_at hl 0 rfl) ?_
        refine lv_iconst (v := 2) hx hb dX6_freeze_37 (by decide) ?_
        refine lv_iload_n hx hb dX6_freeze_38 rfl (lv_at hl 1 rfl) ?_
        refine lv_iconst (v := 0) hx hb dX6_freeze_39 (by decide) ?_
        refine lv_iload_n hx hb dX6_freeze_40 rfl (lv_at hl 2 rfl) ?_
        refine callWV (As := [.int 2, .int h, .int 0, .int x]) (rest := []) ⟨hx, hb, hml, hown, hts⟩ (c_X6_remember hdj Y 2 h 0 x n hn hd) (cwV 4 hts gX6_freeze_X6_remember rfl rfl rfl (by decide +kernel) ⟨Nat.le_of_ble_eq_true rfl, Nat.le_of_ble_eq_true rfl⟩) hK hN hP 0 rfl rfl rfl hl.1 rfl (Nat.le_of_ble_eq_true rfl) dX6_freeze_41 ⟨Nat.zero_le _, Nat.zero_le _⟩ hS (fun _ h9 => h9) (fun H locs hP hS => ?_)
        obtain ⟨X_1, eX_1⟩ : ∃ Z : St, Z = N_remM Y n 2 h 0 x := ⟨_, rfl⟩
        rw [← eX_1] at hP
        refine lv_aload_n hx hb dX6_freeze_44 rfl (lv_at hl 0 rfl) ?_
        refine xget (C := RX6) (T := TX6) (N := 10) (ci := 6) (w := .ref (am 1)) hx hb hts hi_X6 hown hK hP 0 rfl rfl 0 (by decide) lk_7 rfl dX6_freeze_45 ?_
        refine lv_iload_n hx hb dX6_freeze_48 rfl (lv_at hl 1 rfl) ?_
        refine lv_iconst (v := 2) hx hb dX6_freeze_49 (by decide) ?_
        refine callSE (As := [.int h, .int 2]) (rest := [.ref (am 1)]) ⟨hx, hb, hml, hown, hts⟩ (c_X6_of h 2) (va_cwS 2 hts gX6_freeze_X6_of rfl rfl rfl (by decide +kernel) ⟨Nat.le_of_ble_eq_true rfl, Nat.le_of_ble_eq_true rfl⟩) hK hN rfl hl.1 rfl (Nat.le_of_ble_eq_true rfl) dX6_freeze_50 ⟨Nat.zero_le _, Nat.zero_le _⟩ ?_
        refine lv_iload_n hx hb dX6_freeze_53 rfl (lv_at hl 2 rfl) ?_
        refine xast hx hb hK hP (wM_D hdj) hS 1 rfl (oH_in (n := 2) (by assumption) (by decide)) (wM_oH (n := 2) (by assumption) (by decide)) dX6_freeze_54 (fun H locs hP hS => ?_)
        obtain ⟨X_2, eX_2⟩ : ∃ Z : St, Z = u3 X_1 0 2 h.toNatClampNeg x := ⟨_, rfl⟩
        rw [← eX_2] at hP
        have e9 : X_2 0 = b2 (Y 0) 2 h.toNatClampNeg x := by rw [eX_2, u3_sg, sg_g, eX_1, N_remM_0]
        have hok2 : Ok K (X_2 0) := by rw [e9]; exact ok_freeze hok c_11
        refine lv_aload_n hx hb dX6_freeze_55 rfl (lv_at hl 0 rfl) ?_
        refine callE (As := []) (rest := []) ⟨hx, hb, hml, hown, hts⟩ (c_X6_barred X_2 hok2) (cwV 0 hts gX6_freeze_X6_barred rfl rfl rfl (by decide +kernel) ⟨Nat.le_of_ble_eq_true rfl, Nat.le_of_ble_eq_true rfl⟩) hK hN hP 0 rfl rfl rfl hl.1 rfl (Nat.le_of_ble_eq_true rfl) dX6_freeze_56 ⟨Nat.zero_le _, Nat.zero_le _⟩ ?_
        have hg : g_freeze (Y 0) h x = 0 := by rw [gm_freeze]; repeat (first | rw [ci_t c_2] | rw [ci_f c_2] | rw [ci_t c_11] | rw [ci_f c_11] | rw [ci_t c_30] | rw [ci_f c_30])
        have hZ : X_2 = sg (N_remM Y n 2 h 0 x) 0 (n_freeze (Y 0) h x) := by
          subst eX_2 eX_1
          try simp only [u3_sg, sg_sg, sg_g, N_remM_0]
          try unfold n_freeze
          try dsimp only
          all_goals repeat (first | rw [ci_t c_2] | rw [ci_f c_2] | rw [ci_t c_11] | rw [ci_f c_11] | rw [ci_t c_30] | rw [ci_f c_30])
          all_goals (first | rfl | (rw [sg_self]) | (simp only [u3_sg, sg_sg, sg_g, N_remM_0]; done) | (simp only [u3_sg, sg_sg, sg_g, N_remM_0]; rfl))
        have hV : p_cntb (X_2 0) 20 = p_cntb (n_freeze (Y 0) h x) 20 := by
          subst eX_2 eX_1
          try simp only [u3_sg, sg_sg, sg_g, N_remM_0]
          try unfold n_freeze
          try dsimp only
          all_goals repeat (first | rw [ci_t c_2] | rw [ci_f c_2] | rw [ci_t c_11] | rw [ci_f c_11] | rw [ci_t c_30] | rw [ci_f c_30])
          all_goals (first | rfl | (rw [sg_self]) | (simp only [u3_sg, sg_sg, sg_g, N_remM_0]; done) | (simp only [u3_sg, sg_sg, sg_g, N_remM_0]; rfl))
        exact retWE hx hb hr hlocks (by rw [opY_0 hg, ← hZ]; exact hP) hS dX6_freeze_59 (by rw [opV_0 hg]; first | done | exact hV)
      · refine lv_bipush (v := (-2)) hx hb dX6_freeze_33 (by decide) ?_
        have hg : g_freeze (Y 0) h x = (-2) := by rw [gm_freeze]; repeat (first | rw [ci_t c_2] | rw [ci_f c_2] | rw [ci_t c_11] | rw [ci_f c_11] | rw [ci_t c_30] | rw [ci_f c_30])
        exact retWE hx hb hr hlocks (by rw [opY_e hg (by decide)]; exact hP) hS dX6_freeze_35 (opV_e hg (by decide))
    · refine lv_if_ne (tgt := 19) hx hb dX6_freeze_14 (by decide) (fun h9 => absurd (by decide) h9) (fun _ => ?_)
      refine lv_iconst (v := (-1)) hx hb dX6_freeze_17 (by decide) ?_
      have hg : g_freeze (Y 0) h x = (-1) := by rw [gm_freeze]; repeat (first | rw [ci_t c_2] | rw [ci_f c_2] | rw [ci_t c_11] | rw [ci_f c_11])
      exact retWE hx hb hr hlocks (by rw [opY_e hg (by decide)]; exact hP) hS dX6_freeze_18 (opV_e hg (by decide))
  · refine lv_if_eq (tgt := 17) hx hb dX6_freeze_5 (by decide) (fun _ => ?_) (fun h9 => absurd (by decide) h9)
    refine lv_iconst (v := (-1)) hx hb dX6_freeze_17 (by decide) ?_
    have hg : g_freeze (Y 0) h x = (-1) := by rw [gm_freeze]; repeat (first | rw [ci_t c_2] | rw [ci_f c_2])
    exact retWE hx hb hr hlocks (by rw [opY_e hg (by decide)]; exact hP) hS dX6_freeze_18 (opV_e hg (by decide))
set_option maxHeartbeats 4000000 in
set_option maxRecDepth 100000 in
theorem c_X6_setShare {l : Launch} {D : va_G} {cI cR : ClassId} {am : Nat → Nat} (hdj : Dj 9 am) (Y : St) (n : Nat) (hn : n ≤ 12) (hd : Y 14 0 0 = nI n) {K : Int} (hok : Ok K (Y 0)) (h : Int32) (x : Int32) : WoE l D cI cR (Aw 9 am) (wM cI am Y) (wM cI am (opY Y n (g_setShare (Y 0) h x) 3 h 0 x (n_setShare (Y 0) h x))) yX6_setShare wsX6_setShare ({ frames := 3, cells := 0, slots := 0, locals := 68 } : Room) [.ref (am 0), .int h, .int x] (opV (g_setShare (Y 0) h x) (qv (Y 0) 8 h)) := by
  refine OfW (cc := cX6_setShare) (maxL := 4) (ret := (some .int)) (by decide +kernel) rfl (Nat.le_of_ble_eq_true rfl) (fun p e s m below meth c hx hb hr hts hown hlocks hml hnm hP hK hN ls hl => ?_)
  have hl : lv_has ls 4 [(0, .ref (am 0)), (1, .int h), (2, .int x)] := hl
  have lk_7 := hts (.fieldLink RX6 7 "HeadBudgetsModel" "row" "[I") (by decide +kernel)
  have hi_X6 : ∀ w ∈ wsX60, w ∈ wsX6_setShare := by decide +kernel
  have hS : va_S (Aw 9 am) s.heap s.heap [] := va_S.rf
  have hP : va_P D vwCl (wM cI am Y) s.heap := hP
  refine lv_aload_n hx hb dX6_setShare_0 rfl (lv_at hl 0 rfl) ?_
  refine lv_iload_n hx hb dX6_setShare_1 rfl (lv_at hl 1 rfl) ?_
  refine callB (As := [.int h]) (rest := []) ⟨hx, hb, hml, hown, hts⟩ (c_X6_isHead Y hok h) (cwV 1 hts gX6_setShare_X6_isHead rfl rfl rfl (by decide +kernel) ⟨Nat.le_of_ble_eq_true rfl, Nat.le_of_ble_eq_true rfl⟩) hK hN hP 0 rfl rfl rfl hl.1 rfl (Nat.le_of_ble_eq_true rfl) dX6_setShare_2 ⟨Nat.zero_le _, Nat.zero_le _⟩ (fun c_2 => ?_) (fun c_2 => ?_)
  · have hh := hin_has c_2
    refine lv_if_eq (tgt := 18) hx hb dX6_setShare_5 (by decide) (fun h9 => absurd h9 (by decide)) (fun _ => ?_)
    refine lv_iload_n hx hb dX6_setShare_8 rfl (lv_at hl 2 rfl) ?_
    refine lv_iconst (v := 0) hx hb dX6_setShare_9 (by decide) ?_
    refine lv_bipush (v := 100) hx hb dX6_setShare_10 (by decide) ?_
    refine callSB (As := [.int x, .int 0, .int 100]) (rest := []) ⟨hx, hb, hml, hown, hts⟩ (c_X6_in x 0 100) (va_cwS 3 hts gX6_setShare_X6_in rfl rfl rfl (by decide +kernel) ⟨Nat.le_of_ble_eq_true rfl, Nat.le_of_ble_eq_true rfl⟩) hK hN rfl hl.1 rfl (Nat.le_of_ble_eq_true rfl) dX6_setShare_12 ⟨Nat.zero_le _, Nat.zero_le _⟩ (fun c_12 => ?_) (fun c_12 => ?_)
    · refine lv_if_ne (tgt := 20) hx hb dX6_setShare_15 (by decide) (fun _ => ?_) (fun h9 => absurd h9 (by decide))
      refine lv_aload_n hx hb dX6_setShare_20 rfl (lv_at hl 0 rfl) ?_
      refine lv_iconst (v := 3) hx hb dX6_setShare_21 (by decide) ?_
      refine lv_iload_n hx hb dX6_setShare_22 rfl (lv_at hl 1 rfl) ?_
      refine lv_iconst (v := 0) hx hb dX6_setShare_23 (by decide) ?_
      refine lv_iload_n hx hb dX6_setShare_24 rfl (lv_at hl 2 rfl) ?_
      refine callWV (As := [.int 3, .int h, .int 0, .int x]) (rest := []) ⟨hx, hb, hml, hown, hts⟩ (c_X6_remember hdj Y 3 h 0 x n hn hd) (cwV 4 hts gX6_setShare_X6_remember rfl rfl rfl (by decide +kernel) ⟨Nat.le_of_ble_eq_true rfl, Nat.le_of_ble_eq_true rfl⟩) hK hN hP 0 rfl rfl rfl hl.1 rfl (Nat.le_of_ble_eq_true rfl) dX6_setShare_25 ⟨Nat.zero_le _, Nat.zero_le _⟩ hS (fun _ h9 => h9) (fun H locs hP hS => ?_)
      obtain ⟨X_1, eX_1⟩ : ∃ Z : St, Z = N_remM Y n 3 h 0 x := ⟨_, rfl⟩
      rw [← eX_1] at hP
      refine lv_aload_n hx hb dX6_setShare_28 rfl (lv_at hl 0 rfl) ?_
      refine xget (C := RX6) (T := TX6) (N := 10) (ci := 6) (w := .ref (am 1)) hx hb hts hi_X6 hown hK hP 0 rfl rfl 0 (by decide) lk_7 rfl dX6_setShare_29 ?_
      refine lv_iload_n hx hb dX6_setShare_32 rfl (lv_at hl 1 rfl) ?_
      refine lv_bipush (v := 8) hx hb dX6_setShare_33 (by decide) ?_
      refine callSE (As := [.int h, .int 8]) (rest := [.ref (am 1)]) ⟨hx, hb, hml, hown, hts⟩ (c_X6_of h 8) (va_cwS 2 hts gX6_setShare_X6_of rfl rfl rfl (by decide +kernel) ⟨Nat.le_of_ble_eq_true rfl, Nat.le_of_ble_eq_true rfl⟩) hK hN rfl hl.1 rfl (Nat.le_of_ble_eq_true rfl) dX6_setShare_35 ⟨Nat.zero_le _, Nat.zero_le _⟩ ?_
      refine xald (x := qv (X_1 0) 8 h) hx hb hK hP 1 rfl (oH_in (n := 8) (by assumption) (by decide)) (row_oH (n := 8) (by assumption) (by decide)) dX6_setShare_38 ?_
      refine lv_istore_n (lv' := [(3, .int (qv (X_1 0) 8 h)), (0, .ref (am 0)), (1, .int h), (2, .int x)]) hx hb dX6_setShare_39 rfl hl (by decide) rfl (fun ls hl => ?_)
      refine lv_aload_n hx hb dX6_setShare_40 rfl (lv_at hl 1 rfl) ?_
      refine xget (C := RX6) (T := TX6) (N := 10) (ci := 6) (w := .ref (am 1)) hx hb hts hi_X6 hown hK hP 0 rfl rfl 0 (by decide) lk_7 rfl dX6_setShare_41 ?_
      refine lv_iload_n hx hb dX6_setShare_44 rfl (lv_at hl 2 rfl) ?_
      refine lv_bipush (v := 8) hx hb dX6_setShare_45 (by decide) ?_
      refine callSE (As := [.int h, .int 8]) (rest := [.ref (am 1)]) ⟨hx, hb, hml, hown, hts⟩ (c_X6_of h 8) (va_cwS 2 hts gX6_setShare_X6_of rfl rfl rfl (by decide +kernel) ⟨Nat.le_of_ble_eq_true rfl, Nat.le_of_ble_eq_true rfl⟩) hK hN rfl hl.1 rfl (Nat.le_of_ble_eq_true rfl) dX6_setShare_47 ⟨Nat.zero_le _, Nat.zero_le _⟩ ?_
      refine lv_iload_n hx hb dX6_setShare_50 rfl (lv_at hl 3 rfl) ?_
      refine xast hx hb hK hP (wM_D hdj) hS 1 rfl (oH_in (n := 8) (by assumption) (by decide)) (wM_oH (n := 8) (by assumption) (by decide)) dX6_setShare_51 (fun H locs hP hS => ?_)
      obtain ⟨X_2, eX_2⟩ : ∃ Z : St, Z = u3 X_1 0 8 h.toNatClampNeg x := ⟨_, rfl⟩
      rw [← eX_2] at hP
      refine lv_iload_n hx hb dX6_setShare_52 rfl (lv_at hl 0 rfl) ?_
      have hg : g_setShare (Y 0) h x = 0 := by rw [gm_setShare]; repeat (first | rw [ci_t c_2] | rw [ci_f c_2] | rw [ci_t c_12] | rw [ci_f c_12])
      have hZ : X_2 = sg (N_remM Y n 3 h 0 x) 0 (n_setShare (Y 0) h x) := by
        subst eX_2 eX_1
        try simp only [u3_sg, sg_sg, sg_g, N_remM_0]
        try unfold n_setShare
        try dsimp only
        all_goals repeat (first | rw [ci_t c_2] | rw [ci_f c_2] | rw [ci_t c_12] | rw [ci_f c_12])
        all_goals (first | rfl | (rw [sg_self]) | (simp only [u3_sg, sg_sg, sg_g, N_remM_0]; done) | (simp only [u3_sg, sg_sg, sg_g, N_remM_0]; rfl))
      have hV : qv (X_1 0) 8 h = qv (Y 0) 8 h := by
        subst eX_2 eX_1
        try simp only [u3_sg, sg_sg, sg_g, N_remM_0]
        try dsimp only
        all_goals repeat (first | rw [ci_t c_2] | rw [ci_f c_2] | rw [ci_t c_12] | rw [ci_f c_12])
        all_goals (first | rfl | (rw [sg_self]) | (simp only [u3_sg, sg_sg, sg_g, N_remM_0]; done) | (simp only [u3_sg, sg_sg, sg_g, N_remM_0]; rfl))
      exact retWE hx hb hr hlocks (by rw [opY_0 hg, ← hZ]; exact hP) hS dX6_setShare_53 (by rw [opV_0 hg]; first | done | exact hV)
    · refine lv_if_ne (tgt := 20) hx hb dX6_setShare_15 (by decide) (fun h9 => absurd (by decide) h9) (fun _ => ?_)
      refine lv_iconst (v := (-1)) hx hb dX6_setShare_18 (by decide) ?_
      have hg : g_setShare (Y 0) h x = (-1) := by rw [gm_setShare]; repeat (first | rw [ci_t c_2] | rw [ci_f c_2] | rw [ci_t c_12] | rw [ci_f c_12])
      exact retWE hx hb hr hlocks (by rw [opY_e hg (by decide)]; exact hP) hS dX6_setShare_19 (opV_e hg (by decide))
  · refine lv_if_eq (tgt := 18) hx hb dX6_setShare_5 (by decide) (fun _ => ?_) (fun h9 => absurd (by decide) h9)
    refine lv_iconst (v := (-1)) hx hb dX6_setShare_18 (by decide) ?_
    have hg : g_setShare (Y 0) h x = (-1) := by rw [gm_setShare]; repeat (first | rw [ci_t c_2] | rw [ci_f c_2])
    exact retWE hx hb hr hlocks (by rw [opY_e hg (by decide)]; exact hP) hS dX6_setShare_19 (opV_e hg (by decide))
set_option maxHeartbeats 4000000 in
set_option maxRecDepth 100000 in
theorem c_X6_setCarried {l : Launch} {D : va_G} {cI cR : ClassId} {am : Nat → Nat} (hdj : Dj 9 am) (Y : St) (n : Nat) (hn : n ≤ 12) (hd : Y 14 0 0 = nI n) {K : Int} (hok : Ok K (Y 0)) (q : Int32) : WoE l D cI cR (Aw 9 am) (wM cI am Y) (wM cI am (opY Y n (g_setCarried q) 4 0 0 q (n_setCarried (Y 0) q))) yX6_setCarried wsX6_setCarried ({ frames := 3, cells := 0, slots := 0, locals := 68 } : Room) [.ref (am 0), .int q] (opV (g_setCarried q) (Y 0 14 3)) := by
  refine OfW (cc := cX6_setCarried) (maxL := 3) (ret := (some .int)) (by decide +kernel) rfl (Nat.le_of_ble_eq_true rfl) (fun p e s m below meth c hx hb hr hts hown hlocks hml hnm hP hK hN ls hl => ?_)
  have hl : lv_has ls 3 [(0, .ref (am 0)), (1, .int q)] := hl
  have lk_7 := hts (.fieldLink RX6 7 "HeadBudgetsModel" "row" "[I") (by decide +kernel)
  have hi_X6 : ∀ w ∈ wsX60, w ∈ wsX6_setCarried := by decide +kernel
  have hS : va_S (Aw 9 am) s.heap s.heap [] := va_S.rf
  have hP : va_P D vwCl (wM cI am Y) s.heap := hP
  refine lv_iload_n hx hb dX6_setCarried_0 rfl (lv_at hl 1 rfl) ?_
  refine lv_iconst (v := 0) hx hb dX6_setCarried_1 (by decide) ?_
  refine lv_bipush (v := 100) hx hb dX6_setCarried_2 (by decide) ?_
  refine callSB (As := [.int q, .int 0, .int 100]) (rest := []) ⟨hx, hb, hml, hown, hts⟩ (c_X6_in q 0 100) (va_cwS 3 hts gX6_setCarried_X6_in rfl rfl rfl (by decide +kernel) ⟨Nat.le_of_ble_eq_true rfl, Nat.le_of_ble_eq_true rfl⟩) hK hN rfl hl.1 rfl (Nat.le_of_ble_eq_true rfl) dX6_setCarried_4 ⟨Nat.zero_le _, Nat.zero_le _⟩ (fun c_4 => ?_) (fun c_4 => ?_)
  · refine lv_if_ne (tgt := 12) hx hb dX6_setCarried_7 (by decide) (fun _ => ?_) (fun h9 => absurd h9 (by decide))
    refine lv_aload_n hx hb dX6_setCarried_12 rfl (lv_at hl 0 rfl) ?_
    refine lv_iconst (v := 4) hx hb dX6_setCarried_13 (by decide) ?_
    refine lv_iconst (v := 0) hx hb dX6_setCarried_14 (by decide) ?_
    refine lv_iconst (v := 0) hx hb dX6_setCarried_15 (by decide) ?_
    refine lv_iload_n hx hb dX6_setCarried_16 rfl (lv_at hl 1 rfl) ?_
    refine callWV (As := [.int 4, .int 0, .int 0, .int q]) (rest := []) ⟨hx, hb, hml, hown, hts⟩ (c_X6_remember hdj Y 4 0 0 q n hn hd) (cwV 4 hts gX6_setCarried_X6_remember rfl rfl rfl (by decide +kernel) ⟨Nat.le_of_ble_eq_true rfl, Nat.le_of_ble_eq_true rfl⟩) hK hN hP 0 rfl rfl rfl hl.1 rfl (Nat.le_of_ble_eq_true rfl) dX6_setCarried_17 ⟨Nat.zero_le _, Nat.zero_le _⟩ hS (fun _ h9 => h9) (fun H locs hP hS => ?_)
    obtain ⟨X_1, eX_1⟩ : ∃ Z : St, Z = N_remM Y n 4 0 0 q := ⟨_, rfl⟩
    rw [← eX_1] at hP
    refine lv_aload_n hx hb dX6_setCarried_20 rfl (lv_at hl 0 rfl) ?_
    refine xget (C := RX6) (T := TX6) (N := 10) (ci := 6) (w := .ref (am 1)) hx hb hts hi_X6 hown hK hP 0 rfl rfl 0 (by decide) lk_7 rfl dX6_setCarried_21 ?_
    refine lv_iconst (v := 3) hx hb dX6_setCarried_24 (by decide) ?_
    refine xald (x := X_1 0 14 3) hx hb hK hP 1 rfl (vp_in_lit (by decide)) (row_n _ (o := 3) (by decide)) dX6_setCarried_25 ?_
    refine lv_istore_n (lv' := [(2, .int (X_1 0 14 3)), (0, .ref (am 0)), (1, .int q)]) hx hb dX6_setCarried_26 rfl hl (by decide) rfl (fun ls hl => ?_)
    refine lv_aload_n hx hb dX6_setCarried_27 rfl (lv_at hl 1 rfl) ?_
    refine xget (C := RX6) (T := TX6) (N := 10) (ci := 6) (w := .ref (am 1)) hx hb hts hi_X6 hown hK hP 0 rfl rfl 0 (by decide) lk_7 rfl dX6_setCarried_28 ?_
    refine lv_iconst (v := 3) hx hb dX6_setCarried_31 (by decide) ?_
    refine lv_iload_n hx hb dX6_setCarried_32 rfl (lv_at hl 2 rfl) ?_
    refine xast hx hb hK hP (wM_D hdj) hS 1 rfl (vp_in_lit (by decide)) (wM_sn (o := 3) (by decide)) dX6_setCarried_33 (fun H locs hP hS => ?_)
    obtain ⟨X_2, eX_2⟩ : ∃ Z : St, Z = u3 X_1 0 14 3 q := ⟨_, rfl⟩
    rw [← eX_2] at hP
    refine lv_iload_n hx hb dX6_setCarried_34 rfl (lv_at hl 0 rfl) ?_
    have hg : g_setCarried q = 0 := by rw [gm_setCarried]; repeat (first | rw [ci_t c_4] | rw [ci_f c_4])
    have hZ : X_2 = sg (N_remM Y n 4 0 0 q) 0 (n_setCarried (Y 0) q) := by
      subst eX_2 eX_1
      try simp only [u3_sg, sg_sg, sg_g, N_remM_0]
      try unfold n_setCarried
      try dsimp only
      all_goals repeat (first | rw [ci_t c_4] | rw [ci_f c_4])
      all_goals (first | rfl | (rw [sg_self]) | (simp only [u3_sg, sg_sg, sg_g, N_remM_0]; done) | (simp only [u3_sg, sg_sg, sg_g, N_remM_0]; rfl))
    have hV : X_1 0 14 3 = Y 0 14 3 := by
      subst eX_2 eX_1
      try simp only [u3_sg, sg_sg, sg_g, N_remM_0]
      try dsimp only
      all_goals repeat (first | rw [ci_t c_4] | rw [ci_f c_4])
      all_goals (first | rfl | (rw [sg_self]) | (simp only [u3_sg, sg_sg, sg_g, N_remM_0]; done) | (simp only [u3_sg, sg_sg, sg_g, N_remM_0]; rfl))
    exact retWE hx hb hr hlocks (by rw [opY_0 hg, ← hZ]; exact hP) hS dX6_setCarried_35 (by rw [opV_0 hg]; first | done | exact hV)
  · refine lv_if_ne (tgt := 12) hx hb dX6_setCarried_7 (by decide) (fun h9 => absurd (by decide) h9) (fun _ => ?_)
    refine lv_iconst (v := (-1)) hx hb dX6_setCarried_10 (by decide) ?_
    have hg : g_setCarried q = (-1) := by rw [gm_setCarried]; repeat (first | rw [ci_t c_4] | rw [ci_f c_4])
    exact retWE hx hb hr hlocks (by rw [opY_e hg (by decide)]; exact hP) hS dX6_setCarried_11 (opV_e hg (by decide))
set_option maxHeartbeats 4000000 in
set_option maxRecDepth 100000 in
theorem c_X6_commit {l : Launch} {D : va_G} {cI cR : ClassId} {am : Nat → Nat} (hdj : Dj 9 am) (Y : St) (n : Nat) (hn : n ≤ 12) (hd : Y 14 0 0 = nI n) {K : Int} (hok : Ok K (Y 0)) (h : Int32) (a : Int32) : WoE l D cI cR (Aw 9 am) (wM cI am Y) (wM cI am (opY Y n (g_commit (Y 0) h a) 5 (Y 0 14 2) 0 a (m_commit (Y 0) h a))) yX6_commit wsX6_commit ({ frames := 3, cells := 0, slots := 0, locals := 68 } : Room) [.ref (am 0), .int h, .int a] (opV (g_commit (Y 0) h a) (Y 0 14 2)) := by
  refine OfW (cc := cX6_commit) (maxL := 4) (ret := (some .int)) (by decide +kernel) rfl (Nat.le_of_ble_eq_true rfl) (fun p e s m below meth c hx hb hr hts hown hlocks hml hnm hP hK hN ls hl => ?_)
  have hl : lv_has ls 4 [(0, .ref (am 0)), (1, .int h), (2, .int a)] := hl
  have lk_7 := hts (.fieldLink RX6 7 "HeadBudgetsModel" "row" "[I") (by decide +kernel)
  have hi_X6 : ∀ w ∈ wsX60, w ∈ wsX6_commit := by decide +kernel
  have hS : va_S (Aw 9 am) s.heap s.heap [] := va_S.rf
  have hP : va_P D vwCl (wM cI am Y) s.heap := hP
  refine lv_aload_n hx hb dX6_commit_0 rfl (lv_at hl 0 rfl) ?_
  refine lv_iload_n hx hb dX6_commit_1 rfl (lv_at hl 1 rfl) ?_
  refine callB (As := [.int h]) (rest := []) ⟨hx, hb, hml, hown, hts⟩ (c_X6_isHead Y hok h) (cwV 1 hts gX6_commit_X6_isHead rfl rfl rfl (by decide +kernel) ⟨Nat.le_of_ble_eq_true rfl, Nat.le_of_ble_eq_true rfl⟩) hK hN hP 0 rfl rfl rfl hl.1 rfl (Nat.le_of_ble_eq_true rfl) dX6_commit_2 ⟨Nat.zero_le _, Nat.zero_le _⟩ (fun c_2 => ?_) (fun c_2 => ?_)
  · have hh := hin_has c_2
    refine lv_if_eq (tgt := 15) hx hb dX6_commit_5 (by decide) (fun h9 => absurd h9 (by decide)) (fun _ => ?_)
    refine lv_iload_n hx hb dX6_commit_8 rfl (lv_at hl 2 rfl) ?_
    refine callSB (As := [.int a]) (rest := []) ⟨hx, hb, hml, hown, hts⟩ (c_X6_isAmount a) (va_cwS 1 hts gX6_commit_X6_isAmount rfl rfl rfl (by decide +kernel) ⟨Nat.le_of_ble_eq_true rfl, Nat.le_of_ble_eq_true rfl⟩) hK hN rfl hl.1 rfl (Nat.le_of_ble_eq_true rfl) dX6_commit_9 ⟨Nat.zero_le _, Nat.zero_le _⟩ (fun c_9 => ?_) (fun c_9 => ?_)
    · refine lv_if_ne (tgt := 17) hx hb dX6_commit_12 (by decide) (fun _ => ?_) (fun h9 => absurd h9 (by decide))
      refine lv_aload_n hx hb dX6_commit_17 rfl (lv_at hl 0 rfl) ?_
      refine lv_iload_n hx hb dX6_commit_18 rfl (lv_at hl 1 rfl) ?_
      refine callB (As := [.int h]) (rest := []) ⟨hx, hb, hml, hown, hts⟩ (c_X6_isBarred Y hok h (by assumption)) (cwV 1 hts gX6_commit_X6_isBarred rfl rfl rfl (by decide +kernel) ⟨Nat.le_of_ble_eq_true rfl, Nat.le_of_ble_eq_true rfl⟩) hK hN hP 0 rfl rfl rfl hl.1 rfl (Nat.le_of_ble_eq_true rfl) dX6_commit_19 ⟨Nat.zero_le _, Nat.zero_le _⟩ (fun c_19 => ?_) (fun c_19 => ?_)
      · refine lv_if_ne (tgt := 34) hx hb dX6_commit_22 (by decide) (fun _ => ?_) (fun h9 => absurd h9 (by decide))
        refine lv_bipush (v := (-2)) hx hb dX6_commit_34 (by decide) ?_
        have hg : g_commit (Y 0) h a = (-2) := by rw [gm_commit hok]; repeat (first | rw [ci_t c_2] | rw [ci_f c_2] | rw [ci_t c_9] | rw [ci_f c_9] | rw [ci_t c_19] | rw [ci_f c_19])
        exact retWE hx hb hr hlocks (by rw [opY_e hg (by decide)]; exact hP) hS dX6_commit_36 (opV_e hg (by decide))
      · refine lv_if_ne (tgt := 34) hx hb dX6_commit_22 (by decide) (fun h9 => absurd (by decide) h9) (fun _ => ?_)
        refine lv_iload_n hx hb dX6_commit_25 rfl (lv_at hl 2 rfl) ?_
        refine lv_aload_n hx hb dX6_commit_26 rfl (lv_at hl 0 rfl) ?_
        refine lv_iload_n hx hb dX6_commit_27 rfl (lv_at hl 1 rfl) ?_
        refine callE (As := [.int h]) (rest := [.int a]) ⟨hx, hb, hml, hown, hts⟩ (c_X6_free Y h (by assumption)) (cwV 1 hts gX6_commit_X6_free rfl rfl rfl (by decide +kernel) ⟨Nat.le_of_ble_eq_true rfl, Nat.le_of_ble_eq_true rfl⟩) hK hN hP 0 rfl rfl rfl hl.1 rfl (Nat.le_of_ble_eq_true rfl) dX6_commit_28 ⟨Nat.zero_le _, Nat.zero_le _⟩ ?_
        refine lv_icmp_le (tgt := 37) hx hb dX6_commit_31 (by decide) (fun c_31 => ?_) (fun c_31 => ?_)
        · refine lv_aload_n hx hb dX6_commit_37 rfl (lv_at hl 0 rfl) ?_
          refine xget (C := RX6) (T := TX6) (N := 10) (ci := 6) (w := .ref (am 1)) hx hb hts hi_X6 hown hK hP 0 rfl rfl 0 (by decide) lk_7 rfl dX6_commit_38 ?_
          refine lv_iconst (v := 2) hx hb dX6_commit_41 (by decide) ?_
          refine xald (x := Y 0 14 2) hx hb hK hP 1 rfl (vp_in_lit (by decide)) (row_n _ (o := 2) (by decide)) dX6_commit_42 ?_
          refine lv_bipush (v := 40) hx hb dX6_commit_43 (by decide) ?_
          refine lv_icmp_ne (tgt := 51) hx hb dX6_commit_45 (by decide) (fun c_45 => ?_) (fun c_45 => ?_)
          · have hq := cin_new hok c_45
            refine lv_aload_n hx hb dX6_commit_51 rfl (lv_at hl 0 rfl) ?_
            refine xget (C := RX6) (T := TX6) (N := 10) (ci := 6) (w := .ref (am 1)) hx hb hts hi_X6 hown hK hP 0 rfl rfl 0 (by decide) lk_7 rfl dX6_commit_52 ?_
            refine lv_iconst (v := 2) hx hb dX6_commit_55 (by decide) ?_
            refine xald (x := Y 0 14 2) hx hb hK hP 1 rfl (vp_in_lit (by decide)) (row_n _ (o := 2) (by decide)) dX6_commit_56 ?_
            refine lv_istore_n (lv' := [(3, .int (Y 0 14 2)), (0, .ref (am 0)), (1, .int h), (2, .int a)]) hx hb dX6_commit_57 rfl hl (by decide) rfl (fun ls hl => ?_)
            refine lv_aload_n hx hb dX6_commit_58 rfl (lv_at hl 1 rfl) ?_
            refine lv_iconst (v := 5) hx hb dX6_commit_59 (by decide) ?_
            refine lv_iload_n hx hb dX6_commit_60 rfl (lv_at hl 0 rfl) ?_
            refine lv_iconst (v := 0) hx hb dX6_commit_61 (by decide) ?_
            refine lv_iload_n hx hb dX6_commit_62 rfl (lv_at hl 3 rfl) ?_
            refine callWV (As := [.int 5, .int (Y 0 14 2), .int 0, .int a]) (rest := []) ⟨hx, hb, hml, hown, hts⟩ (c_X6_remember hdj Y 5 (Y 0 14 2) 0 a n hn hd) (cwV 4 hts gX6_commit_X6_remember rfl rfl rfl (by decide +kernel) ⟨Nat.le_of_ble_eq_true rfl, Nat.le_of_ble_eq_true rfl⟩) hK hN hP 0 rfl rfl rfl hl.1 rfl (Nat.le_of_ble_eq_true rfl) dX6_commit_63 ⟨Nat.zero_le _, Nat.zero_le _⟩ hS (fun _ h9 => h9) (fun H locs hP hS => ?_)
            obtain ⟨X_1, eX_1⟩ : ∃ Z : St, Z = N_remM Y n 5 (Y 0 14 2) 0 a := ⟨_, rfl⟩
            rw [← eX_1] at hP
            refine lv_aload_n hx hb dX6_commit_66 rfl (lv_at hl 1 rfl) ?_
            refine xget (C := RX6) (T := TX6) (N := 10) (ci := 6) (w := .ref (am 1)) hx hb hts hi_X6 hown hK hP 0 rfl rfl 0 (by decide) lk_7 rfl dX6_commit_67 ?_
            refine lv_iload_n hx hb dX6_commit_70 rfl (lv_at hl 0 rfl) ?_
            refine lv_iconst (v := 0) hx hb dX6_commit_71 (by decide) ?_
            refine callSE (As := [.int (Y 0 14 2), .int 0]) (rest := [.ref (am 1)]) ⟨hx, hb, hml, hown, hts⟩ (c_X6_ofCommitment (Y 0 14 2) 0) (va_cwS 2 hts gX6_commit_X6_ofCommitment rfl rfl rfl (by decide +kernel) ⟨Nat.le_of_ble_eq_true rfl, Nat.le_of_ble_eq_true rfl⟩) hK hN rfl hl.1 rfl (Nat.le_of_ble_eq_true rfl) dX6_commit_72 ⟨Nat.zero_le _, Nat.zero_le _⟩ ?_
            refine lv_iload_n hx hb dX6_commit_75 rfl (lv_at hl 2 rfl) ?_
            refine xast hx hb hK hP (wM_D hdj) hS 1 rfl (oC_in (n := 0) (by assumption) (by decide)) (wM_oC (n := 0) (by assumption) (by decide)) dX6_commit_76 (fun H locs hP hS => ?_)
            obtain ⟨X_2, eX_2⟩ : ∃ Z : St, Z = u3 X_1 0 10 (Y 0 14 2).toNatClampNeg h := ⟨_, rfl⟩
            rw [← eX_2] at hP
            refine lv_aload_n hx hb dX6_commit_77 rfl (lv_at hl 1 rfl) ?_
            refine xget (C := RX6) (T := TX6) (N := 10) (ci := 6) (w := .ref (am 1)) hx hb hts hi_X6 hown hK hP 0 rfl rfl 0 (by decide) lk_7 rfl dX6_commit_78 ?_
            refine lv_iload_n hx hb dX6_commit_81 rfl (lv_at hl 0 rfl) ?_
            refine lv_iconst (v := 1) hx hb dX6_commit_82 (by decide) ?_
            refine callSE (As := [.int (Y 0 14 2), .int 1]) (rest := [.ref (am 1)]) ⟨hx, hb, hml, hown, hts⟩ (c_X6_ofCommitment (Y 0 14 2) 1) (va_cwS 2 hts gX6_commit_X6_ofCommitment rfl rfl rfl (by decide +kernel) ⟨Nat.le_of_ble_eq_true rfl, Nat.le_of_ble_eq_true rfl⟩) hK hN rfl hl.1 rfl (Nat.le_of_ble_eq_true rfl) dX6_commit_83 ⟨Nat.zero_le _, Nat.zero_le _⟩ ?_
            refine lv_iload_n hx hb dX6_commit_86 rfl (lv_at hl 3 rfl) ?_
            refine xast hx hb hK hP (wM_D hdj) hS 1 rfl (oC_in (n := 1) (by assumption) (by decide)) (wM_oC (n := 1) (by assumption) (by decide)) dX6_commit_87 (fun H locs hP hS => ?_)
            obtain ⟨X_3, eX_3⟩ : ∃ Z : St, Z = u3 X_2 0 11 (Y 0 14 2).toNatClampNeg a := ⟨_, rfl⟩
            rw [← eX_3] at hP
            refine lv_aload_n hx hb dX6_commit_88 rfl (lv_at hl 1 rfl) ?_
            refine xget (C := RX6) (T := TX6) (N := 10) (ci := 6) (w := .ref (am 1)) hx hb hts hi_X6 hown hK hP 0 rfl rfl 0 (by decide) lk_7 rfl dX6_commit_89 ?_
            refine lv_iload_n hx hb dX6_commit_92 rfl (lv_at hl 0 rfl) ?_
            refine lv_iconst (v := 2) hx hb dX6_commit_93 (by decide) ?_
            refine callSE (As := [.int (Y 0 14 2), .int 2]) (rest := [.ref (am 1)]) ⟨hx, hb, hml, hown, hts⟩ (c_X6_ofCommitment (Y 0 14 2) 2) (va_cwS 2 hts gX6_commit_X6_ofCommitment rfl rfl rfl (by decide +kernel) ⟨Nat.le_of_ble_eq_true rfl, Nat.le_of_ble_eq_true rfl⟩) hK hN rfl hl.1 rfl (Nat.le_of_ble_eq_true rfl) dX6_commit_94 ⟨Nat.zero_le _, Nat.zero_le _⟩ ?_
            refine lv_iconst (v := 0) hx hb dX6_commit_97 (by decide) ?_
            refine xast hx hb hK hP (wM_D hdj) hS 1 rfl (oC_in (n := 2) (by assumption) (by decide)) (wM_oC (n := 2) (by assumption) (by decide)) dX6_commit_98 (fun H locs hP hS => ?_)
            obtain ⟨X_4, eX_4⟩ : ∃ Z : St, Z = u3 X_3 0 12 (Y 0 14 2).toNatClampNeg 0 := ⟨_, rfl⟩
            rw [← eX_4] at hP
            refine lv_aload_n hx hb dX6_commit_99 rfl (lv_at hl 1 rfl) ?_
            refine xget (C := RX6) (T := TX6) (N := 10) (ci := 6) (w := .ref (am 1)) hx hb hts hi_X6 hown hK hP 0 rfl rfl 0 (by decide) lk_7 rfl dX6_commit_100 ?_
            refine lv_iload_n hx hb dX6_commit_103 rfl (lv_at hl 0 rfl) ?_
            refine lv_iconst (v := 3) hx hb dX6_commit_104 (by decide) ?_
            refine callSE (As := [.int (Y 0 14 2), .int 3]) (rest := [.ref (am 1)]) ⟨hx, hb, hml, hown, hts⟩ (c_X6_ofCommitment (Y 0 14 2) 3) (va_cwS 2 hts gX6_commit_X6_ofCommitment rfl rfl rfl (by decide +kernel) ⟨Nat.le_of_ble_eq_true rfl, Nat.le_of_ble_eq_true rfl⟩) hK hN rfl hl.1 rfl (Nat.le_of_ble_eq_true rfl) dX6_commit_105 ⟨Nat.zero_le _, Nat.zero_le _⟩ ?_
            refine lv_aload_n hx hb dX6_commit_108 rfl (lv_at hl 1 rfl) ?_
            refine xget (C := RX6) (T := TX6) (N := 10) (ci := 6) (w := .ref (am 1)) hx hb hts hi_X6 hown hK hP 0 rfl rfl 0 (by decide) lk_7 rfl dX6_commit_109 ?_
            refine lv_iconst (v := 0) hx hb dX6_commit_112 (by decide) ?_
            refine xald (x := X_4 0 14 0) hx hb hK hP 1 rfl (vp_in_lit (by decide)) (row_n _ (o := 0) (by decide)) dX6_commit_113 ?_
            refine xast hx hb hK hP (wM_D hdj) hS 1 rfl (oC_in (n := 3) (by assumption) (by decide)) (wM_oC (n := 3) (by assumption) (by decide)) dX6_commit_114 (fun H locs hP hS => ?_)
            obtain ⟨X_5, eX_5⟩ : ∃ Z : St, Z = u3 X_4 0 13 (Y 0 14 2).toNatClampNeg (X_4 0 14 0) := ⟨_, rfl⟩
            rw [← eX_5] at hP
            refine lv_aload_n hx hb dX6_commit_115 rfl (lv_at hl 1 rfl) ?_
            refine xget (C := RX6) (T := TX6) (N := 10) (ci := 6) (w := .ref (am 1)) hx hb hts hi_X6 hown hK hP 0 rfl rfl 0 (by decide) lk_7 rfl dX6_commit_116 ?_
            refine lv_iload_n hx hb dX6_commit_119 rfl (lv_at hl 2 rfl) ?_
            refine lv_iconst (v := 4) hx hb dX6_commit_120 (by decide) ?_
            refine callSE (As := [.int h, .int 4]) (rest := [.ref (am 1)]) ⟨hx, hb, hml, hown, hts⟩ (c_X6_of h 4) (va_cwS 2 hts gX6_commit_X6_of rfl rfl rfl (by decide +kernel) ⟨Nat.le_of_ble_eq_true rfl, Nat.le_of_ble_eq_true rfl⟩) hK hN rfl hl.1 rfl (Nat.le_of_ble_eq_true rfl) dX6_commit_121 ⟨Nat.zero_le _, Nat.zero_le _⟩ ?_
            refine lv_dup2_11 hx hb dX6_commit_124 rfl rfl ?_
            refine xald (x := qv (X_5 0) 4 h) hx hb hK hP 1 rfl (oH_in (n := 4) (by assumption) (by decide)) (row_oH (n := 4) (by assumption) (by decide)) dX6_commit_125 ?_
            refine lv_iload_n hx hb dX6_commit_126 rfl (lv_at hl 3 rfl) ?_
            refine lv_iadd hx hb dX6_commit_127 ?_
            refine xast hx hb hK hP (wM_D hdj) hS 1 rfl (oH_in (n := 4) (by assumption) (by decide)) (wM_oH (n := 4) (by assumption) (by decide)) dX6_commit_128 (fun H locs hP hS => ?_)
            obtain ⟨X_6, eX_6⟩ : ∃ Z : St, Z = u3 X_5 0 4 h.toNatClampNeg ((qv (X_5 0) 4 h) + a) := ⟨_, rfl⟩
            rw [← eX_6] at hP
            refine lv_aload_n hx hb dX6_commit_129 rfl (lv_at hl 1 rfl) ?_
            refine xget (C := RX6) (T := TX6) (N := 10) (ci := 6) (w := .ref (am 1)) hx hb hts hi_X6 hown hK hP 0 rfl rfl 0 (by decide) lk_7 rfl dX6_commit_130 ?_
            refine lv_iconst (v := 2) hx hb dX6_commit_133 (by decide) ?_
            refine lv_dup2_11 hx hb dX6_commit_134 rfl rfl ?_
            refine xald (x := X_6 0 14 2) hx hb hK hP 1 rfl (vp_in_lit (by decide)) (row_n _ (o := 2) (by decide)) dX6_commit_135 ?_
            refine lv_iconst (v := 1) hx hb dX6_commit_136 (by decide) ?_
            refine lv_iadd hx hb dX6_commit_137 ?_
            refine xast hx hb hK hP (wM_D hdj) hS 1 rfl (vp_in_lit (by decide)) (wM_sn (o := 2) (by decide)) dX6_commit_138 (fun H locs hP hS => ?_)
            obtain ⟨X_7, eX_7⟩ : ∃ Z : St, Z = u3 X_6 0 14 2 ((X_6 0 14 2) + 1) := ⟨_, rfl⟩
            rw [← eX_7] at hP
            refine lv_iload_n hx hb dX6_commit_139 rfl (lv_at hl 0 rfl) ?_
            have hg : g_commit (Y 0) h a = 0 := by rw [gm_commit hok]; repeat (first | rw [ci_t c_2] | rw [ci_f c_2] | rw [ci_t c_9] | rw [ci_f c_9] | rw [ci_t c_19] | rw [ci_f c_19] | rw [ci_t c_31] | rw [ci_f c_31] | rw [ci_t c_45] | rw [ci_f c_45])
            have hZ : X_7 = sg (N_remM Y n 5 (Y 0 14 2) 0 a) 0 (m_commit (Y 0) h a) := by
              subst eX_7 eX_6 eX_5 eX_4 eX_3 eX_2 eX_1
              try simp only [u3_sg, sg_sg, sg_g, N_remM_0]
              try unfold m_commit
              try dsimp only
              all_goals repeat (first | rw [ci_t c_2] | rw [ci_f c_2] | rw [ci_t c_9] | rw [ci_f c_9] | rw [ci_t c_19] | rw [ci_f c_19] | rw [ci_t c_31] | rw [ci_f c_31] | rw [ci_t c_45] | rw [ci_f c_45])
              all_goals (first | rfl | (rw [sg_self]) | (simp only [u3_sg, sg_sg, sg_g, N_remM_0]; done) | (simp only [u3_sg, sg_sg, sg_g, N_remM_0]; rfl))
            have hV : Y 0 14 2 = Y 0 14 2 := by
              subst eX_7 eX_6 eX_5 eX_4 eX_3 eX_2 eX_1
              try simp only [u3_sg, sg_sg, sg_g, N_remM_0]
              try dsimp only
              all_goals repeat (first | rw [ci_t c_2] | rw [ci_f c_2] | rw [ci_t c_9] | rw [ci_f c_9] | rw [ci_t c_19] | rw [ci_f c_19] | rw [ci_t c_31] | rw [ci_f c_31] | rw [ci_t c_45] | rw [ci_f c_45])
              all_goals (first | rfl | (rw [sg_self]) | (simp only [u3_sg, sg_sg, sg_g, N_remM_0]; done) | (simp only [u3_sg, sg_sg, sg_g, N_remM_0]; rfl))
            exact retWE hx hb hr hlocks (by rw [opY_0 hg, ← hZ]; exact hP) hS dX6_commit_140 (by rw [opV_0 hg]; first | done | exact hV)
          · refine lv_bipush (v := (-3)) hx hb dX6_commit_48 (by decide) ?_
            have hg : g_commit (Y 0) h a = (-3) := by rw [gm_commit hok]; repeat (first | rw [ci_t c_2] | rw [ci_f c_2] | rw [ci_t c_9] | rw [ci_f c_9] | rw [ci_t c_19] | rw [ci_f c_19] | rw [ci_t c_31] | rw [ci_f c_31] | rw [ci_t c_45] | rw [ci_f c_45])
            exact retWE hx hb hr hlocks (by rw [opY_e hg (by decide)]; exact hP) hS dX6_commit_50 (opV_e hg (by decide))
        · refine lv_bipush (v := (-2)) hx hb dX6_commit_34 (by decide) ?_
          have hg : g_commit (Y 0) h a = (-2) := by rw [gm_commit hok]; repeat (first | rw [ci_t c_2] | rw [ci_f c_2] | rw [ci_t c_9] | rw [ci_f c_9] | rw [ci_t c_19] | rw [ci_f c_19] | rw [ci_t c_31] | rw [ci_f c_31])
          exact retWE hx hb hr hlocks (by rw [opY_e hg (by decide)]; exact hP) hS dX6_commit_36 (opV_e hg (by decide))
    · refine lv_if_ne (tgt := 17) hx hb dX6_commit_12 (by decide) (fun h9 => absurd (by decide) h9) (fun _ => ?_)
      refine lv_iconst (v := (-1)) hx hb dX6_commit_15 (by decide) ?_
      have hg : g_commit (Y 0) h a = (-1) := by rw [gm_commit hok]; repeat (first | rw [ci_t c_2] | rw [ci_f c_2] | rw [ci_t c_9] | rw [ci_f c_9])
      exact retWE hx hb hr hlocks (by rw [opY_e hg (by decide)]; exact hP) hS dX6_commit_16 (opV_e hg (by decide))
  · refine lv_if_eq (tgt := 15) hx hb dX6_commit_5 (by decide) (fun _ => ?_) (fun h9 => absurd (by decide) h9)
    refine lv_iconst (v := (-1)) hx hb dX6_commit_15 (by decide) ?_
    have hg : g_commit (Y 0) h a = (-1) := by rw [gm_commit hok]; repeat (first | rw [ci_t c_2] | rw [ci_f c_2])
    exact retWE hx hb hr hlocks (by rw [opY_e hg (by decide)]; exact hP) hS dX6_commit_16 (opV_e hg (by decide))
set_option maxHeartbeats 4000000 in
set_option maxRecDepth 100000 in
theorem c_X6_pay {l : Launch} {D : va_G} {cI cR : ClassId} {am : Nat → Nat} (hdj : Dj 9 am) (Y : St) (n : Nat) (hn : n ≤ 12) (hd : Y 14 0 0 = nI n) {K : Int} (hok : Ok K (Y 0)) (q : Int32) (a : Int32) : WoE l D cI cR (Aw 9 am) (wM cI am Y) (wM cI am (opY Y n (g_pay (Y 0) q a) 6 q 0 a (m_pay (Y 0) q a))) yX6_pay wsX6_pay ({ frames := 3, cells := 0, slots := 0, locals := 68 } : Room) [.ref (am 0), .int q, .int a] (opV (g_pay (Y 0) q a) (qv (m_pay (Y 0) q a) 11 q)) := by
  refine OfW (cc := cX6_pay) (maxL := 4) (ret := (some .int)) (by decide +kernel) rfl (Nat.le_of_ble_eq_true rfl) (fun p e s m below meth c hx hb hr hts hown hlocks hml hnm hP hK hN ls hl => ?_)
  have hl : lv_has ls 4 [(0, .ref (am 0)), (1, .int q), (2, .int a)] := hl
  have lk_7 := hts (.fieldLink RX6 7 "HeadBudgetsModel" "row" "[I") (by decide +kernel)
  have hi_X6 : ∀ w ∈ wsX60, w ∈ wsX6_pay := by decide +kernel
  have hS : va_S (Aw 9 am) s.heap s.heap [] := va_S.rf
  have hP : va_P D vwCl (wM cI am Y) s.heap := hP
  refine lv_aload_n hx hb dX6_pay_0 rfl (lv_at hl 0 rfl) ?_
  refine lv_iload_n hx hb dX6_pay_1 rfl (lv_at hl 1 rfl) ?_
  refine callB (As := [.int q]) (rest := []) ⟨hx, hb, hml, hown, hts⟩ (c_X6_isCommitment Y hok q) (cwV 1 hts gX6_pay_X6_isCommitment rfl rfl rfl (by decide +kernel) ⟨Nat.le_of_ble_eq_true rfl, Nat.le_of_ble_eq_true rfl⟩) hK hN hP 0 rfl rfl rfl hl.1 rfl (Nat.le_of_ble_eq_true rfl) dX6_pay_2 ⟨Nat.zero_le _, Nat.zero_le _⟩ (fun c_2 => ?_) (fun c_2 => ?_)
  · have hq := cin_has c_2
    refine lv_if_eq (tgt := 15) hx hb dX6_pay_5 (by decide) (fun h9 => absurd h9 (by decide)) (fun _ => ?_)
    refine lv_iload_n hx hb dX6_pay_8 rfl (lv_at hl 2 rfl) ?_
    refine callSB (As := [.int a]) (rest := []) ⟨hx, hb, hml, hown, hts⟩ (c_X6_isAmount a) (va_cwS 1 hts gX6_pay_X6_isAmount rfl rfl rfl (by decide +kernel) ⟨Nat.le_of_ble_eq_true rfl, Nat.le_of_ble_eq_true rfl⟩) hK hN rfl hl.1 rfl (Nat.le_of_ble_eq_true rfl) dX6_pay_9 ⟨Nat.zero_le _, Nat.zero_le _⟩ (fun c_9 => ?_) (fun c_9 => ?_)
    · refine lv_if_ne (tgt := 17) hx hb dX6_pay_12 (by decide) (fun _ => ?_) (fun h9 => absurd h9 (by decide))
      refine lv_aload_n hx hb dX6_pay_17 rfl (lv_at hl 0 rfl) ?_
      refine xget (C := RX6) (T := TX6) (N := 10) (ci := 6) (w := .ref (am 1)) hx hb hts hi_X6 hown hK hP 0 rfl rfl 0 (by decide) lk_7 rfl dX6_pay_18 ?_
      refine lv_iload_n hx hb dX6_pay_21 rfl (lv_at hl 1 rfl) ?_
      refine lv_iconst (v := 1) hx hb dX6_pay_22 (by decide) ?_
      refine callSE (As := [.int q, .int 1]) (rest := [.ref (am 1)]) ⟨hx, hb, hml, hown, hts⟩ (c_X6_ofCommitment q 1) (va_cwS 2 hts gX6_pay_X6_ofCommitment rfl rfl rfl (by decide +kernel) ⟨Nat.le_of_ble_eq_true rfl, Nat.le_of_ble_eq_true rfl⟩) hK hN rfl hl.1 rfl (Nat.le_of_ble_eq_true rfl) dX6_pay_23 ⟨Nat.zero_le _, Nat.zero_le _⟩ ?_
      refine xald (x := qv (Y 0) 11 q) hx hb hK hP 1 rfl (oC_in (n := 1) (by assumption) (by decide)) (row_oC (n := 1) (by assumption) (by decide)) dX6_pay_26 ?_
      refine lv_iload_n hx hb dX6_pay_27 rfl (lv_at hl 2 rfl) ?_
      refine lv_icmp_ge (tgt := 34) hx hb dX6_pay_28 (by decide) (fun c_28 => ?_) (fun c_28 => ?_)
      · refine lv_aload_n hx hb dX6_pay_34 rfl (lv_at hl 0 rfl) ?_
        refine lv_bipush (v := 6) hx hb dX6_pay_35 (by decide) ?_
        refine lv_iload_n hx hb dX6_pay_37 rfl (lv_at hl 1 rfl) ?_
        refine lv_iconst (v := 0) hx hb dX6_pay_38 (by decide) ?_
        refine lv_iload_n hx hb dX6_pay_39 rfl (lv_at hl 2 rfl) ?_
        refine callWV (As := [.int 6, .int q, .int 0, .int a]) (rest := []) ⟨hx, hb, hml, hown, hts⟩ (c_X6_remember hdj Y 6 q 0 a n hn hd) (cwV 4 hts gX6_pay_X6_remember rfl rfl rfl (by decide +kernel) ⟨Nat.le_of_ble_eq_true rfl, Nat.le_of_ble_eq_true rfl⟩) hK hN hP 0 rfl rfl rfl hl.1 rfl (Nat.le_of_ble_eq_true rfl) dX6_pay_40 ⟨Nat.zero_le _, Nat.zero_le _⟩ hS (fun _ h9 => h9) (fun H locs hP hS => ?_)
        obtain ⟨X_1, eX_1⟩ : ∃ Z : St, Z = N_remM Y n 6 q 0 a := ⟨_, rfl⟩
        rw [← eX_1] at hP
        have hh9 : hin (qv (X_1 0) 10 q) := by rw [eX_1, N_remM_0]; exact (hin_has (hasC_head hok c_2))
        refine lv_aload_n hx hb dX6_pay_43 rfl (lv_at hl 0 rfl) ?_
        refine xget (C := RX6) (T := TX6) (N := 10) (ci := 6) (w := .ref (am 1)) hx hb hts hi_X6 hown hK hP 0 rfl rfl 0 (by decide) lk_7 rfl dX6_pay_44 ?_
        refine lv_iload_n hx hb dX6_pay_47 rfl (lv_at hl 1 rfl) ?_
        refine lv_iconst (v := 0) hx hb dX6_pay_48 (by decide) ?_
        refine callSE (As := [.int q, .int 0]) (rest := [.ref (am 1)]) ⟨hx, hb, hml, hown, hts⟩ (c_X6_ofCommitment q 0) (va_cwS 2 hts gX6_pay_X6_ofCommitment rfl rfl rfl (by decide +kernel) ⟨Nat.le_of_ble_eq_true rfl, Nat.le_of_ble_eq_true rfl⟩) hK hN rfl hl.1 rfl (Nat.le_of_ble_eq_true rfl) dX6_pay_49 ⟨Nat.zero_le _, Nat.zero_le _⟩ ?_
        refine xald (x := qv (X_1 0) 10 q) hx hb hK hP 1 rfl (oC_in (n := 0) (by assumption) (by decide)) (row_oC (n := 0) (by assumption) (by decide)) dX6_pay_52 ?_
        refine lv_istore_n (lv' := [(3, .int (qv (X_1 0) 10 q)), (0, .ref (am 0)), (1, .int q), (2, .int a)]) hx hb dX6_pay_53 rfl hl (by decide) rfl (fun ls hl => ?_)
        refine lv_aload_n hx hb dX6_pay_54 rfl (lv_at hl 1 rfl) ?_
        refine xget (C := RX6) (T := TX6) (N := 10) (ci := 6) (w := .ref (am 1)) hx hb hts hi_X6 hown hK hP 0 rfl rfl 0 (by decide) lk_7 rfl dX6_pay_55 ?_
        refine lv_iload_n hx hb dX6_pay_58 rfl (lv_at hl 2 rfl) ?_
        refine lv_iconst (v := 1) hx hb dX6_pay_59 (by decide) ?_
        refine callSE (As := [.int q, .int 1]) (rest := [.ref (am 1)]) ⟨hx, hb, hml, hown, hts⟩ (c_X6_ofCommitment q 1) (va_cwS 2 hts gX6_pay_X6_ofCommitment rfl rfl rfl (by decide +kernel) ⟨Nat.le_of_ble_eq_true rfl, Nat.le_of_ble_eq_true rfl⟩) hK hN rfl hl.1 rfl (Nat.le_of_ble_eq_true rfl) dX6_pay_60 ⟨Nat.zero_le _, Nat.zero_le _⟩ ?_
        refine lv_dup2_11 hx hb dX6_pay_63 rfl rfl ?_
        refine xald (x := qv (X_1 0) 11 q) hx hb hK hP 1 rfl (oC_in (n := 1) (by assumption) (by decide)) (row_oC (n := 1) (by assumption) (by decide)) dX6_pay_64 ?_
        refine lv_iload_n hx hb dX6_pay_65 rfl (lv_at hl 3 rfl) ?_
        refine lv_isub hx hb dX6_pay_66 ?_
        refine xast hx hb hK hP (wM_D hdj) hS 1 rfl (oC_in (n := 1) (by assumption) (by decide)) (wM_oC (n := 1) (by assumption) (by decide)) dX6_pay_67 (fun H locs hP hS => ?_)
        obtain ⟨X_2, eX_2⟩ : ∃ Z : St, Z = u3 X_1 0 11 q.toNatClampNeg ((qv (X_1 0) 11 q) - a) := ⟨_, rfl⟩
        rw [← eX_2] at hP
        refine lv_aload_n hx hb dX6_pay_68 rfl (lv_at hl 1 rfl) ?_
        refine xget (C := RX6) (T := TX6) (N := 10) (ci := 6) (w := .ref (am 1)) hx hb hts hi_X6 hown hK hP 0 rfl rfl 0 (by decide) lk_7 rfl dX6_pay_69 ?_
        refine lv_iload_n hx hb dX6_pay_72 rfl (lv_at hl 2 rfl) ?_
        refine lv_iconst (v := 2) hx hb dX6_pay_73 (by decide) ?_
        refine callSE (As := [.int q, .int 2]) (rest := [.ref (am 1)]) ⟨hx, hb, hml, hown, hts⟩ (c_X6_ofCommitment q 2) (va_cwS 2 hts gX6_pay_X6_ofCommitment rfl rfl rfl (by decide +kernel) ⟨Nat.le_of_ble_eq_true rfl, Nat.le_of_ble_eq_true rfl⟩) hK hN rfl hl.1 rfl (Nat.le_of_ble_eq_true rfl) dX6_pay_74 ⟨Nat.zero_le _, Nat.zero_le _⟩ ?_
        refine lv_dup2_11 hx hb dX6_pay_77 rfl rfl ?_
        refine xald (x := qv (X_2 0) 12 q) hx hb hK hP 1 rfl (oC_in (n := 2) (by assumption) (by decide)) (row_oC (n := 2) (by assumption) (by decide)) dX6_pay_78 ?_
        refine lv_iload_n hx hb dX6_pay_79 rfl (lv_at hl 3 rfl) ?_
        refine lv_iadd hx hb dX6_pay_80 ?_
        refine xast hx hb hK hP (wM_D hdj) hS 1 rfl (oC_in (n := 2) (by assumption) (by decide)) (wM_oC (n := 2) (by assumption) (by decide)) dX6_pay_81 (fun H locs hP hS => ?_)
        obtain ⟨X_3, eX_3⟩ : ∃ Z : St, Z = u3 X_2 0 12 q.toNatClampNeg ((qv (X_2 0) 12 q) + a) := ⟨_, rfl⟩
        rw [← eX_3] at hP
        refine lv_aload_n hx hb dX6_pay_82 rfl (lv_at hl 1 rfl) ?_
        refine xget (C := RX6) (T := TX6) (N := 10) (ci := 6) (w := .ref (am 1)) hx hb hts hi_X6 hown hK hP 0 rfl rfl 0 (by decide) lk_7 rfl dX6_pay_83 ?_
        refine lv_iload_n hx hb dX6_pay_86 rfl (lv_at hl 0 rfl) ?_
        refine lv_iconst (v := 4) hx hb dX6_pay_87 (by decide) ?_
        refine callSE (As := [.int (qv (X_1 0) 10 q), .int 4]) (rest := [.ref (am 1)]) ⟨hx, hb, hml, hown, hts⟩ (c_X6_of (qv (X_1 0) 10 q) 4) (va_cwS 2 hts gX6_pay_X6_of rfl rfl rfl (by decide +kernel) ⟨Nat.le_of_ble_eq_true rfl, Nat.le_of_ble_eq_true rfl⟩) hK hN rfl hl.1 rfl (Nat.le_of_ble_eq_true rfl) dX6_pay_88 ⟨Nat.zero_le _, Nat.zero_le _⟩ ?_
        refine lv_dup2_11 hx hb dX6_pay_91 rfl rfl ?_
        refine xald (x := qv (X_3 0) 4 (qv (X_1 0) 10 q)) hx hb hK hP 1 rfl (oH_in (n := 4) (by assumption) (by decide)) (row_oH (n := 4) (by assumption) (by decide)) dX6_pay_92 ?_
        refine lv_iload_n hx hb dX6_pay_93 rfl (lv_at hl 3 rfl) ?_
        refine lv_isub hx hb dX6_pay_94 ?_
        refine xast hx hb hK hP (wM_D hdj) hS 1 rfl (oH_in (n := 4) (by assumption) (by decide)) (wM_oH (n := 4) (by assumption) (by decide)) dX6_pay_95 (fun H locs hP hS => ?_)
        obtain ⟨X_4, eX_4⟩ : ∃ Z : St, Z = u3 X_3 0 4 (qv (X_1 0) 10 q).toNatClampNeg ((qv (X_3 0) 4 (qv (X_1 0) 10 q)) - a) := ⟨_, rfl⟩
        rw [← eX_4] at hP
        refine lv_aload_n hx hb dX6_pay_96 rfl (lv_at hl 1 rfl) ?_
        refine xget (C := RX6) (T := TX6) (N := 10) (ci := 6) (w := .ref (am 1)) hx hb hts hi_X6 hown hK hP 0 rfl rfl 0 (by decide) lk_7 rfl dX6_pay_97 ?_
        refine lv_iload_n hx hb dX6_pay_100 rfl (lv_at hl 0 rfl) ?_
        refine lv_iconst (v := 5) hx hb dX6_pay_101 (by decide) ?_
        refine callSE (As := [.int (qv (X_1 0) 10 q), .int 5]) (rest := [.ref (am 1)]) ⟨hx, hb, hml, hown, hts⟩ (c_X6_of (qv (X_1 0) 10 q) 5) (va_cwS 2 hts gX6_pay_X6_of rfl rfl rfl (by decide +kernel) ⟨Nat.le_of_ble_eq_true rfl, Nat.le_of_ble_eq_true rfl⟩) hK hN rfl hl.1 rfl (Nat.le_of_ble_eq_true rfl) dX6_pay_102 ⟨Nat.zero_le _, Nat.zero_le _⟩ ?_
        refine lv_dup2_11 hx hb dX6_pay_105 rfl rfl ?_
        refine xald (x := qv (X_4 0) 5 (qv (X_1 0) 10 q)) hx hb hK hP 1 rfl (oH_in (n := 5) (by assumption) (by decide)) (row_oH (n := 5) (by assumption) (by decide)) dX6_pay_106 ?_
        refine lv_iload_n hx hb dX6_pay_107 rfl (lv_at hl 3 rfl) ?_
        refine lv_iadd hx hb dX6_pay_108 ?_
        refine xast hx hb hK hP (wM_D hdj) hS 1 rfl (oH_in (n := 5) (by assumption) (by decide)) (wM_oH (n := 5) (by assumption) (by decide)) dX6_pay_109 (fun H locs hP hS => ?_)
        obtain ⟨X_5, eX_5⟩ : ∃ Z : St, Z = u3 X_4 0 5 (qv (X_1 0) 10 q).toNatClampNeg ((qv (X_4 0) 5 (qv (X_1 0) 10 q)) + a) := ⟨_, rfl⟩
        rw [← eX_5] at hP
        refine lv_aload_n hx hb dX6_pay_110 rfl (lv_at hl 1 rfl) ?_
        refine xget (C := RX6) (T := TX6) (N := 10) (ci := 6) (w := .ref (am 1)) hx hb hts hi_X6 hown hK hP 0 rfl rfl 0 (by decide) lk_7 rfl dX6_pay_111 ?_
        refine lv_iconst (v := 5) hx hb dX6_pay_114 (by decide) ?_
        refine lv_dup2_11 hx hb dX6_pay_115 rfl rfl ?_
        refine xald (x := X_5 0 14 5) hx hb hK hP 1 rfl (vp_in_lit (by decide)) (row_n _ (o := 5) (by decide)) dX6_pay_116 ?_
        refine lv_iload_n hx hb dX6_pay_117 rfl (lv_at hl 3 rfl) ?_
        refine lv_iadd hx hb dX6_pay_118 ?_
        refine xast hx hb hK hP (wM_D hdj) hS 1 rfl (vp_in_lit (by decide)) (wM_sn (o := 5) (by decide)) dX6_pay_119 (fun H locs hP hS => ?_)
        obtain ⟨X_6, eX_6⟩ : ∃ Z : St, Z = u3 X_5 0 14 5 ((X_5 0 14 5) + a) := ⟨_, rfl⟩
        rw [← eX_6] at hP
        refine lv_aload_n hx hb dX6_pay_120 rfl (lv_at hl 1 rfl) ?_
        refine xget (C := RX6) (T := TX6) (N := 10) (ci := 6) (w := .ref (am 1)) hx hb hts hi_X6 hown hK hP 0 rfl rfl 0 (by decide) lk_7 rfl dX6_pay_121 ?_
        refine lv_iload_n hx hb dX6_pay_124 rfl (lv_at hl 2 rfl) ?_
        refine lv_iconst (v := 1) hx hb dX6_pay_125 (by decide) ?_
        refine callSE (As := [.int q, .int 1]) (rest := [.ref (am 1)]) ⟨hx, hb, hml, hown, hts⟩ (c_X6_ofCommitment q 1) (va_cwS 2 hts gX6_pay_X6_ofCommitment rfl rfl rfl (by decide +kernel) ⟨Nat.le_of_ble_eq_true rfl, Nat.le_of_ble_eq_true rfl⟩) hK hN rfl hl.1 rfl (Nat.le_of_ble_eq_true rfl) dX6_pay_126 ⟨Nat.zero_le _, Nat.zero_le _⟩ ?_
        refine xald (x := qv (X_6 0) 11 q) hx hb hK hP 1 rfl (oC_in (n := 1) (by assumption) (by decide)) (row_oC (n := 1) (by assumption) (by decide)) dX6_pay_129 ?_
        have hg : g_pay (Y 0) q a = 0 := by unfold g_pay; repeat (first | rw [ci_t c_2] | rw [ci_f c_2] | rw [ci_t c_9] | rw [ci_f c_9] | rw [ci_t c_28] | rw [ci_f c_28])
        have hZ : X_6 = sg (N_remM Y n 6 q 0 a) 0 (m_pay (Y 0) q a) := by
          subst eX_6 eX_5 eX_4 eX_3 eX_2 eX_1
          try simp only [u3_sg, sg_sg, sg_g, N_remM_0]
          try unfold m_pay
          try dsimp only
          all_goals repeat (first | rw [ci_t c_2] | rw [ci_f c_2] | rw [ci_t c_9] | rw [ci_f c_9] | rw [ci_t c_28] | rw [ci_f c_28])
          all_goals (first | rfl | (rw [sg_self]) | (simp only [u3_sg, sg_sg, sg_g, N_remM_0]; done) | (simp only [u3_sg, sg_sg, sg_g, N_remM_0]; rfl))
        have hV : qv (X_6 0) 11 q = qv (m_pay (Y 0) q a) 11 q := by
          subst eX_6 eX_5 eX_4 eX_3 eX_2 eX_1
          try simp only [u3_sg, sg_sg, sg_g, N_remM_0]
          try unfold m_pay
          try dsimp only
          all_goals repeat (first | rw [ci_t c_2] | rw [ci_f c_2] | rw [ci_t c_9] | rw [ci_f c_9] | rw [ci_t c_28] | rw [ci_f c_28])
          all_goals (first | rfl | (rw [sg_self]) | (simp only [u3_sg, sg_sg, sg_g, N_remM_0]; done) | (simp only [u3_sg, sg_sg, sg_g, N_remM_0]; rfl))
        exact retWE hx hb hr hlocks (by rw [opY_0 hg, ← hZ]; exact hP) hS dX6_pay_130 (by rw [opV_0 hg]; first | done | exact hV)
      · refine lv_bipush (v := (-2)) hx hb dX6_pay_31 (by decide) ?_
        have hg : g_pay (Y 0) q a = (-2) := by unfold g_pay; repeat (first | rw [ci_t c_2] | rw [ci_f c_2] | rw [ci_t c_9] | rw [ci_f c_9] | rw [ci_t c_28] | rw [ci_f c_28])
        exact retWE hx hb hr hlocks (by rw [opY_e hg (by decide)]; exact hP) hS dX6_pay_33 (opV_e hg (by decide))
    · refine lv_if_ne (tgt := 17) hx hb dX6_pay_12 (by decide) (fun h9 => absurd (by decide) h9) (fun _ => ?_)
      refine lv_iconst (v := (-1)) hx hb dX6_pay_15 (by decide) ?_
      have hg : g_pay (Y 0) q a = (-1) := by unfold g_pay; repeat (first | rw [ci_t c_2] | rw [ci_f c_2] | rw [ci_t c_9] | rw [ci_f c_9])
      exact retWE hx hb hr hlocks (by rw [opY_e hg (by decide)]; exact hP) hS dX6_pay_16 (opV_e hg (by decide))
  · refine lv_if_eq (tgt := 15) hx hb dX6_pay_5 (by decide) (fun _ => ?_) (fun h9 => absurd (by decide) h9)
    refine lv_iconst (v := (-1)) hx hb dX6_pay_15 (by decide) ?_
    have hg : g_pay (Y 0) q a = (-1) := by unfold g_pay; repeat (first | rw [ci_t c_2] | rw [ci_f c_2])
    exact retWE hx hb hr hlocks (by rw [opY_e hg (by decide)]; exact hP) hS dX6_pay_16 (opV_e hg (by decide))
set_option maxHeartbeats 4000000 in
set_option maxRecDepth 100000 in
theorem c_X6_release {l : Launch} {D : va_G} {cI cR : ClassId} {am : Nat → Nat} (hdj : Dj 9 am) (Y : St) (n : Nat) (hn : n ≤ 12) (hd : Y 14 0 0 = nI n) {K : Int} (hok : Ok K (Y 0)) (q : Int32) : WoE l D cI cR (Aw 9 am) (wM cI am Y) (wM cI am (opY Y n (g_release (Y 0) q) 7 q 0 0 (m_free0 (Y 0) q))) yX6_release wsX6_release ({ frames := 3, cells := 0, slots := 0, locals := 68 } : Room) [.ref (am 0), .int q] (opV (g_release (Y 0) q) (qv (Y 0) 11 q)) := by
  refine OfW (cc := cX6_release) (maxL := 2) (ret := (some .int)) (by decide +kernel) rfl (Nat.le_of_ble_eq_true rfl) (fun p e s m below meth c hx hb hr hts hown hlocks hml hnm hP hK hN ls hl => ?_)
  have hl : lv_has ls 2 [(0, .ref (am 0)), (1, .int q)] := hl
  have lk_7 := hts (.fieldLink RX6 7 "HeadBudgetsModel" "row" "[I") (by decide +kernel)
  have hi_X6 : ∀ w ∈ wsX60, w ∈ wsX6_release := by decide +kernel
  have hS : va_S (Aw 9 am) s.heap s.heap [] := va_S.rf
  have hP : va_P D vwCl (wM cI am Y) s.heap := hP
  refine lv_aload_n hx hb dX6_release_0 rfl (lv_at hl 0 rfl) ?_
  refine lv_iload_n hx hb dX6_release_1 rfl (lv_at hl 1 rfl) ?_
  refine callB (As := [.int q]) (rest := []) ⟨hx, hb, hml, hown, hts⟩ (c_X6_isCommitment Y hok q) (cwV 1 hts gX6_release_X6_isCommitment rfl rfl rfl (by decide +kernel) ⟨Nat.le_of_ble_eq_true rfl, Nat.le_of_ble_eq_true rfl⟩) hK hN hP 0 rfl rfl rfl hl.1 rfl (Nat.le_of_ble_eq_true rfl) dX6_release_2 ⟨Nat.zero_le _, Nat.zero_le _⟩ (fun c_2 => ?_) (fun c_2 => ?_)
  · have hq := cin_has c_2
    refine lv_if_ne (tgt := 10) hx hb dX6_release_5 (by decide) (fun _ => ?_) (fun h9 => absurd h9 (by decide))
    refine lv_aload_n hx hb dX6_release_10 rfl (lv_at hl 0 rfl) ?_
    refine xget (C := RX6) (T := TX6) (N := 10) (ci := 6) (w := .ref (am 1)) hx hb hts hi_X6 hown hK hP 0 rfl rfl 0 (by decide) lk_7 rfl dX6_release_11 ?_
    refine lv_iload_n hx hb dX6_release_14 rfl (lv_at hl 1 rfl) ?_
    refine lv_iconst (v := 1) hx hb dX6_release_15 (by decide) ?_
    refine callSE (As := [.int q, .int 1]) (rest := [.ref (am 1)]) ⟨hx, hb, hml, hown, hts⟩ (c_X6_ofCommitment q 1) (va_cwS 2 hts gX6_release_X6_ofCommitment rfl rfl rfl (by decide +kernel) ⟨Nat.le_of_ble_eq_true rfl, Nat.le_of_ble_eq_true rfl⟩) hK hN rfl hl.1 rfl (Nat.le_of_ble_eq_true rfl) dX6_release_16 ⟨Nat.zero_le _, Nat.zero_le _⟩ ?_
    refine xald (x := qv (Y 0) 11 q) hx hb hK hP 1 rfl (oC_in (n := 1) (by assumption) (by decide)) (row_oC (n := 1) (by assumption) (by decide)) dX6_release_19 ?_
    refine lv_if_ne (tgt := 26) hx hb dX6_release_20 (by decide) (fun c_20 => ?_) (fun c_20 => ?_)
    · refine lv_aload_n hx hb dX6_release_26 rfl (lv_at hl 0 rfl) ?_
      refine lv_bipush (v := 7) hx hb dX6_release_27 (by decide) ?_
      refine lv_iload_n hx hb dX6_release_29 rfl (lv_at hl 1 rfl) ?_
      refine lv_iconst (v := 0) hx hb dX6_release_30 (by decide) ?_
      refine lv_iconst (v := 0) hx hb dX6_release_31 (by decide) ?_
      refine callWV (As := [.int 7, .int q, .int 0, .int 0]) (rest := []) ⟨hx, hb, hml, hown, hts⟩ (c_X6_remember hdj Y 7 q 0 0 n hn hd) (cwV 4 hts gX6_release_X6_remember rfl rfl rfl (by decide +kernel) ⟨Nat.le_of_ble_eq_true rfl, Nat.le_of_ble_eq_true rfl⟩) hK hN hP 0 rfl rfl rfl hl.1 rfl (Nat.le_of_ble_eq_true rfl) dX6_release_32 ⟨Nat.zero_le _, Nat.zero_le _⟩ hS (fun _ h9 => h9) (fun H locs hP hS => ?_)
      obtain ⟨X_1, eX_1⟩ : ∃ Z : St, Z = N_remM Y n 7 q 0 0 := ⟨_, rfl⟩
      rw [← eX_1] at hP
      have hh9 : hin (qv (X_1 0) 10 q) := by rw [eX_1, N_remM_0]; exact (hin_has (hasC_head hok c_2))
      refine lv_aload_n hx hb dX6_release_35 rfl (lv_at hl 0 rfl) ?_
      refine lv_iload_n hx hb dX6_release_36 rfl (lv_at hl 1 rfl) ?_
      refine callWE (As := [.int q]) (rest := []) ⟨hx, hb, hml, hown, hts⟩ (c_X6_free0 hdj X_1 q (by assumption) (by assumption)) (cwV 1 hts gX6_release_X6_free0 rfl rfl rfl (by decide +kernel) ⟨Nat.le_of_ble_eq_true rfl, Nat.le_of_ble_eq_true rfl⟩) hK hN hP 0 rfl rfl rfl hl.1 rfl (Nat.le_of_ble_eq_true rfl) dX6_release_37 ⟨Nat.zero_le _, Nat.zero_le _⟩ hS (fun _ h9 => h9) (fun H locs hP hS _ _ => ?_)
      obtain ⟨X_2, eX_2⟩ : ∃ Z : St, Z = sg X_1 0 (m_free0 (X_1 0) q) := ⟨_, rfl⟩
      rw [← eX_2] at hP
      have hg : g_release (Y 0) q = 0 := by unfold g_release; repeat (first | rw [ci_t c_2] | rw [ci_f c_2] | rw [ci_t c_20] | rw [ci_f c_20])
      have hZ : X_2 = sg (N_remM Y n 7 q 0 0) 0 (m_free0 (Y 0) q) := by
        subst eX_2 eX_1
        try simp only [u3_sg, sg_sg, sg_g, N_remM_0]
        try dsimp only
        all_goals repeat (first | rw [ci_t c_2] | rw [ci_f c_2] | rw [ci_t c_20] | rw [ci_f c_20])
        all_goals (first | rfl | (rw [sg_self]) | (simp only [u3_sg, sg_sg, sg_g, N_remM_0]; done) | (simp only [u3_sg, sg_sg, sg_g, N_remM_0]; rfl))
      have hV : qv (X_1 0) 11 q = qv (Y 0) 11 q := by
        subst eX_2 eX_1
        try simp only [u3_sg, sg_sg, sg_g, N_remM_0]
        try dsimp only
        all_goals repeat (first | rw [ci_t c_2] | rw [ci_f c_2] | rw [ci_t c_20] | rw [ci_f c_20])
        all_goals (first | rfl | (rw [sg_self]) | (simp only [u3_sg, sg_sg, sg_g, N_remM_0]; done) | (simp only [u3_sg, sg_sg, sg_g, N_remM_0]; rfl))
      exact retWE hx hb hr hlocks (by rw [opY_0 hg, ← hZ]; exact hP) hS dX6_release_40 (by rw [opV_0 hg]; first | done | exact hV)
    · refine lv_bipush (v := (-2)) hx hb dX6_release_23 (by decide) ?_
      have hg : g_release (Y 0) q = (-2) := by unfold g_release; repeat (first | rw [ci_t c_2] | rw [ci_f c_2] | rw [ci_t c_20] | rw [ci_f c_20])
      exact retWE hx hb hr hlocks (by rw [opY_e hg (by decide)]; exact hP) hS dX6_release_25 (opV_e hg (by decide))
  · refine lv_if_ne (tgt := 10) hx hb dX6_release_5 (by decide) (fun h9 => absurd (by decide) h9) (fun _ => ?_)
    refine lv_iconst (v := (-1)) hx hb dX6_release_8 (by decide) ?_
    have hg : g_release (Y 0) q = (-1) := by unfold g_release; repeat (first | rw [ci_t c_2] | rw [ci_f c_2])
    exact retWE hx hb hr hlocks (by rw [opY_e hg (by decide)]; exact hP) hS dX6_release_9 (opV_e hg (by decide))
set_option maxHeartbeats 4000000 in
set_option maxRecDepth 100000 in
theorem c_X6_vire {l : Launch} {D : va_G} {cI cR : ClassId} {am : Nat → Nat} (hdj : Dj 9 am) (Y : St) (n : Nat) (hn : n ≤ 12) (hd : Y 14 0 0 = nI n) {K : Int} (hok : Ok K (Y 0)) (f : Int32) (t : Int32) (a : Int32) : WoE l D cI cR (Aw 9 am) (wM cI am Y) (wM cI am (opY Y n (g_vire (Y 0) f t a) 8 f t a (m_vire (Y 0) f t a))) yX6_vire wsX6_vire ({ frames := 4, cells := 0, slots := 0, locals := 88 } : Room) [.ref (am 0), .int f, .int t, .int a] (opV (g_vire (Y 0) f t a) (fr (m_vire (Y 0) f t a) f)) := by
  refine OfW (cc := cX6_vire) (maxL := 4) (ret := (some .int)) (by decide +kernel) rfl (Nat.le_of_ble_eq_true rfl) (fun p e s m below meth c hx hb hr hts hown hlocks hml hnm hP hK hN ls hl => ?_)
  have hl : lv_has ls 4 [(0, .ref (am 0)), (1, .int f), (2, .int t), (3, .int a)] := hl
  have lk_7 := hts (.fieldLink RX6 7 "HeadBudgetsModel" "row" "[I") (by decide +kernel)
  have hi_X6 : ∀ w ∈ wsX60, w ∈ wsX6_vire := by decide +kernel
  have hS : va_S (Aw 9 am) s.heap s.heap [] := va_S.rf
  have hP : va_P D vwCl (wM cI am Y) s.heap := hP
  refine lv_aload_n hx hb dX6_vire_0 rfl (lv_at hl 0 rfl) ?_
  refine lv_iload_n hx hb dX6_vire_1 rfl (lv_at hl 1 rfl) ?_
  refine lv_iload_n hx hb dX6_vire_2 rfl (lv_at hl 2 rfl) ?_
  refine callB (As := [.int f, .int t]) (rest := []) ⟨hx, hb, hml, hown, hts⟩ (c_X6_areTwo Y hok f t) (cwV 2 hts gX6_vire_X6_areTwo rfl rfl rfl (by decide +kernel) ⟨Nat.le_of_ble_eq_true rfl, Nat.le_of_ble_eq_true rfl⟩) hK hN hP 0 rfl rfl rfl hl.1 rfl (Nat.le_of_ble_eq_true rfl) dX6_vire_3 ⟨Nat.zero_le _, Nat.zero_le _⟩ (fun c_3 => ?_) (fun c_3 => ?_)
  · have hh1 := hin_has c_3.1
    have hh2 := hin_has c_3.2.1
    refine lv_if_eq (tgt := 16) hx hb dX6_vire_6 (by decide) (fun h9 => absurd h9 (by decide)) (fun _ => ?_)
    refine lv_iload_n hx hb dX6_vire_9 rfl (lv_at hl 3 rfl) ?_
    refine callSB (As := [.int a]) (rest := []) ⟨hx, hb, hml, hown, hts⟩ (c_X6_isAmount a) (va_cwS 1 hts gX6_vire_X6_isAmount rfl rfl rfl (by decide +kernel) ⟨Nat.le_of_ble_eq_true rfl, Nat.le_of_ble_eq_true rfl⟩) hK hN rfl hl.1 rfl (Nat.le_of_ble_eq_true rfl) dX6_vire_10 ⟨Nat.zero_le _, Nat.zero_le _⟩ (fun c_10 => ?_) (fun c_10 => ?_)
    · refine lv_if_ne (tgt := 18) hx hb dX6_vire_13 (by decide) (fun _ => ?_) (fun h9 => absurd h9 (by decide))
      refine lv_iload_n hx hb dX6_vire_18 rfl (lv_at hl 3 rfl) ?_
      refine lv_aload_n hx hb dX6_vire_19 rfl (lv_at hl 0 rfl) ?_
      refine lv_iload_n hx hb dX6_vire_20 rfl (lv_at hl 1 rfl) ?_
      refine callE (As := [.int f]) (rest := [.int a]) ⟨hx, hb, hml, hown, hts⟩ (c_X6_free Y f (by assumption)) (cwV 1 hts gX6_vire_X6_free rfl rfl rfl (by decide +kernel) ⟨Nat.le_of_ble_eq_true rfl, Nat.le_of_ble_eq_true rfl⟩) hK hN hP 0 rfl rfl rfl hl.1 rfl (Nat.le_of_ble_eq_true rfl) dX6_vire_21 ⟨Nat.zero_le _, Nat.zero_le _⟩ ?_
      refine lv_icmp_gt (tgt := 45) hx hb dX6_vire_24 (by decide) (fun c_24 => ?_) (fun c_24 => ?_)
      · refine lv_bipush (v := (-2)) hx hb dX6_vire_45 (by decide) ?_
        have hg : g_vire (Y 0) f t a = (-2) := by rw [gm_vire]; repeat (first | rw [ci_t c_3] | rw [ci_f c_3] | rw [ci_t c_10] | rw [ci_f c_10] | rw [ci_t c_24] | rw [ci_f c_24])
        exact retWE hx hb hr hlocks (by rw [opY_e hg (by decide)]; exact hP) hS dX6_vire_47 (opV_e hg (by decide))
      · refine lv_aload_n hx hb dX6_vire_27 rfl (lv_at hl 0 rfl) ?_
        refine lv_iload_n hx hb dX6_vire_28 rfl (lv_at hl 1 rfl) ?_
        refine lv_iload_n hx hb dX6_vire_29 rfl (lv_at hl 2 rfl) ?_
        refine callB (As := [.int f, .int t]) (rest := []) ⟨hx, hb, hml, hown, hts⟩ (c_X6_isAllowed Y hok f t c_3.1 c_3.2.1 c_3.2.2) (cwV 2 hts gX6_vire_X6_isAllowed rfl rfl rfl (by decide +kernel) ⟨Nat.le_of_ble_eq_true rfl, Nat.le_of_ble_eq_true rfl⟩) hK hN hP 0 rfl rfl rfl hl.1 rfl (Nat.le_of_ble_eq_true rfl) dX6_vire_30 ⟨Nat.zero_le _, Nat.zero_le _⟩ (fun c_30 => ?_) (fun c_30 => ?_)
        · refine lv_if_eq (tgt := 45) hx hb dX6_vire_33 (by decide) (fun h9 => absurd h9 (by decide)) (fun _ => ?_)
          refine lv_iload_n hx hb dX6_vire_36 rfl (lv_at hl 3 rfl) ?_
          refine lv_aload_n hx hb dX6_vire_37 rfl (lv_at hl 0 rfl) ?_
          refine lv_iload_n hx hb dX6_vire_38 rfl (lv_at hl 1 rfl) ?_
          refine callE (As := [.int f]) (rest := [.int a]) ⟨hx, hb, hml, hown, hts⟩ (c_X6_leaveOf Y f (by assumption)) (cwV 1 hts gX6_vire_X6_leaveOf rfl rfl rfl (by decide +kernel) ⟨Nat.le_of_ble_eq_true rfl, Nat.le_of_ble_eq_true rfl⟩) hK hN hP 0 rfl rfl rfl hl.1 rfl (Nat.le_of_ble_eq_true rfl) dX6_vire_39 ⟨Nat.zero_le _, Nat.zero_le _⟩ ?_
          refine lv_icmp_le (tgt := 48) hx hb dX6_vire_42 (by decide) (fun c_42 => ?_) (fun c_42 => ?_)
          · refine lv_aload_n hx hb dX6_vire_48 rfl (lv_at hl 0 rfl) ?_
            refine lv_bipush (v := 8) hx hb dX6_vire_49 (by decide) ?_
            refine lv_iload_n hx hb dX6_vire_51 rfl (lv_at hl 1 rfl) ?_
            refine lv_iload_n hx hb dX6_vire_52 rfl (lv_at hl 2 rfl) ?_
            refine lv_iload_n hx hb dX6_vire_53 rfl (lv_at hl 3 rfl) ?_
            refine callWV (As := [.int 8, .int f, .int t, .int a]) (rest := []) ⟨hx, hb, hml, hown, hts⟩ (c_X6_remember hdj Y 8 f t a n hn hd) (cwV 4 hts gX6_vire_X6_remember rfl rfl rfl (by decide +kernel) ⟨Nat.le_of_ble_eq_true rfl, Nat.le_of_ble_eq_true rfl⟩) hK hN hP 0 rfl rfl rfl hl.1 rfl (Nat.le_of_ble_eq_true rfl) dX6_vire_54 ⟨Nat.zero_le _, Nat.zero_le _⟩ hS (fun _ h9 => h9) (fun H locs hP hS => ?_)
            obtain ⟨X_1, eX_1⟩ : ∃ Z : St, Z = N_remM Y n 8 f t a := ⟨_, rfl⟩
            rw [← eX_1] at hP
            refine lv_aload_n hx hb dX6_vire_57 rfl (lv_at hl 0 rfl) ?_
            refine lv_iload_n hx hb dX6_vire_58 rfl (lv_at hl 1 rfl) ?_
            refine lv_iload_n hx hb dX6_vire_59 rfl (lv_at hl 2 rfl) ?_
            refine lv_iload_n hx hb dX6_vire_60 rfl (lv_at hl 3 rfl) ?_
            refine callWV (As := [.int f, .int t, .int a]) (rest := []) ⟨hx, hb, hml, hown, hts⟩ (c_X6_moves hdj X_1 f t a (by assumption) (by assumption)) (cwV 3 hts gX6_vire_X6_moves rfl rfl rfl (by decide +kernel) ⟨Nat.le_of_ble_eq_true rfl, Nat.le_of_ble_eq_true rfl⟩) hK hN hP 0 rfl rfl rfl hl.1 rfl (Nat.le_of_ble_eq_true rfl) dX6_vire_61 ⟨Nat.zero_le _, Nat.zero_le _⟩ hS (fun _ h9 => h9) (fun H locs hP hS => ?_)
            obtain ⟨X_2, eX_2⟩ : ∃ Z : St, Z = sg X_1 0 (m_mv (X_1 0) f t a) := ⟨_, rfl⟩
            rw [← eX_2] at hP
            refine lv_aload_n hx hb dX6_vire_64 rfl (lv_at hl 0 rfl) ?_
            refine xget (C := RX6) (T := TX6) (N := 10) (ci := 6) (w := .ref (am 1)) hx hb hts hi_X6 hown hK hP 0 rfl rfl 0 (by decide) lk_7 rfl dX6_vire_65 ?_
            refine lv_iload_n hx hb dX6_vire_68 rfl (lv_at hl 1 rfl) ?_
            refine lv_bipush (v := 7) hx hb dX6_vire_69 (by decide) ?_
            refine callSE (As := [.int f, .int 7]) (rest := [.ref (am 1)]) ⟨hx, hb, hml, hown, hts⟩ (c_X6_of f 7) (va_cwS 2 hts gX6_vire_X6_of rfl rfl rfl (by decide +kernel) ⟨Nat.le_of_ble_eq_true rfl, Nat.le_of_ble_eq_true rfl⟩) hK hN rfl hl.1 rfl (Nat.le_of_ble_eq_true rfl) dX6_vire_71 ⟨Nat.zero_le _, Nat.zero_le _⟩ ?_
            refine lv_dup2_11 hx hb dX6_vire_74 rfl rfl ?_
            refine xald (x := qv (X_2 0) 7 f) hx hb hK hP 1 rfl (oH_in (n := 7) (by assumption) (by decide)) (row_oH (n := 7) (by assumption) (by decide)) dX6_vire_75 ?_
            refine lv_iload_n hx hb dX6_vire_76 rfl (lv_at hl 3 rfl) ?_
            refine lv_iadd hx hb dX6_vire_77 ?_
            refine xast hx hb hK hP (wM_D hdj) hS 1 rfl (oH_in (n := 7) (by assumption) (by decide)) (wM_oH (n := 7) (by assumption) (by decide)) dX6_vire_78 (fun H locs hP hS => ?_)
            obtain ⟨X_3, eX_3⟩ : ∃ Z : St, Z = u3 X_2 0 7 f.toNatClampNeg ((qv (X_2 0) 7 f) + a) := ⟨_, rfl⟩
            rw [← eX_3] at hP
            refine lv_aload_n hx hb dX6_vire_79 rfl (lv_at hl 0 rfl) ?_
            refine lv_iload_n hx hb dX6_vire_80 rfl (lv_at hl 1 rfl) ?_
            refine callE (As := [.int f]) (rest := []) ⟨hx, hb, hml, hown, hts⟩ (c_X6_free X_3 f (by assumption)) (cwV 1 hts gX6_vire_X6_free rfl rfl rfl (by decide +kernel) ⟨Nat.le_of_ble_eq_true rfl, Nat.le_of_ble_eq_true rfl⟩) hK hN hP 0 rfl rfl rfl hl.1 rfl (Nat.le_of_ble_eq_true rfl) dX6_vire_81 ⟨Nat.zero_le _, Nat.zero_le _⟩ ?_
            have hg : g_vire (Y 0) f t a = 0 := by rw [gm_vire]; repeat (first | rw [ci_t c_3] | rw [ci_f c_3] | rw [ci_t c_10] | rw [ci_f c_10] | rw [ci_t c_24] | rw [ci_f c_24] | rw [ci_t c_30] | rw [ci_f c_30] | rw [ci_t c_42] | rw [ci_f c_42])
            have hZ : X_3 = sg (N_remM Y n 8 f t a) 0 (m_vire (Y 0) f t a) := by
              subst eX_3 eX_2 eX_1
              try simp only [u3_sg, sg_sg, sg_g, N_remM_0]
              try unfold m_vire
              try dsimp only
              all_goals repeat (first | rw [ci_t c_3] | rw [ci_f c_3] | rw [ci_t c_10] | rw [ci_f c_10] | rw [ci_t c_24] | rw [ci_f c_24] | rw [ci_t c_30] | rw [ci_f c_30] | rw [ci_t c_42] | rw [ci_f c_42])
              all_goals (first | rfl | (rw [sg_self]) | (simp only [u3_sg, sg_sg, sg_g, N_remM_0]; done) | (simp only [u3_sg, sg_sg, sg_g, N_remM_0]; rfl))
            have hV : fr (X_3 0) f = fr (m_vire (Y 0) f t a) f := by
              subst eX_3 eX_2 eX_1
              try simp only [u3_sg, sg_sg, sg_g, N_remM_0]
              try unfold m_vire
              try dsimp only
              all_goals repeat (first | rw [ci_t c_3] | rw [ci_f c_3] | rw [ci_t c_10] | rw [ci_f c_10] | rw [ci_t c_24] | rw [ci_f c_24] | rw [ci_t c_30] | rw [ci_f c_30] | rw [ci_t c_42] | rw [ci_f c_42])
              all_goals (first | rfl | (rw [sg_self]) | (simp only [u3_sg, sg_sg, sg_g, N_remM_0]; done) | (simp only [u3_sg, sg_sg, sg_g, N_remM_0]; rfl))
            exact retWE hx hb hr hlocks (by rw [opY_0 hg, ← hZ]; exact hP) hS dX6_vire_84 (by rw [opV_0 hg]; first | done | exact hV)
          · refine lv_bipush (v := (-2)) hx hb dX6_vire_45 (by decide) ?_
            have hg : g_vire (Y 0) f t a = (-2) := by rw [gm_vire]; repeat (first | rw [ci_t c_3] | rw [ci_f c_3] | rw [ci_t c_10] | rw [ci_f c_10] | rw [ci_t c_24] | rw [ci_f c_24] | rw [ci_t c_30] | rw [ci_f c_30] | rw [ci_t c_42] | rw [ci_f c_42])
            exact retWE hx hb hr hlocks (by rw [opY_e hg (by decide)]; exact hP) hS dX6_vire_47 (opV_e hg (by decide))
        · refine lv_if_eq (tgt := 45) hx hb dX6_vire_33 (by decide) (fun _ => ?_) (fun h9 => absurd (by decide) h9)
          refine lv_bipush (v := (-2)) hx hb dX6_vire_45 (by decide) ?_
          have hg : g_vire (Y 0) f t a = (-2) := by rw [gm_vire]; repeat (first | rw [ci_t c_3] | rw [ci_f c_3] | rw [ci_t c_10] | rw [ci_f c_10] | rw [ci_t c_24] | rw [ci_f c_24] | rw [ci_t c_30] | rw [ci_f c_30])
          exact retWE hx hb hr hlocks (by rw [opY_e hg (by decide)]; exact hP) hS dX6_vire_47 (opV_e hg (by decide))
    · refine lv_if_ne (tgt := 18) hx hb dX6_vire_13 (by decide) (fun h9 => absurd (by decide) h9) (fun _ => ?_)
      refine lv_iconst (v := (-1)) hx hb dX6_vire_16 (by decide) ?_
      have hg : g_vire (Y 0) f t a = (-1) := by rw [gm_vire]; repeat (first | rw [ci_t c_3] | rw [ci_f c_3] | rw [ci_t c_10] | rw [ci_f c_10])
      exact retWE hx hb hr hlocks (by rw [opY_e hg (by decide)]; exact hP) hS dX6_vire_17 (opV_e hg (by decide))
  · refine lv_if_eq (tgt := 16) hx hb dX6_vire_6 (by decide) (fun _ => ?_) (fun h9 => absurd (by decide) h9)
    refine lv_iconst (v := (-1)) hx hb dX6_vire_16 (by decide) ?_
    have hg : g_vire (Y 0) f t a = (-1) := by rw [gm_vire]; repeat (first | rw [ci_t c_3] | rw [ci_f c_3])
    exact retWE hx hb hr hlocks (by rw [opY_e hg (by decide)]; exact hP) hS dX6_vire_17 (opV_e hg (by decide))
set_option maxHeartbeats 4000000 in
set_option maxRecDepth 100000 in
theorem c_X6_endYear {l : Launch} {D : va_G} {cI cR : ClassId} {am : Nat → Nat} (hdj : Dj 9 am) (Y : St) (n : Nat) (hn : n ≤ 12) (hd : Y 14 0 0 = nI n) {K : Int} (hok : Ok K (Y 0)) : WoE l D cI cR (Aw 9 am) (wM cI am Y) (wM cI am (opY Y n (g_endYear (Y 0)) 9 0 0 0 (m_endYear (Y 0)))) yX6_endYear wsX6_endYear ({ frames := 3, cells := 0, slots := 0, locals := 68 } : Room) [.ref (am 0)] (opV (g_endYear (Y 0)) (m_eyS (Y 0) (md (Y 0)))) := by
  refine OfW (cc := cX6_endYear) (maxL := 4) (ret := (some .int)) (by decide +kernel) rfl (Nat.le_of_ble_eq_true rfl) (fun p e s m below meth c hx hb hr hts hown hlocks hml hnm hP hK hN ls hl => ?_)
  have hl : lv_has ls 4 [(0, .ref (am 0))] := hl
  have lk_7 := hts (.fieldLink RX6 7 "HeadBudgetsModel" "row" "[I") (by decide +kernel)
  have hi_X6 : ∀ w ∈ wsX60, w ∈ wsX6_endYear := by decide +kernel
  have hS : va_S (Aw 9 am) s.heap s.heap [] := va_S.rf
  have hP : va_P D vwCl (wM cI am Y) s.heap := hP
  refine lv_aload_n hx hb dX6_endYear_0 rfl (lv_at hl 0 rfl) ?_
  refine xget (C := RX6) (T := TX6) (N := 10) (ci := 6) (w := .ref (am 1)) hx hb hts hi_X6 hown hK hP 0 rfl rfl 0 (by decide) lk_7 rfl dX6_endYear_1 ?_
  refine lv_iconst (v := 0) hx hb dX6_endYear_4 (by decide) ?_
  refine xald (x := Y 0 14 0) hx hb hK hP 1 rfl (vp_in_lit (by decide)) (row_n _ (o := 0) (by decide)) dX6_endYear_5 ?_
  refine lv_bipush (v := 99) hx hb dX6_endYear_6 (by decide) ?_
  refine lv_icmp_ne (tgt := 14) hx hb dX6_endYear_8 (by decide) (fun c_8 => ?_) (fun c_8 => ?_)
  · refine lv_aload_n hx hb dX6_endYear_14 rfl (lv_at hl 0 rfl) ?_
    refine lv_bipush (v := 9) hx hb dX6_endYear_15 (by decide) ?_
    refine lv_iconst (v := 0) hx hb dX6_endYear_17 (by decide) ?_
    refine lv_iconst (v := 0) hx hb dX6_endYear_18 (by decide) ?_
    refine lv_iconst (v := 0) hx hb dX6_endYear_19 (by decide) ?_
    refine callWV (As := [.int 9, .int 0, .int 0, .int 0]) (rest := []) ⟨hx, hb, hml, hown, hts⟩ (c_X6_remember hdj Y 9 0 0 0 n hn hd) (cwV 4 hts gX6_endYear_X6_remember rfl rfl rfl (by decide +kernel) ⟨Nat.le_of_ble_eq_true rfl, Nat.le_of_ble_eq_true rfl⟩) hK hN hP 0 rfl rfl rfl hl.1 rfl (Nat.le_of_ble_eq_true rfl) dX6_endYear_20 ⟨Nat.zero_le _, Nat.zero_le _⟩ hS (fun _ h9 => h9) (fun H locs hP hS => ?_)
    obtain ⟨X_1, eX_1⟩ : ∃ Z : St, Z = N_remM Y n 9 0 0 0 := ⟨_, rfl⟩
    rw [← eX_1] at hP
    refine lv_iconst (v := 0) hx hb dX6_endYear_23 (by decide) ?_
    refine lv_istore_n (lv' := [(1, .int 0), (0, .ref (am 0))]) hx hb dX6_endYear_24 rfl hl (by decide) rfl (fun ls hl => ?_)
    refine lv_iconst (v := 0) hx hb dX6_endYear_25 (by decide) ?_
    refine lv_istore_n (lv' := [(2, .int 0), (1, .int 0), (0, .ref (am 0))]) hx hb dX6_endYear_26 rfl hl (by decide) rfl (fun ls hl => ?_)
    have hloop_27 : ∀ (n_27 : Nat) (k : Nat) (xs xk : Int32) (XL_27 : St) (H : Heap) (locs : List Loc), va_P D vwCl (wM cI am XL_27) H → va_S (Aw 9 am) s.heap H locs → k ≤ md (Y 0) → md (Y 0) < k + n_27 → xk = nI k → XL_27 = sg X_1 0 (m_ey (Y 0) k) → xs = m_eyS (Y 0) k → ∀ ls : Array Slot, lv_has ls 4 [(0, .ref (am 0)), (1, .int xs), (2, .int xk)] → W p l e ({ frames := 3, cells := 0, slots := 0, locals := 68 } : Room) s m ([.ref (am 0)]).toArray below meth c H locs 0 0 (MQ below (va_Qi (S := Unit) (fun r _ => r = opV (g_endYear (Y 0)) (m_eyS (Y 0) (md (Y 0)))) (fun _ t => va_P D vwCl (wM cI am (opY Y n (g_endYear (Y 0)) 9 0 0 0 (m_endYear (Y 0)))) t.heap) (Aw 9 am)) ([.ref (am 0)]).toArray s 0 0 (Aw 9 am)) (F0 m 27 ls []) := by
      intro n_27
      induction n_27 with
      | zero =>
        intro k xs xk XL_27 H locs hP hS hk hn2 ek ea es ls hl
        exfalso; omega
      | succ n_27 ih_27 =>
        intro k xs xk XL_27 H locs hP hS hk hn2 ek ea es ls hl
        refine lv_iload_n hx hb dX6_endYear_27 rfl (lv_at hl 2 rfl) ?_
        refine lv_aload_n hx hb dX6_endYear_28 rfl (lv_at hl 0 rfl) ?_
        refine xget (C := RX6) (T := TX6) (N := 10) (ci := 6) (w := .ref (am 1)) hx hb hts hi_X6 hown hK hP 0 rfl rfl 0 (by decide) lk_7 rfl dX6_endYear_29 ?_
        refine lv_iconst (v := 1) hx hb dX6_endYear_32 (by decide) ?_
        refine xald (x := XL_27 0 14 1) hx hb hK hP 1 rfl (vp_in_lit (by decide)) (row_n _ (o := 1) (by decide)) dX6_endYear_33 ?_
        refine lv_icmp_ge (tgt := 119) hx hb dX6_endYear_34 (by decide) (fun c_34 => ?_) (fun c_34 => ?_)
        · have e14 : XL_27 0 14 1 = Y 0 14 1 := by rw [ea, sg_g, m_ey_14]
          have hk2 : k = md (Y 0) := md_ge hok hk (by rw [← ek, ← e14]; exact c_34)
          subst hk2
          refine lv_aload_n hx hb dX6_endYear_119 rfl (lv_at hl 0 rfl) ?_
          refine xget (C := RX6) (T := TX6) (N := 10) (ci := 6) (w := .ref (am 1)) hx hb hts hi_X6 hown hK hP 0 rfl rfl 0 (by decide) lk_7 rfl dX6_endYear_120 ?_
          refine lv_iconst (v := 4) hx hb dX6_endYear_123 (by decide) ?_
          refine lv_dup2_11 hx hb dX6_endYear_124 rfl rfl ?_
          refine xald (x := XL_27 0 14 4) hx hb hK hP 1 rfl (vp_in_lit (by decide)) (row_n _ (o := 4) (by decide)) dX6_endYear_125 ?_
          refine lv_iload_n hx hb dX6_endYear_126 rfl (lv_at hl 1 rfl) ?_
          refine lv_iadd hx hb dX6_endYear_127 ?_
          refine xast hx hb hK hP (wM_D hdj) hS 1 rfl (vp_in_lit (by decide)) (wM_sn (o := 4) (by decide)) dX6_endYear_128 (fun H locs hP hS => ?_)
          obtain ⟨X_2, eX_2⟩ : ∃ Z : St, Z = u3 XL_27 0 14 4 ((XL_27 0 14 4) + xs) := ⟨_, rfl⟩
          rw [← eX_2] at hP
          refine lv_aload_n hx hb dX6_endYear_129 rfl (lv_at hl 0 rfl) ?_
          refine xget (C := RX6) (T := TX6) (N := 10) (ci := 6) (w := .ref (am 1)) hx hb hts hi_X6 hown hK hP 0 rfl rfl 0 (by decide) lk_7 rfl dX6_endYear_130 ?_
          refine lv_iconst (v := 0) hx hb dX6_endYear_133 (by decide) ?_
          refine lv_dup2_11 hx hb dX6_endYear_134 rfl rfl ?_
          refine xald (x := X_2 0 14 0) hx hb hK hP 1 rfl (vp_in_lit (by decide)) (row_n _ (o := 0) (by decide)) dX6_endYear_135 ?_
          refine lv_iconst (v := 1) hx hb dX6_endYear_136 (by decide) ?_
          refine lv_iadd hx hb dX6_endYear_137 ?_
          refine xast hx hb hK hP (wM_D hdj) hS 1 rfl (vp_in_lit (by decide)) (wM_sn (o := 0) (by decide)) dX6_endYear_138 (fun H locs hP hS => ?_)
          obtain ⟨X_3, eX_3⟩ : ∃ Z : St, Z = u3 X_2 0 14 0 ((X_2 0 14 0) + 1) := ⟨_, rfl⟩
          rw [← eX_3] at hP
          refine lv_iload_n hx hb dX6_endYear_139 rfl (lv_at hl 1 rfl) ?_
          have hg : g_endYear (Y 0) = 0 := by rw [gm_endYear hok]; repeat (first | rw [ci_t c_8] | rw [ci_f c_8] | rw [ci_t c_34] | rw [ci_f c_34])
          have hZ : X_3 = sg (N_remM Y n 9 0 0 0) 0 (m_endYear (Y 0)) := by
            subst eX_3 eX_2
            subst ea es
            simp only [u3_sg, sg_sg, sg_g]
            rw [eX_1]
            try simp only [sg_sg]
            rfl
          have hV : xs = m_eyS (Y 0) (md (Y 0)) := by
            exact es
          exact retWE hx hb hr hlocks (by rw [opY_0 hg, ← hZ]; exact hP) hS dX6_endYear_140 (by rw [opV_0 hg]; first | done | exact hV)
        · have e14 : XL_27 0 14 1 = Y 0 14 1 := by rw [ea, sg_g, m_ey_14]
          have hlt := md_lt hok hk (by rw [← ek, ← e14]; exact c_34)
          have hh : hin xk := by rw [ek]; exact nI_hin hlt.2
          refine lv_aload_n hx hb dX6_endYear_37 rfl (lv_at hl 0 rfl) ?_
          refine lv_iload_n hx hb dX6_endYear_38 rfl (lv_at hl 2 rfl) ?_
          refine callE (As := [.int xk]) (rest := []) ⟨hx, hb, hml, hown, hts⟩ (c_X6_lapseOf XL_27 xk (by assumption)) (cwV 1 hts gX6_endYear_X6_lapseOf rfl rfl rfl (by decide +kernel) ⟨Nat.le_of_ble_eq_true rfl, Nat.le_of_ble_eq_true rfl⟩) hK hN hP 0 rfl rfl rfl hl.1 rfl (Nat.le_of_ble_eq_true rfl) dX6_endYear_39 ⟨Nat.zero_le _, Nat.zero_le _⟩ ?_
          refine lv_istore_n (lv' := [(3, .int (lp (XL_27 0) xk)), (0, .ref (am 0)), (1, .int xs), (2, .int xk)]) hx hb dX6_endYear_42 rfl hl (by decide) rfl (fun ls hl => ?_)
          refine lv_iload_n hx hb dX6_endYear_43 rfl (lv_at hl 2 rfl) ?_
          refine lv_iload_n hx hb dX6_endYear_44 rfl (lv_at hl 0 rfl) ?_
          refine lv_iadd hx hb dX6_endYear_45 ?_
          refine lv_istore_n (lv' := [(1, .int (xs + (lp (XL_27 0) xk))), (3, .int (lp (XL_27 0) xk)), (0, .ref (am 0)), (2, .int xk)]) hx hb dX6_endYear_46 rfl hl (by decide) rfl (fun ls hl => ?_)
          refine lv_aload_n hx hb dX6_endYear_47 rfl (lv_at hl 2 rfl) ?_
          refine xget (C := RX6) (T := TX6) (N := 10) (ci := 6) (w := .ref (am 1)) hx hb hts hi_X6 hown hK hP 0 rfl rfl 0 (by decide) lk_7 rfl dX6_endYear_48 ?_
          refine lv_iload_n hx hb dX6_endYear_51 rfl (lv_at hl 3 rfl) ?_
          refine lv_bipush (v := 6) hx hb dX6_endYear_52 (by decide) ?_
          refine callSE (As := [.int xk, .int 6]) (rest := [.ref (am 1)]) ⟨hx, hb, hml, hown, hts⟩ (c_X6_of xk 6) (va_cwS 2 hts gX6_endYear_X6_of rfl rfl rfl (by decide +kernel) ⟨Nat.le_of_ble_eq_true rfl, Nat.le_of_ble_eq_true rfl⟩) hK hN rfl hl.1 rfl (Nat.le_of_ble_eq_true rfl) dX6_endYear_54 ⟨Nat.zero_le _, Nat.zero_le _⟩ ?_
          refine lv_aload_n hx hb dX6_endYear_57 rfl (lv_at hl 2 rfl) ?_
          refine lv_iload_n hx hb dX6_endYear_58 rfl (lv_at hl 3 rfl) ?_
          refine callE (As := [.int xk]) (rest := [.int (oH xk 6), .ref (am 1)]) ⟨hx, hb, hml, hown, hts⟩ (c_X6_free XL_27 xk (by assumption)) (cwV 1 hts gX6_endYear_X6_free rfl rfl rfl (by decide +kernel) ⟨Nat.le_of_ble_eq_true rfl, Nat.le_of_ble_eq_true rfl⟩) hK hN hP 0 rfl rfl rfl hl.1 rfl (Nat.le_of_ble_eq_true rfl) dX6_endYear_59 ⟨Nat.zero_le _, Nat.zero_le _⟩ ?_
          refine lv_iload_n hx hb dX6_endYear_62 rfl (lv_at hl 1 rfl) ?_
          refine lv_isub hx hb dX6_endYear_63 ?_
          refine xast hx hb hK hP (wM_D hdj) hS 1 rfl (oH_in (n := 6) (by assumption) (by decide)) (wM_oH (n := 6) (by assumption) (by decide)) dX6_endYear_64 (fun H locs hP hS => ?_)
          obtain ⟨X_4, eX_4⟩ : ∃ Z : St, Z = u3 XL_27 0 6 xk.toNatClampNeg ((fr (XL_27 0) xk) - (lp (XL_27 0) xk)) := ⟨_, rfl⟩
          rw [← eX_4] at hP
          refine lv_aload_n hx hb dX6_endYear_65 rfl (lv_at hl 2 rfl) ?_
          refine xget (C := RX6) (T := TX6) (N := 10) (ci := 6) (w := .ref (am 1)) hx hb hts hi_X6 hown hK hP 0 rfl rfl 0 (by decide) lk_7 rfl dX6_endYear_66 ?_
          refine lv_iload_n hx hb dX6_endYear_69 rfl (lv_at hl 3 rfl) ?_
          refine lv_iconst (v := 3) hx hb dX6_endYear_70 (by decide) ?_
          refine callSE (As := [.int xk, .int 3]) (rest := [.ref (am 1)]) ⟨hx, hb, hml, hown, hts⟩ (c_X6_of xk 3) (va_cwS 2 hts gX6_endYear_X6_of rfl rfl rfl (by decide +kernel) ⟨Nat.le_of_ble_eq_true rfl, Nat.le_of_ble_eq_true rfl⟩) hK hN rfl hl.1 rfl (Nat.le_of_ble_eq_true rfl) dX6_endYear_71 ⟨Nat.zero_le _, Nat.zero_le _⟩ ?_
          refine lv_dup2_11 hx hb dX6_endYear_74 rfl rfl ?_
          refine xald (x := qv (X_4 0) 3 xk) hx hb hK hP 1 rfl (oH_in (n := 3) (by assumption) (by decide)) (row_oH (n := 3) (by assumption) (by decide)) dX6_endYear_75 ?_
          refine lv_iload_n hx hb dX6_endYear_76 rfl (lv_at hl 1 rfl) ?_
          refine lv_aload_n hx hb dX6_endYear_77 rfl (lv_at hl 2 rfl) ?_
          refine xget (C := RX6) (T := TX6) (N := 10) (ci := 6) (w := .ref (am 1)) hx hb hts hi_X6 hown hK hP 0 rfl rfl 0 (by decide) lk_7 rfl dX6_endYear_78 ?_
          refine lv_iload_n hx hb dX6_endYear_81 rfl (lv_at hl 3 rfl) ?_
          refine lv_iconst (v := 5) hx hb dX6_endYear_82 (by decide) ?_
          refine callSE (As := [.int xk, .int 5]) (rest := [.ref (am 1), .int (lp (XL_27 0) xk), .int (qv (X_4 0) 3 xk), .int (oH xk 3), .ref (am 1)]) ⟨hx, hb, hml, hown, hts⟩ (c_X6_of xk 5) (va_cwS 2 hts gX6_endYear_X6_of rfl rfl rfl (by decide +kernel) ⟨Nat.le_of_ble_eq_true rfl, Nat.le_of_ble_eq_true rfl⟩) hK hN rfl hl.1 rfl (Nat.le_of_ble_eq_true rfl) dX6_endYear_83 ⟨Nat.zero_le _, Nat.zero_le _⟩ ?_
          refine xald (x := qv (X_4 0) 5 xk) hx hb hK hP 1 rfl (oH_in (n := 5) (by assumption) (by decide)) (row_oH (n := 5) (by assumption) (by decide)) dX6_endYear_86 ?_
          refine lv_iadd hx hb dX6_endYear_87 ?_
          refine lv_isub hx hb dX6_endYear_88 ?_
          refine xast hx hb hK hP (wM_D hdj) hS 1 rfl (oH_in (n := 3) (by assumption) (by decide)) (wM_oH (n := 3) (by assumption) (by decide)) dX6_endYear_89 (fun H locs hP hS => ?_)
          obtain ⟨X_5, eX_5⟩ : ∃ Z : St, Z = u3 X_4 0 3 xk.toNatClampNeg ((qv (X_4 0) 3 xk) - ((lp (XL_27 0) xk) + (qv (X_4 0) 5 xk))) := ⟨_, rfl⟩
          rw [← eX_5] at hP
          refine lv_aload_n hx hb dX6_endYear_90 rfl (lv_at hl 2 rfl) ?_
          refine xget (C := RX6) (T := TX6) (N := 10) (ci := 6) (w := .ref (am 1)) hx hb hts hi_X6 hown hK hP 0 rfl rfl 0 (by decide) lk_7 rfl dX6_endYear_91 ?_
          refine lv_iload_n hx hb dX6_endYear_94 rfl (lv_at hl 3 rfl) ?_
          refine lv_iconst (v := 5) hx hb dX6_endYear_95 (by decide) ?_
          refine callSE (As := [.int xk, .int 5]) (rest := [.ref (am 1)]) ⟨hx, hb, hml, hown, hts⟩ (c_X6_of xk 5) (va_cwS 2 hts gX6_endYear_X6_of rfl rfl rfl (by decide +kernel) ⟨Nat.le_of_ble_eq_true rfl, Nat.le_of_ble_eq_true rfl⟩) hK hN rfl hl.1 rfl (Nat.le_of_ble_eq_true rfl) dX6_endYear_96 ⟨Nat.zero_le _, Nat.zero_le _⟩ ?_
          refine lv_iconst (v := 0) hx hb dX6_endYear_99 (by decide) ?_
          refine xast hx hb hK hP (wM_D hdj) hS 1 rfl (oH_in (n := 5) (by assumption) (by decide)) (wM_oH (n := 5) (by assumption) (by decide)) dX6_endYear_100 (fun H locs hP hS => ?_)
          obtain ⟨X_6, eX_6⟩ : ∃ Z : St, Z = u3 X_5 0 5 xk.toNatClampNeg 0 := ⟨_, rfl⟩
          rw [← eX_6] at hP
          refine lv_aload_n hx hb dX6_endYear_101 rfl (lv_at hl 2 rfl) ?_
          refine xget (C := RX6) (T := TX6) (N := 10) (ci := 6) (w := .ref (am 1)) hx hb hts hi_X6 hown hK hP 0 rfl rfl 0 (by decide) lk_7 rfl dX6_endYear_102 ?_
          refine lv_iload_n hx hb dX6_endYear_105 rfl (lv_at hl 3 rfl) ?_
          refine lv_bipush (v := 7) hx hb dX6_endYear_106 (by decide) ?_
          refine callSE (As := [.int xk, .int 7]) (rest := [.ref (am 1)]) ⟨hx, hb, hml, hown, hts⟩ (c_X6_of xk 7) (va_cwS 2 hts gX6_endYear_X6_of rfl rfl rfl (by decide +kernel) ⟨Nat.le_of_ble_eq_true rfl, Nat.le_of_ble_eq_true rfl⟩) hK hN rfl hl.1 rfl (Nat.le_of_ble_eq_true rfl) dX6_endYear_108 ⟨Nat.zero_le _, Nat.zero_le _⟩ ?_
          refine lv_iconst (v := 0) hx hb dX6_endYear_111 (by decide) ?_
          refine xast hx hb hK hP (wM_D hdj) hS 1 rfl (oH_in (n := 7) (by assumption) (by decide)) (wM_oH (n := 7) (by assumption) (by decide)) dX6_endYear_112 (fun H locs hP hS => ?_)
          obtain ⟨X_7, eX_7⟩ : ∃ Z : St, Z = u3 X_6 0 7 xk.toNatClampNeg 0 := ⟨_, rfl⟩
          rw [← eX_7] at hP
          refine lv_iinc (v := xk + 1) (lv' := [(2, .int (xk + 1)), (1, .int (xs + (lp (XL_27 0) xk))), (3, .int (lp (XL_27 0) xk)), (0, .ref (am 0))]) hx hb dX6_endYear_113 hl (k := 3) rfl rfl (by decide) rfl (fun ls hl => ?_)
          refine lv_goto (tgt := 27) hx hb dX6_endYear_116 (by decide) ?_
          have hz : X_7 = sg X_1 0 (m_ey (Y 0) (k + 1)) := by
            subst eX_7 eX_6 eX_5 eX_4
            subst ea
            simp only [u3_sg, sg_sg, sg_g]
            rw [ek]
            rfl
          exact ih_27  (k + 1) _ _ X_7 _ _ hP hS (by omega) (by omega) (by rw [ek]; exact nI_1 k) hz (by rw [es, ek, ea, sg_g]; rfl) _ (lv_sub hl [3, 1, 0] rfl)
    exact hloop_27  (md (Y 0) + 1) 0 0 0 X_1 _ _ hP hS (by omega) (by omega) rfl (by rw [show m_ey (Y 0) 0 = X_1 0 from by rw [eX_1, N_remM_0]; rfl]; exact (sg_self X_1 0).symm) rfl _ (lv_sub hl [2, 1, 0] rfl)
  · refine lv_bipush (v := (-2)) hx hb dX6_endYear_11 (by decide) ?_
    have hg : g_endYear (Y 0) = (-2) := by rw [gm_endYear hok]; repeat (first | rw [ci_t c_8] | rw [ci_f c_8])
    exact retWE hx hb hr hlocks (by rw [opY_e hg (by decide)]; exact hP) hS dX6_endYear_13 (opV_e hg (by decide))
set_option maxHeartbeats 4000000 in
set_option maxRecDepth 100000 in
theorem c_X6_canRevoke {l : Launch} {D : va_G} {cI cR : ClassId} {am : Nat → Nat} (Y : St) (x : Int32) (hx0 : vp_in x 12) (h8 : Y 13 0 x.toNatClampNeg = 8 → hin (Y 13 2 x.toNatClampNeg)) (h5 : Y 13 0 x.toNatClampNeg = 5 → cin (Y 13 1 x.toNatClampNeg)) : RoB l D cI cR (wM cI am Y) yX6_canRevoke wsX6_canRevoke ({ frames := 2, cells := 0, slots := 0, locals := 42 } : Room) [.ref (am 0), .int x] (p_can Y x.toNatClampNeg) := by
  refine OfW (cc := cX6_canRevoke) (maxL := 2) (ret := (some .boolean)) (by decide +kernel) rfl (Nat.le_of_ble_eq_true rfl) (fun p e s m below meth c hx hb hr hts hown hlocks hml hnm hP hK hN ls hl => ?_)
  have hl : lv_has ls 2 [(0, .ref (am 0)), (1, .int x)] := hl
  have lk_28 := hts (.fieldLink RX6 28 "HeadBudgetsModel" "revoked" "[I") (by decide +kernel)
  have lk_25 := hts (.fieldLink RX6 25 "HeadBudgetsModel" "years" "[I") (by decide +kernel)
  have lk_7 := hts (.fieldLink RX6 7 "HeadBudgetsModel" "row" "[I") (by decide +kernel)
  have lk_13 := hts (.fieldLink RX6 13 "HeadBudgetsModel" "kinds" "[I") (by decide +kernel)
  have lk_22 := hts (.fieldLink RX6 22 "HeadBudgetsModel" "amounts" "[I") (by decide +kernel)
  have lk_19 := hts (.fieldLink RX6 19 "HeadBudgetsModel" "others" "[I") (by decide +kernel)
  have lk_16 := hts (.fieldLink RX6 16 "HeadBudgetsModel" "ones" "[I") (by decide +kernel)
  have hi_X6 : ∀ w ∈ wsX60, w ∈ wsX6_canRevoke := by decide +kernel
  refine lv_aload_n hx hb dX6_canRevoke_0 rfl (lv_at hl 0 rfl) ?_
  refine xget (C := RX6) (T := TX6) (N := 10) (ci := 6) (w := .ref (am 7)) hx hb hts hi_X6 hown hK hP 0 rfl rfl 8 (by decide) lk_28 rfl dX6_canRevoke_1 ?_
  refine lv_iload_n hx hb dX6_canRevoke_4 rfl (lv_at hl 1 rfl) ?_
  refine xald (x := Y 13 5 x.toNatClampNeg) hx hb hK hP 7 rfl hx0 rfl dX6_canRevoke_5 ?_
  refine lv_iconst (v := 1) hx hb dX6_canRevoke_6 (by decide) ?_
  refine lv_icmp_eq (tgt := 25) hx hb dX6_canRevoke_7 (by decide) (fun c_7 => ?_) (fun c_7 => ?_)
  · refine lv_iconst (v := 0) hx hb dX6_canRevoke_25 (by decide) ?_
    exact retB0 hx hb hr hlocks dX6_canRevoke_26 (by first | exact fun z => z.1 c_7 | exact fun z => c_22 z.2.1 | exact fun z => z.2.2.elim (fun w => Int32.not_le.mpr c_54 w.2) (fun w => w.1 c_35) | exact fun z => z.2.2.elim (fun w => c_35 w.1) (fun w => Int32.not_lt.mpr c_90 w.2.2) | exact fun z => z.2.2.elim (fun w => c_35 w.1) (fun w => c_72 w.2.1))
  · refine lv_aload_n hx hb dX6_canRevoke_10 rfl (lv_at hl 0 rfl) ?_
    refine xget (C := RX6) (T := TX6) (N := 10) (ci := 6) (w := .ref (am 6)) hx hb hts hi_X6 hown hK hP 0 rfl rfl 7 (by decide) lk_25 rfl dX6_canRevoke_11 ?_
    refine lv_iload_n hx hb dX6_canRevoke_14 rfl (lv_at hl 1 rfl) ?_
    refine xald (x := Y 13 4 x.toNatClampNeg) hx hb hK hP 6 rfl hx0 rfl dX6_canRevoke_15 ?_
    refine lv_aload_n hx hb dX6_canRevoke_16 rfl (lv_at hl 0 rfl) ?_
    refine xget (C := RX6) (T := TX6) (N := 10) (ci := 6) (w := .ref (am 1)) hx hb hts hi_X6 hown hK hP 0 rfl rfl 0 (by decide) lk_7 rfl dX6_canRevoke_17 ?_
    refine lv_iconst (v := 0) hx hb dX6_canRevoke_20 (by decide) ?_
    refine xald (x := Y 0 14 0) hx hb hK hP 1 rfl (vp_in_lit (by decide)) (row_n _ (o := 0) (by decide)) dX6_canRevoke_21 ?_
    refine lv_icmp_eq (tgt := 27) hx hb dX6_canRevoke_22 (by decide) (fun c_22 => ?_) (fun c_22 => ?_)
    · refine lv_aload_n hx hb dX6_canRevoke_27 rfl (lv_at hl 0 rfl) ?_
      refine xget (C := RX6) (T := TX6) (N := 10) (ci := 6) (w := .ref (am 2)) hx hb hts hi_X6 hown hK hP 0 rfl rfl 3 (by decide) lk_13 rfl dX6_canRevoke_28 ?_
      refine lv_iload_n hx hb dX6_canRevoke_31 rfl (lv_at hl 1 rfl) ?_
      refine xald (x := Y 13 0 x.toNatClampNeg) hx hb hK hP 2 rfl hx0 rfl dX6_canRevoke_32 ?_
      refine lv_bipush (v := 8) hx hb dX6_canRevoke_33 (by decide) ?_
      refine lv_icmp_ne (tgt := 65) hx hb dX6_canRevoke_35 (by decide) (fun c_35 => ?_) (fun c_35 => ?_)
      · refine lv_aload_n hx hb dX6_canRevoke_65 rfl (lv_at hl 0 rfl) ?_
        refine xget (C := RX6) (T := TX6) (N := 10) (ci := 6) (w := .ref (am 2)) hx hb hts hi_X6 hown hK hP 0 rfl rfl 3 (by decide) lk_13 rfl dX6_canRevoke_66 ?_
        refine lv_iload_n hx hb dX6_canRevoke_69 rfl (lv_at hl 1 rfl) ?_
        refine xald (x := Y 13 0 x.toNatClampNeg) hx hb hK hP 2 rfl hx0 rfl dX6_canRevoke_70 ?_
        refine lv_iconst (v := 5) hx hb dX6_canRevoke_71 (by decide) ?_
        refine lv_icmp_ne (tgt := 97) hx hb dX6_canRevoke_72 (by decide) (fun c_72 => ?_) (fun c_72 => ?_)
        · refine lv_iconst (v := 0) hx hb dX6_canRevoke_97 (by decide) ?_
          exact retB0 hx hb hr hlocks dX6_canRevoke_98 (by first | exact fun z => z.1 c_7 | exact fun z => c_22 z.2.1 | exact fun z => z.2.2.elim (fun w => Int32.not_le.mpr c_54 w.2) (fun w => w.1 c_35) | exact fun z => z.2.2.elim (fun w => c_35 w.1) (fun w => Int32.not_lt.mpr c_90 w.2.2) | exact fun z => z.2.2.elim (fun w => c_35 w.1) (fun w => c_72 w.2.1))
        · have hq := h5 c_72
          refine lv_aload_n hx hb dX6_canRevoke_75 rfl (lv_at hl 0 rfl) ?_
          refine xget (C := RX6) (T := TX6) (N := 10) (ci := 6) (w := .ref (am 1)) hx hb hts hi_X6 hown hK hP 0 rfl rfl 0 (by decide) lk_7 rfl dX6_canRevoke_76 ?_
          refine lv_aload_n hx hb dX6_canRevoke_79 rfl (lv_at hl 0 rfl) ?_
          refine xget (C := RX6) (T := TX6) (N := 10) (ci := 6) (w := .ref (am 3)) hx hb hts hi_X6 hown hK hP 0 rfl rfl 4 (by decide) lk_16 rfl dX6_canRevoke_80 ?_
          refine lv_iload_n hx hb dX6_canRevoke_83 rfl (lv_at hl 1 rfl) ?_
          refine xald (x := Y 13 1 x.toNatClampNeg) hx hb hK hP 3 rfl hx0 rfl dX6_canRevoke_84 ?_
          refine lv_iconst (v := 1) hx hb dX6_canRevoke_85 (by decide) ?_
          refine callSE (As := [.int (Y 13 1 x.toNatClampNeg), .int 1]) (rest := [.ref (am 1)]) ⟨hx, hb, hml, hown, hts⟩ (c_X6_ofCommitment (Y 13 1 x.toNatClampNeg) 1) (va_cwS 2 hts gX6_canRevoke_X6_ofCommitment rfl rfl rfl (by decide +kernel) ⟨Nat.le_of_ble_eq_true rfl, Nat.le_of_ble_eq_true rfl⟩) hK hN rfl hl.1 rfl (Nat.le_of_ble_eq_true rfl) dX6_canRevoke_86 ⟨Nat.zero_le _, Nat.zero_le _⟩ ?_
          refine xald (x := qv (Y 0) 11 (Y 13 1 x.toNatClampNeg)) hx hb hK hP 1 rfl (oC_in (n := 1) (by assumption) (by decide)) (row_oC (n := 1) (by assumption) (by decide)) dX6_canRevoke_89 ?_
          refine lv_if_le (tgt := 97) hx hb dX6_canRevoke_90 (by decide) (fun c_90 => ?_) (fun c_90 => ?_)
          · refine lv_iconst (v := 0) hx hb dX6_canRevoke_97 (by decide) ?_
            exact retB0 hx hb hr hlocks dX6_canRevoke_98 (by first | exact fun z => z.1 c_7 | exact fun z => c_22 z.2.1 | exact fun z => z.2.2.elim (fun w => Int32.not_le.mpr c_54 w.2) (fun w => w.1 c_35) | exact fun z => z.2.2.elim (fun w => c_35 w.1) (fun w => Int32.not_lt.mpr c_90 w.2.2) | exact fun z => z.2.2.elim (fun w => c_35 w.1) (fun w => c_72 w.2.1))
          · refine lv_iconst (v := 1) hx hb dX6_canRevoke_93 (by decide) ?_
            refine lv_goto (tgt := 98) hx hb dX6_canRevoke_94 (by decide) ?_
            exact retB1 hx hb hr hlocks dX6_canRevoke_98 (by first | exact ⟨c_7, c_22, Or.inl ⟨c_35, Int32.not_lt.mp c_54⟩⟩ | exact ⟨c_7, c_22, Or.inr ⟨c_35, c_72, Int32.not_le.mp c_90⟩⟩)
      · have hh := h8 c_35
        refine lv_aload_n hx hb dX6_canRevoke_38 rfl (lv_at hl 0 rfl) ?_
        refine xget (C := RX6) (T := TX6) (N := 10) (ci := 6) (w := .ref (am 5)) hx hb hts hi_X6 hown hK hP 0 rfl rfl 6 (by decide) lk_22 rfl dX6_canRevoke_39 ?_
        refine lv_iload_n hx hb dX6_canRevoke_42 rfl (lv_at hl 1 rfl) ?_
        refine xald (x := Y 13 3 x.toNatClampNeg) hx hb hK hP 5 rfl hx0 rfl dX6_canRevoke_43 ?_
        refine lv_aload_n hx hb dX6_canRevoke_44 rfl (lv_at hl 0 rfl) ?_
        refine lv_aload_n hx hb dX6_canRevoke_45 rfl (lv_at hl 0 rfl) ?_
        refine xget (C := RX6) (T := TX6) (N := 10) (ci := 6) (w := .ref (am 4)) hx hb hts hi_X6 hown hK hP 0 rfl rfl 5 (by decide) lk_19 rfl dX6_canRevoke_46 ?_
        refine lv_iload_n hx hb dX6_canRevoke_49 rfl (lv_at hl 1 rfl) ?_
        refine xald (x := Y 13 2 x.toNatClampNeg) hx hb hK hP 4 rfl hx0 rfl dX6_canRevoke_50 ?_
        refine callE (As := [.int (Y 13 2 x.toNatClampNeg)]) (rest := [.int (Y 13 3 x.toNatClampNeg)]) ⟨hx, hb, hml, hown, hts⟩ (c_X6_free Y (Y 13 2 x.toNatClampNeg) (by assumption)) (cwV 1 hts gX6_canRevoke_X6_free rfl rfl rfl (by decide +kernel) ⟨Nat.le_of_ble_eq_true rfl, Nat.le_of_ble_eq_true rfl⟩) hK hN hP 0 rfl rfl rfl hl.1 rfl (Nat.le_of_ble_eq_true rfl) dX6_canRevoke_51 ⟨Nat.zero_le _, Nat.zero_le _⟩ ?_
        refine lv_icmp_gt (tgt := 61) hx hb dX6_canRevoke_54 (by decide) (fun c_54 => ?_) (fun c_54 => ?_)
        · refine lv_iconst (v := 0) hx hb dX6_canRevoke_61 (by decide) ?_
          refine lv_goto (tgt := 98) hx hb dX6_canRevoke_62 (by decide) ?_
          exact retB0 hx hb hr hlocks dX6_canRevoke_98 (by first | exact fun z => z.1 c_7 | exact fun z => c_22 z.2.1 | exact fun z => z.2.2.elim (fun w => Int32.not_le.mpr c_54 w.2) (fun w => w.1 c_35) | exact fun z => z.2.2.elim (fun w => c_35 w.1) (fun w => Int32.not_lt.mpr c_90 w.2.2) | exact fun z => z.2.2.elim (fun w => c_35 w.1) (fun w => c_72 w.2.1))
        · refine lv_iconst (v := 1) hx hb dX6_canRevoke_57 (by decide) ?_
          refine lv_goto (tgt := 98) hx hb dX6_canRevoke_58 (by decide) ?_
          exact retB1 hx hb hr hlocks dX6_canRevoke_98 (by first | exact ⟨c_7, c_22, Or.inl ⟨c_35, Int32.not_lt.mp c_54⟩⟩ | exact ⟨c_7, c_22, Or.inr ⟨c_35, c_72, Int32.not_le.mp c_90⟩⟩)
    · refine lv_iconst (v := 0) hx hb dX6_canRevoke_25 (by decide) ?_
      exact retB0 hx hb hr hlocks dX6_canRevoke_26 (by first | exact fun z => z.1 c_7 | exact fun z => c_22 z.2.1 | exact fun z => z.2.2.elim (fun w => Int32.not_le.mpr c_54 w.2) (fun w => w.1 c_35) | exact fun z => z.2.2.elim (fun w => c_35 w.1) (fun w => Int32.not_lt.mpr c_90 w.2.2) | exact fun z => z.2.2.elim (fun w => c_35 w.1) (fun w => c_72 w.2.1))
set_option maxHeartbeats 4000000 in
set_option maxRecDepth 100000 in
theorem c_X6_revoke {l : Launch} {D : va_G} {cI cR : ClassId} {am : Nat → Nat} (hdj : Dj 9 am) (Y : St) (n : Nat) (hn : n ≤ 12) (hd : Y 14 0 0 = nI n) {K : Int} (hok : Ok K (Y 0)) (i : Int32) (hrv : h_rv Y n) : WoE l D cI cR (Aw 9 am) (wM cI am Y) (wM cI am (N_revokeM Y n i)) yX6_revoke wsX6_revoke ({ frames := 3, cells := 0, slots := 0, locals := 68 } : Room) [.ref (am 0), .int i] (R_revokeM Y n i) := by
  refine OfW (cc := cX6_revoke) (maxL := 7) (ret := (some .int)) (by decide +kernel) rfl (Nat.le_of_ble_eq_true rfl) (fun p e s m below meth c hx hb hr hts hown hlocks hml hnm hP hK hN ls hl => ?_)
  have hl : lv_has ls 7 [(0, .ref (am 0)), (1, .int i)] := hl
  have lk_47 := hts (.fieldLink RX6 47 "HeadBudgetsModel" "deeds" "I") (by decide +kernel)
  have lk_13 := hts (.fieldLink RX6 13 "HeadBudgetsModel" "kinds" "[I") (by decide +kernel)
  have lk_16 := hts (.fieldLink RX6 16 "HeadBudgetsModel" "ones" "[I") (by decide +kernel)
  have lk_19 := hts (.fieldLink RX6 19 "HeadBudgetsModel" "others" "[I") (by decide +kernel)
  have lk_22 := hts (.fieldLink RX6 22 "HeadBudgetsModel" "amounts" "[I") (by decide +kernel)
  have lk_28 := hts (.fieldLink RX6 28 "HeadBudgetsModel" "revoked" "[I") (by decide +kernel)
  have lk_31 := hts (.fieldLink RX6 31 "HeadBudgetsModel" "numbers" "[I") (by decide +kernel)
  have lk_7 := hts (.fieldLink RX6 7 "HeadBudgetsModel" "row" "[I") (by decide +kernel)
  have hi_X6 : ∀ w ∈ wsX60, w ∈ wsX6_revoke := by decide +kernel
  have hS : va_S (Aw 9 am) s.heap s.heap [] := va_S.rf
  have hP : va_P D vwCl (wM cI am Y) s.heap := hP
  refine lv_iload_n hx hb dX6_revoke_0 rfl (lv_at hl 1 rfl) ?_
  refine lv_if_ge (tgt := 6) hx hb dX6_revoke_1 (by decide) (fun c_1 => ?_) (fun c_1 => ?_)
  · refine lv_iload_n hx hb dX6_revoke_6 rfl (lv_at hl 1 rfl) ?_
    refine lv_aload_n hx hb dX6_revoke_7 rfl (lv_at hl 0 rfl) ?_
    refine xget (C := RX6) (T := TX6) (N := 10) (ci := 6) (w := .int (Y 14 0 0)) hx hb hts hi_X6 hown hK hP 0 rfl rfl 1 (by decide) lk_47 rfl dX6_revoke_8 ?_
    refine lv_icmp_ge (tgt := 29) hx hb dX6_revoke_11 (by decide) (fun c_11 => ?_) (fun c_11 => ?_)
    · refine lv_bipush (v := (-2)) hx hb dX6_revoke_29 (by decide) ?_
      have hg : gRk Y n i = -2 := by unfold gRk; repeat (first | rw [ci_t c_1] | rw [ci_f c_1] | rw [ci_t c_11] | rw [ci_f c_11])
      have hZ : Y = N_revokeM Y n i := by
        exact (ci_f (by rw [hg]; decide)).symm
      exact retWE hx hb hr hlocks (by rw [← hZ]; exact hP) hS dX6_revoke_31 (opV_e hg (by decide))
    · obtain ⟨j, hjn, ei, ej⟩ := dIdx hd hn c_1 c_11
      have eij : i.toNatClampNeg = j := by rw [ei]; exact nI_c (by omega)
      obtain ⟨z0, ez0⟩ : ∃ z : Nat, z = n - 1 - j := ⟨_, rfl⟩
      rw [← ez0] at ej
      have ezi : z0 = n - 1 - i.toNatClampNeg := by rw [ez0, eij]
      have hz0 : z0 < n := by omega
      have ezz : (nI z0).toNatClampNeg = z0 := nI_c (by omega)
      have hx0 : vp_in (nI z0) 12 := in12 rfl (by omega)
      have hx8 : Y 13 0 (nI z0).toNatClampNeg = 8 → hin (Y 13 2 (nI z0).toNatClampNeg) := by rw [ezz]; exact fun z => ((hrv z0 hz0).1 z).2
      have hx5 : Y 13 0 (nI z0).toNatClampNeg = 5 → cin (Y 13 1 (nI z0).toNatClampNeg) := by rw [ezz]; exact fun z => ((hrv z0 hz0).2 z).1
      refine lv_aload_n hx hb dX6_revoke_14 rfl (lv_at hl 0 rfl) ?_
      refine lv_aload_n hx hb dX6_revoke_15 rfl (lv_at hl 0 rfl) ?_
      refine xget (C := RX6) (T := TX6) (N := 10) (ci := 6) (w := .int (Y 14 0 0)) hx hb hts hi_X6 hown hK hP 0 rfl rfl 1 (by decide) lk_47 rfl dX6_revoke_16 ?_
      refine lv_iconst (v := 1) hx hb dX6_revoke_19 (by decide) ?_
      refine lv_isub hx hb dX6_revoke_20 ?_
      refine lv_iload_n hx hb dX6_revoke_21 rfl (lv_at hl 1 rfl) ?_
      refine lv_isub hx hb dX6_revoke_22 ?_
      rw [ej]
      refine callB (As := [.int (nI z0)]) (rest := []) ⟨hx, hb, hml, hown, hts⟩ (c_X6_canRevoke Y (nI z0) hx0 hx8 hx5) (cwV 1 hts gX6_revoke_X6_canRevoke rfl rfl rfl (by decide +kernel) ⟨Nat.le_of_ble_eq_true rfl, Nat.le_of_ble_eq_true rfl⟩) hK hN hP 0 rfl rfl rfl hl.1 rfl (Nat.le_of_ble_eq_true rfl) dX6_revoke_23 ⟨Nat.zero_le _, Nat.zero_le _⟩ (fun c_23 => ?_) (fun c_23 => ?_)
      · have hcan : p_can Y (n - 1 - i.toNatClampNeg) := by rw [← ezi, ← ezz]; exact c_23
        refine lv_if_ne (tgt := 32) hx hb dX6_revoke_26 (by decide) (fun _ => ?_) (fun h9 => absurd h9 (by decide))
        refine lv_aload_n hx hb dX6_revoke_32 rfl (lv_at hl 0 rfl) ?_
        refine xget (C := RX6) (T := TX6) (N := 10) (ci := 6) (w := .int (Y 14 0 0)) hx hb hts hi_X6 hown hK hP 0 rfl rfl 1 (by decide) lk_47 rfl dX6_revoke_33 ?_
        refine lv_iconst (v := 1) hx hb dX6_revoke_36 (by decide) ?_
        refine lv_isub hx hb dX6_revoke_37 ?_
        refine lv_iload_n hx hb dX6_revoke_38 rfl (lv_at hl 1 rfl) ?_
        refine lv_isub hx hb dX6_revoke_39 ?_
        rw [ej]
        refine lv_istore_n (lv' := [(2, .int (nI z0)), (0, .ref (am 0)), (1, .int i)]) hx hb dX6_revoke_40 rfl hl (by decide) rfl (fun ls hl => ?_)
        refine lv_aload_n hx hb dX6_revoke_41 rfl (lv_at hl 1 rfl) ?_
        refine xget (C := RX6) (T := TX6) (N := 10) (ci := 6) (w := .ref (am 2)) hx hb hts hi_X6 hown hK hP 0 rfl rfl 3 (by decide) lk_13 rfl dX6_revoke_42 ?_
        refine lv_iload_n hx hb dX6_revoke_45 rfl (lv_at hl 0 rfl) ?_
        refine xald (x := Y 13 0 (nI z0).toNatClampNeg) hx hb hK hP 2 rfl hx0 rfl dX6_revoke_46 ?_
        refine lv_istore_n (lv' := [(3, .int (Y 13 0 (nI z0).toNatClampNeg)), (2, .int (nI z0)), (0, .ref (am 0)), (1, .int i)]) hx hb dX6_revoke_47 rfl hl (by decide) rfl (fun ls hl => ?_)
        refine lv_aload_n hx hb dX6_revoke_48 rfl (lv_at hl 2 rfl) ?_
        refine xget (C := RX6) (T := TX6) (N := 10) (ci := 6) (w := .ref (am 3)) hx hb hts hi_X6 hown hK hP 0 rfl rfl 4 (by decide) lk_16 rfl dX6_revoke_49 ?_
        refine lv_iload_n hx hb dX6_revoke_52 rfl (lv_at hl 1 rfl) ?_
        refine xald (x := Y 13 1 (nI z0).toNatClampNeg) hx hb hK hP 3 rfl hx0 rfl dX6_revoke_53 ?_
        refine lv_istore (lv' := [(4, .int (Y 13 1 (nI z0).toNatClampNeg)), (3, .int (Y 13 0 (nI z0).toNatClampNeg)), (2, .int (nI z0)), (0, .ref (am 0)), (1, .int i)]) hx hb dX6_revoke_54 hl (by decide) rfl (fun ls hl => ?_)
        refine lv_aload_n hx hb dX6_revoke_56 rfl (lv_at hl 3 rfl) ?_
        refine xget (C := RX6) (T := TX6) (N := 10) (ci := 6) (w := .ref (am 4)) hx hb hts hi_X6 hown hK hP 0 rfl rfl 5 (by decide) lk_19 rfl dX6_revoke_57 ?_
        refine lv_iload_n hx hb dX6_revoke_60 rfl (lv_at hl 2 rfl) ?_
        refine xald (x := Y 13 2 (nI z0).toNatClampNeg) hx hb hK hP 4 rfl hx0 rfl dX6_revoke_61 ?_
        refine lv_istore (lv' := [(5, .int (Y 13 2 (nI z0).toNatClampNeg)), (4, .int (Y 13 1 (nI z0).toNatClampNeg)), (3, .int (Y 13 0 (nI z0).toNatClampNeg)), (2, .int (nI z0)), (0, .ref (am 0)), (1, .int i)]) hx hb dX6_revoke_62 hl (by decide) rfl (fun ls hl => ?_)
        refine lv_aload_n hx hb dX6_revoke_64 rfl (lv_at hl 4 rfl) ?_
        refine xget (C := RX6) (T := TX6) (N := 10) (ci := 6) (w := .ref (am 5)) hx hb hts hi_X6 hown hK hP 0 rfl rfl 6 (by decide) lk_22 rfl dX6_revoke_65 ?_
        refine lv_iload_n hx hb dX6_revoke_68 rfl (lv_at hl 3 rfl) ?_
        refine xald (x := Y 13 3 (nI z0).toNatClampNeg) hx hb hK hP 5 rfl hx0 rfl dX6_revoke_69 ?_
        refine lv_istore (lv' := [(6, .int (Y 13 3 (nI z0).toNatClampNeg)), (5, .int (Y 13 2 (nI z0).toNatClampNeg)), (4, .int (Y 13 1 (nI z0).toNatClampNeg)), (3, .int (Y 13 0 (nI z0).toNatClampNeg)), (2, .int (nI z0)), (0, .ref (am 0)), (1, .int i)]) hx hb dX6_revoke_70 hl (by decide) rfl (fun ls hl => ?_)
        refine lv_aload_n hx hb dX6_revoke_72 rfl (lv_at hl 5 rfl) ?_
        refine xget (C := RX6) (T := TX6) (N := 10) (ci := 6) (w := .ref (am 7)) hx hb hts hi_X6 hown hK hP 0 rfl rfl 8 (by decide) lk_28 rfl dX6_revoke_73 ?_
        refine lv_iload_n hx hb dX6_revoke_76 rfl (lv_at hl 4 rfl) ?_
        refine lv_iconst (v := 1) hx hb dX6_revoke_77 (by decide) ?_
        refine xast hx hb hK hP (wM_D hdj) hS 7 rfl hx0 wM_a5 dX6_revoke_78 (fun H locs hP hS => ?_)
        obtain ⟨X_1, eX_1⟩ : ∃ Z : St, Z = u3 Y 13 5 (nI z0).toNatClampNeg 1 := ⟨_, rfl⟩
        rw [← eX_1] at hP
        have hd1 : X_1 14 0 0 = nI n := by rw [eX_1, u3_n _ _ _ _ _ (by omega)]; exact hd
        refine lv_aload_n hx hb dX6_revoke_79 rfl (lv_at hl 5 rfl) ?_
        refine lv_bipush (v := 10) hx hb dX6_revoke_80 (by decide) ?_
        refine lv_aload_n hx hb dX6_revoke_82 rfl (lv_at hl 5 rfl) ?_
        refine xget (C := RX6) (T := TX6) (N := 10) (ci := 6) (w := .ref (am 8)) hx hb hts hi_X6 hown hK hP 0 rfl rfl 9 (by decide) lk_31 rfl dX6_revoke_83 ?_
        refine lv_iload_n hx hb dX6_revoke_86 rfl (lv_at hl 4 rfl) ?_
        refine xald (x := X_1 13 6 (nI z0).toNatClampNeg) hx hb hK hP 8 rfl hx0 rfl dX6_revoke_87 ?_
        refine lv_iconst (v := 0) hx hb dX6_revoke_88 (by decide) ?_
        refine lv_iconst (v := 0) hx hb dX6_revoke_89 (by decide) ?_
        refine callWV (As := [.int 10, .int (X_1 13 6 (nI z0).toNatClampNeg), .int 0, .int 0]) (rest := []) ⟨hx, hb, hml, hown, hts⟩ (c_X6_remember hdj X_1 10 (X_1 13 6 (nI z0).toNatClampNeg) 0 0 n hn hd1) (cwV 4 hts gX6_revoke_X6_remember rfl rfl rfl (by decide +kernel) ⟨Nat.le_of_ble_eq_true rfl, Nat.le_of_ble_eq_true rfl⟩) hK hN hP 0 rfl rfl rfl hl.1 rfl (Nat.le_of_ble_eq_true rfl) dX6_revoke_90 ⟨Nat.zero_le _, Nat.zero_le _⟩ hS (fun _ h9 => h9) (fun H locs hP hS => ?_)
        obtain ⟨X_2, eX_2⟩ : ∃ Z : St, Z = N_remM X_1 n 10 (X_1 13 6 (nI z0).toNatClampNeg) 0 0 := ⟨_, rfl⟩
        rw [← eX_2] at hP
        refine lv_iload_n hx hb dX6_revoke_93 rfl (lv_at hl 3 rfl) ?_
        refine lv_iconst (v := 5) hx hb dX6_revoke_94 (by decide) ?_
        refine lv_icmp_ne (tgt := 105) hx hb dX6_revoke_95 (by decide) (fun c_95 => ?_) (fun c_95 => ?_)
        · have hk8 : Y 13 0 (nI z0).toNatClampNeg = 8 := c_23.2.2.elim (fun w => w.1) (fun w => absurd w.2.1 c_95)
          have hh8 := hx8 hk8
          have hh7 : hin (Y 13 1 (nI z0).toNatClampNeg) := by rw [ezz] at hk8 ⊢; exact ((hrv z0 hz0).1 hk8).1
          refine lv_aload_n hx hb dX6_revoke_105 rfl (lv_at hl 5 rfl) ?_
          refine lv_iload hx hb dX6_revoke_106 (lv_at hl 1 rfl) ?_
          refine lv_iload hx hb dX6_revoke_108 (lv_at hl 2 rfl) ?_
          refine lv_iload hx hb dX6_revoke_110 (lv_at hl 0 rfl) ?_
          refine callWV (As := [.int (Y 13 2 (nI z0).toNatClampNeg), .int (Y 13 1 (nI z0).toNatClampNeg), .int (Y 13 3 (nI z0).toNatClampNeg)]) (rest := []) ⟨hx, hb, hml, hown, hts⟩ (c_X6_moves hdj X_2 (Y 13 2 (nI z0).toNatClampNeg) (Y 13 1 (nI z0).toNatClampNeg) (Y 13 3 (nI z0).toNatClampNeg) (by assumption) (by assumption)) (cwV 3 hts gX6_revoke_X6_moves rfl rfl rfl (by decide +kernel) ⟨Nat.le_of_ble_eq_true rfl, Nat.le_of_ble_eq_true rfl⟩) hK hN hP 0 rfl rfl rfl hl.1 rfl (Nat.le_of_ble_eq_true rfl) dX6_revoke_112 ⟨Nat.zero_le _, Nat.zero_le _⟩ hS (fun _ h9 => h9) (fun H locs hP hS => ?_)
          obtain ⟨X_3, eX_3⟩ : ∃ Z : St, Z = sg X_2 0 (m_mv (X_2 0) (Y 13 2 (nI z0).toNatClampNeg) (Y 13 1 (nI z0).toNatClampNeg) (Y 13 3 (nI z0).toNatClampNeg)) := ⟨_, rfl⟩
          rw [← eX_3] at hP
          refine lv_aload_n hx hb dX6_revoke_115 rfl (lv_at hl 5 rfl) ?_
          refine xget (C := RX6) (T := TX6) (N := 10) (ci := 6) (w := .ref (am 1)) hx hb hts hi_X6 hown hK hP 0 rfl rfl 0 (by decide) lk_7 rfl dX6_revoke_116 ?_
          refine lv_iload hx hb dX6_revoke_119 (lv_at hl 2 rfl) ?_
          refine lv_bipush (v := 7) hx hb dX6_revoke_121 (by decide) ?_
          refine callSE (As := [.int (Y 13 1 (nI z0).toNatClampNeg), .int 7]) (rest := [.ref (am 1)]) ⟨hx, hb, hml, hown, hts⟩ (c_X6_of (Y 13 1 (nI z0).toNatClampNeg) 7) (va_cwS 2 hts gX6_revoke_X6_of rfl rfl rfl (by decide +kernel) ⟨Nat.le_of_ble_eq_true rfl, Nat.le_of_ble_eq_true rfl⟩) hK hN rfl hl.1 rfl (Nat.le_of_ble_eq_true rfl) dX6_revoke_123 ⟨Nat.zero_le _, Nat.zero_le _⟩ ?_
          refine lv_dup2_11 hx hb dX6_revoke_126 rfl rfl ?_
          refine xald (x := qv (X_3 0) 7 (Y 13 1 (nI z0).toNatClampNeg)) hx hb hK hP 1 rfl (oH_in (n := 7) (by assumption) (by decide)) (row_oH (n := 7) (by assumption) (by decide)) dX6_revoke_127 ?_
          refine lv_iload hx hb dX6_revoke_128 (lv_at hl 0 rfl) ?_
          refine lv_isub hx hb dX6_revoke_130 ?_
          refine xast hx hb hK hP (wM_D hdj) hS 1 rfl (oH_in (n := 7) (by assumption) (by decide)) (wM_oH (n := 7) (by assumption) (by decide)) dX6_revoke_131 (fun H locs hP hS => ?_)
          obtain ⟨X_4, eX_4⟩ : ∃ Z : St, Z = u3 X_3 0 7 (Y 13 1 (nI z0).toNatClampNeg).toNatClampNeg ((qv (X_3 0) 7 (Y 13 1 (nI z0).toNatClampNeg)) - (Y 13 3 (nI z0).toNatClampNeg)) := ⟨_, rfl⟩
          rw [← eX_4] at hP
          refine lv_iload hx hb dX6_revoke_132 (lv_at hl 0 rfl) ?_
          have hg : gRk Y n i = 0 := by unfold gRk; repeat (first | rw [ci_t c_1] | rw [ci_f c_1] | rw [ci_t c_11] | rw [ci_f c_11] | rw [ci_t hcan] | rw [ci_f hcan])
          have hZ : X_4 = N_revokeM Y n i := by
            unfold N_revokeM
            rw [ci_t hg, ← ezi]
            unfold N_rkM
            rw [← ezz]
            first | rw [ci_t c_95] | rw [ci_f c_95]
            subst eX_4 eX_3 eX_2 eX_1
            simp only [u3_sg, sg_sg, sg_g, N_remM_0]
            rfl
          exact retWE hx hb hr hlocks (by rw [← hZ]; exact hP) hS dX6_revoke_134 (by unfold R_revokeM; rw [opV_0 hg, ← ezi]; unfold R_rkM; first | (rw [ezz, ci_t (show Y 13 0 z0 = 5 by rw [← ezz]; exact c_95), eX_2, N_remM_0, eX_1]; first | done | rfl) | (rw [ezz, ci_f (show ¬ Y 13 0 z0 = 5 by rw [← ezz]; exact c_95)]; first | done | rfl))
        · have hq := hx5 c_95
          have hh9 : hin (qv (X_2 0) 10 (Y 13 1 (nI z0).toNatClampNeg)) := by
            rw [eX_2, N_remM_0, eX_1, u3_n _ _ _ _ _ (by omega), ezz]
            exact ((hrv z0 hz0).2 (by rw [← ezz]; exact c_95)).2
          refine lv_aload_n hx hb dX6_revoke_98 rfl (lv_at hl 5 rfl) ?_
          refine lv_iload hx hb dX6_revoke_99 (lv_at hl 2 rfl) ?_
          refine callWE (As := [.int (Y 13 1 (nI z0).toNatClampNeg)]) (rest := []) ⟨hx, hb, hml, hown, hts⟩ (c_X6_free0 hdj X_2 (Y 13 1 (nI z0).toNatClampNeg) (by assumption) (by assumption)) (cwV 1 hts gX6_revoke_X6_free0 rfl rfl rfl (by decide +kernel) ⟨Nat.le_of_ble_eq_true rfl, Nat.le_of_ble_eq_true rfl⟩) hK hN hP 0 rfl rfl rfl hl.1 rfl (Nat.le_of_ble_eq_true rfl) dX6_revoke_101 ⟨Nat.zero_le _, Nat.zero_le _⟩ hS (fun _ h9 => h9) (fun H locs hP hS _ _ => ?_)
          obtain ⟨X_5, eX_5⟩ : ∃ Z : St, Z = sg X_2 0 (m_free0 (X_2 0) (Y 13 1 (nI z0).toNatClampNeg)) := ⟨_, rfl⟩
          rw [← eX_5] at hP
          have hg : gRk Y n i = 0 := by unfold gRk; repeat (first | rw [ci_t c_1] | rw [ci_f c_1] | rw [ci_t c_11] | rw [ci_f c_11] | rw [ci_t hcan] | rw [ci_f hcan])
          have hZ : X_5 = N_revokeM Y n i := by
            unfold N_revokeM
            rw [ci_t hg, ← ezi]
            unfold N_rkM
            rw [← ezz]
            first | rw [ci_t c_95] | rw [ci_f c_95]
            subst eX_5 eX_2 eX_1
            simp only [u3_sg, sg_sg, sg_g, N_remM_0]
            rfl
          exact retWE hx hb hr hlocks (by rw [← hZ]; exact hP) hS dX6_revoke_104 (by unfold R_revokeM; rw [opV_0 hg, ← ezi]; unfold R_rkM; first | (rw [ezz, ci_t (show Y 13 0 z0 = 5 by rw [← ezz]; exact c_95), eX_2, N_remM_0, eX_1]; first | done | rfl) | (rw [ezz, ci_f (show ¬ Y 13 0 z0 = 5 by rw [← ezz]; exact c_95)]; first | done | rfl))
      · have hcan : ¬ p_can Y (n - 1 - i.toNatClampNeg) := by rw [← ezi, ← ezz]; exact c_23
        refine lv_if_ne (tgt := 32) hx hb dX6_revoke_26 (by decide) (fun h9 => absurd (by decide) h9) (fun _ => ?_)
        refine lv_bipush (v := (-2)) hx hb dX6_revoke_29 (by decide) ?_
        have hg : gRk Y n i = -2 := by unfold gRk; repeat (first | rw [ci_t c_1] | rw [ci_f c_1] | rw [ci_t c_11] | rw [ci_f c_11] | rw [ci_t hcan] | rw [ci_f hcan])
        have hZ : Y = N_revokeM Y n i := by
          exact (ci_f (by rw [hg]; decide)).symm
        exact retWE hx hb hr hlocks (by rw [← hZ]; exact hP) hS dX6_revoke_31 (opV_e hg (by decide))
  · refine lv_iconst (v := (-1)) hx hb dX6_revoke_4 (by decide) ?_
    have hg : gRk Y n i = -1 := by unfold gRk; repeat (first | rw [ci_t c_1] | rw [ci_f c_1])
    have hZ : Y = N_revokeM Y n i := by
      exact (ci_f (by rw [hg]; decide)).symm
    exact retWE hx hb hr hlocks (by rw [← hZ]; exact hP) hS dX6_revoke_5 (opV_e hg (by decide))
