/-! THE LAW's acts -/
set_option maxHeartbeats 4000000 in
set_option maxRecDepth 100000 in
theorem c_L_acts {l : Launch} {D : va_G} {cI cR : ClassId} {ad : Nat → Nat} (hdj : Dj 236 ad) (X : St) {K : Int} (v : GX K X) (hB : K ≤ 10000000) (y : Int32) : WoS l D cI cR ad X yL_acts wsL_acts ({ frames := 7, cells := 0, slots := 0, locals := 196 } : Room) [.ref (ad 233), .int y] (fun r Z => StpG (K + 100000) X Z r) := by
  refine OfW (cc := cL_acts) (maxL := 6) (ret := (some .int)) (by decide +kernel) rfl (Nat.le_of_ble_eq_true rfl) (fun p e s m below meth c hx hb hr hts hown hlocks hml hnm hP hK hN ls hl => ?_)
  have hl : lv_has ls 6 [(0, .ref (ad 233)), (1, .int y)] := hl
  have hS : va_S (Aw 236 ad) s.heap s.heap [] := va_S.rf
  have hP : va_P D vwCl (wC cI cR ad X) s.heap := hP
  have g := v.gd
  have o := g.1
  refine lv_aload_n hx hb dL_acts_0 rfl (lv_at hl 0 rfl) ?_
  refine lv_iconst (v := 1) hx hb dL_acts_1 (by decide) ?_
  refine callE (As := [.int 1]) (rest := []) ⟨hx, hb, hml, hown, hts⟩ (c_X5_count X 1) (cwV 1 hts gL_acts_X5_count rfl rfl rfl (by decide +kernel) ⟨Nat.le_of_ble_eq_true rfl, Nat.le_of_ble_eq_true rfl⟩) hK hN hP 233 g0_233 rfl rfl hl.1 rfl (Nat.le_of_ble_eq_true rfl) dL_acts_2 ⟨Nat.zero_le _, Nat.zero_le _⟩ ?_
  refine lv_istore_n (lv' := [(2, .int (v_count (X 0) (X 14 0 1) 1)), (0, .ref (ad 233)), (1, .int y)]) hx hb dL_acts_5 rfl hl (by decide) rfl (fun ls hl => ?_)
  have hj_30 : ∀ (x3 : Int32), ∀ ls : Array Slot, lv_has ls 6 [(0, .ref (ad 233)), (1, .int y), (2, .int (v_count (X 0) (X 14 0 1) 1)), (3, .int x3)] → W p l e ({ frames := 7, cells := 0, slots := 0, locals := 196 } : Room) s m ([.ref (ad 233), .int y]).toArray below meth c s.heap [] 0 0 (MQ below (va_Qi (S := St) (fun r Z => StpG (K + 100000) X Z r) (fun Z t => va_P D vwCl (wC cI cR ad Z) t.heap) (Aw 236 ad)) ([.ref (ad 233), .int y]).toArray s 0 0 (Aw 236 ad)) (F0 m 30 ls []) := by
    intro x3  ls hl
    refine lv_iload_n hx hb dL_acts_30 rfl (lv_at hl 1 rfl) ?_
    refine lv_bipush (v := 8) hx hb dL_acts_31 (by decide) ?_
    refine lv_ishr hx hb dL_acts_33 ?_
    refine lv_iload_n hx hb dL_acts_34 rfl (lv_at hl 2 rfl) ?_
    refine callSP (As := [.int (y >>> (8 &&& 31)), .int (v_count (X 0) (X 14 0 1) 1)]) (rest := []) ⟨hx, hb, hml, hown, hts⟩ (c_L_low (y >>> (8 &&& 31)) (v_count (X 0) (X 14 0 1) 1) (cnt_pos o)) (va_cwS 2 hts gL_acts_L_low rfl rfl rfl (by decide +kernel) ⟨Nat.le_of_ble_eq_true rfl, Nat.le_of_ble_eq_true rfl⟩) hK hN nilP rfl hl.1 rfl (Nat.le_of_ble_eq_true rfl) dL_acts_35 ⟨Nat.zero_le _, Nat.zero_le _⟩ (fun y_35 hy_35 => ?_)
    refine lv_istore (lv' := [(4, .int y_35), (0, .ref (ad 233)), (1, .int y), (2, .int (v_count (X 0) (X 14 0 1) 1)), (3, .int x3)]) hx hb dL_acts_38 hl (by decide) rfl (fun ls hl => ?_)
    refine lv_iload_n hx hb dL_acts_40 rfl (lv_at hl 2 rfl) ?_
    refine lv_iconst (v := 4) hx hb dL_acts_41 (by decide) ?_
    refine lv_ishr hx hb dL_acts_42 ?_
    refine lv_iconst (v := 1) hx hb dL_acts_43 (by decide) ?_
    refine lv_aload_n hx hb dL_acts_44 rfl (lv_at hl 1 rfl) ?_
    refine lv_iconst (v := 2) hx hb dL_acts_45 (by decide) ?_
    refine callE (As := [.int 2]) (rest := [.int 1, .int (y >>> (4 &&& 31))]) ⟨hx, hb, hml, hown, hts⟩ (c_X5_count X 2) (cwV 1 hts gL_acts_X5_count rfl rfl rfl (by decide +kernel) ⟨Nat.le_of_ble_eq_true rfl, Nat.le_of_ble_eq_true rfl⟩) hK hN hP 233 g0_233 rfl rfl hl.1 rfl (Nat.le_of_ble_eq_true rfl) dL_acts_46 ⟨Nat.zero_le _, Nat.zero_le _⟩ ?_
    refine lv_iadd hx hb dL_acts_49 ?_
    refine callSP (As := [.int (y >>> (4 &&& 31)), .int (1 + (v_count (X 0) (X 14 0 1) 2))]) (rest := []) ⟨hx, hb, hml, hown, hts⟩ (c_L_low (y >>> (4 &&& 31)) (1 + (v_count (X 0) (X 14 0 1) 2)) (cnt2_pos o)) (va_cwS 2 hts gL_acts_L_low rfl rfl rfl (by decide +kernel) ⟨Nat.le_of_ble_eq_true rfl, Nat.le_of_ble_eq_true rfl⟩) hK hN nilP rfl hl.1 rfl (Nat.le_of_ble_eq_true rfl) dL_acts_50 ⟨Nat.zero_le _, Nat.zero_le _⟩ (fun y_50 hy_50 => ?_)
    refine lv_istore (lv' := [(5, .int y_50), (4, .int y_35), (0, .ref (ad 233)), (1, .int y), (2, .int (v_count (X 0) (X 14 0 1) 1)), (3, .int x3)]) hx hb dL_acts_53 hl (by decide) rfl (fun ls hl => ?_)
    refine lv_iload_n hx hb dL_acts_55 rfl (lv_at hl 3 rfl) ?_
    refine lv_bipush (v := 20) hx hb dL_acts_56 (by decide) ?_
    refine callSP (As := [.int y, .int 20]) (rest := []) ⟨hx, hb, hml, hown, hts⟩ (c_L_low y 20 (by decide)) (va_cwS 2 hts gL_acts_L_low rfl rfl rfl (by decide +kernel) ⟨Nat.le_of_ble_eq_true rfl, Nat.le_of_ble_eq_true rfl⟩) hK hN nilP rfl hl.1 rfl (Nat.le_of_ble_eq_true rfl) dL_acts_58 ⟨Nat.zero_le _, Nat.zero_le _⟩ (fun y_58 hy_58 => ?_)
    by_cases s_61_0 : y_58 = 0
    · refine lv_tableIn (off := 91) (tgt := 152) hx hb dL_acts_61 (by rw [s_61_0]; decide) (by rw [s_61_0]; decide) (by rw [s_61_0]; rfl) (by decide) ?_
      refine lv_aload_n hx hb dL_acts_152 rfl (lv_at hl 2 rfl) ?_
      refine lv_iload_n hx hb dL_acts_153 rfl (lv_at hl 5 rfl) ?_
      refine lv_iload_n hx hb dL_acts_154 rfl (lv_at hl 3 rfl) ?_
      refine lv_bipush (v := 9) hx hb dL_acts_155 (by decide) ?_
      refine lv_ishr hx hb dL_acts_157 ?_
      refine lv_bipush (v := 11) hx hb dL_acts_158 (by decide) ?_
      refine callSP (As := [.int (y >>> (9 &&& 31)), .int 11]) (rest := [.int x3, .ref (ad 233)]) ⟨hx, hb, hml, hown, hts⟩ (c_L_low (y >>> (9 &&& 31)) 11 (by decide)) (va_cwS 2 hts gL_acts_L_low rfl rfl rfl (by decide +kernel) ⟨Nat.le_of_ble_eq_true rfl, Nat.le_of_ble_eq_true rfl⟩) hK hN nilP rfl hl.1 rfl (Nat.le_of_ble_eq_true rfl) dL_acts_160 ⟨Nat.zero_le _, Nat.zero_le _⟩ (fun y_160 hy_160 => ?_)
      refine callWE (As := [.int x3, .int y_160]) (rest := []) ⟨hx, hb, hml, hown, hts⟩ (c_X5_make hdj X x3 y_160) (cwV 2 hts gL_acts_X5_make rfl rfl rfl (by decide +kernel) ⟨Nat.le_of_ble_eq_true rfl, Nat.le_of_ble_eq_true rfl⟩) hK hN hP 233 g0_233 rfl rfl hl.1 rfl (Nat.le_of_ble_eq_true rfl) dL_acts_163 ⟨Nat.zero_le _, Nat.zero_le _⟩ hS (fun _ h9 => h9) (fun H locs hP hS _ _ => ?_)
      obtain ⟨X_1, eX_1⟩ : ∃ Zn : St, Zn = opX X (g_make (X 0) x3 y_160) 0 (-9) (-9) 0 (n_make (X 0) x3 y_160) := ⟨_, rfl⟩
      rw [← eX_1] at hP
      exact retS hx hb hr hlocks hP hS dL_acts_166 (by rw [eX_1]; exact stp_make v hB)
    by_cases s_61_1 : y_58 = 1
    · refine lv_tableIn (off := 91) (tgt := 152) hx hb dL_acts_61 (by rw [s_61_1]; decide) (by rw [s_61_1]; decide) (by rw [s_61_1]; rfl) (by decide) ?_
      refine lv_aload_n hx hb dL_acts_152 rfl (lv_at hl 2 rfl) ?_
      refine lv_iload_n hx hb dL_acts_153 rfl (lv_at hl 5 rfl) ?_
      refine lv_iload_n hx hb dL_acts_154 rfl (lv_at hl 3 rfl) ?_
      refine lv_bipush (v := 9) hx hb dL_acts_155 (by decide) ?_
      refine lv_ishr hx hb dL_acts_157 ?_
      refine lv_bipush (v := 11) hx hb dL_acts_158 (by decide) ?_
      refine callSP (As := [.int (y >>> (9 &&& 31)), .int 11]) (rest := [.int x3, .ref (ad 233)]) ⟨hx, hb, hml, hown, hts⟩ (c_L_low (y >>> (9 &&& 31)) 11 (by decide)) (va_cwS 2 hts gL_acts_L_low rfl rfl rfl (by decide +kernel) ⟨Nat.le_of_ble_eq_true rfl, Nat.le_of_ble_eq_true rfl⟩) hK hN nilP rfl hl.1 rfl (Nat.le_of_ble_eq_true rfl) dL_acts_160 ⟨Nat.zero_le _, Nat.zero_le _⟩ (fun y_160 hy_160 => ?_)
      refine callWE (As := [.int x3, .int y_160]) (rest := []) ⟨hx, hb, hml, hown, hts⟩ (c_X5_make hdj X x3 y_160) (cwV 2 hts gL_acts_X5_make rfl rfl rfl (by decide +kernel) ⟨Nat.le_of_ble_eq_true rfl, Nat.le_of_ble_eq_true rfl⟩) hK hN hP 233 g0_233 rfl rfl hl.1 rfl (Nat.le_of_ble_eq_true rfl) dL_acts_163 ⟨Nat.zero_le _, Nat.zero_le _⟩ hS (fun _ h9 => h9) (fun H locs hP hS _ _ => ?_)
      obtain ⟨X_2, eX_2⟩ : ∃ Zn : St, Zn = opX X (g_make (X 0) x3 y_160) 0 (-9) (-9) 0 (n_make (X 0) x3 y_160) := ⟨_, rfl⟩
      rw [← eX_2] at hP
      exact retS hx hb hr hlocks hP hS dL_acts_166 (by rw [eX_2]; exact stp_make v hB)
    by_cases s_61_2 : y_58 = 2
    · refine lv_tableIn (off := 106) (tgt := 167) hx hb dL_acts_61 (by rw [s_61_2]; decide) (by rw [s_61_2]; decide) (by rw [s_61_2]; rfl) (by decide) ?_
      refine lv_aload_n hx hb dL_acts_167 rfl (lv_at hl 2 rfl) ?_
      refine lv_iload_n hx hb dL_acts_168 rfl (lv_at hl 5 rfl) ?_
      refine lv_iconst (v := 1) hx hb dL_acts_169 (by decide) ?_
      refine lv_iload_n hx hb dL_acts_170 rfl (lv_at hl 3 rfl) ?_
      refine lv_bipush (v := 9) hx hb dL_acts_171 (by decide) ?_
      refine lv_ishr hx hb dL_acts_173 ?_
      refine lv_sipush (v := 9000) hx hb dL_acts_174 (by decide) ?_
      refine callSP (As := [.int (y >>> (9 &&& 31)), .int 9000]) (rest := [.int 1, .int x3, .ref (ad 233)]) ⟨hx, hb, hml, hown, hts⟩ (c_L_low (y >>> (9 &&& 31)) 9000 (by decide)) (va_cwS 2 hts gL_acts_L_low rfl rfl rfl (by decide +kernel) ⟨Nat.le_of_ble_eq_true rfl, Nat.le_of_ble_eq_true rfl⟩) hK hN nilP rfl hl.1 rfl (Nat.le_of_ble_eq_true rfl) dL_acts_177 ⟨Nat.zero_le _, Nat.zero_le _⟩ (fun y_177 hy_177 => ?_)
      refine lv_iadd hx hb dL_acts_180 ?_
      refine callWE (As := [.int x3, .int (1 + y_177)]) (rest := []) ⟨hx, hb, hml, hown, hts⟩ (c_X5_allot hdj X x3 (1 + y_177)) (cwV 2 hts gL_acts_X5_allot rfl rfl rfl (by decide +kernel) ⟨Nat.le_of_ble_eq_true rfl, Nat.le_of_ble_eq_true rfl⟩) hK hN hP 233 g0_233 rfl rfl hl.1 rfl (Nat.le_of_ble_eq_true rfl) dL_acts_181 ⟨Nat.zero_le _, Nat.zero_le _⟩ hS (fun _ h9 => h9) (fun H locs hP hS _ _ => ?_)
      obtain ⟨X_3, eX_3⟩ : ∃ Zn : St, Zn = opX X (g_allot (X 0) x3 (1 + y_177)) 1 (-9) (-9) 0 (n_allot (X 0) x3 (1 + y_177)) := ⟨_, rfl⟩
      rw [← eX_3] at hP
      exact retS hx hb hr hlocks hP hS dL_acts_184 (by rw [eX_3]; exact stp_allot v hB)
    by_cases s_61_3 : y_58 = 3
    · refine lv_tableIn (off := 106) (tgt := 167) hx hb dL_acts_61 (by rw [s_61_3]; decide) (by rw [s_61_3]; decide) (by rw [s_61_3]; rfl) (by decide) ?_
      refine lv_aload_n hx hb dL_acts_167 rfl (lv_at hl 2 rfl) ?_
      refine lv_iload_n hx hb dL_acts_168 rfl (lv_at hl 5 rfl) ?_
      refine lv_iconst (v := 1) hx hb dL_acts_169 (by decide) ?_
      refine lv_iload_n hx hb dL_acts_170 rfl (lv_at hl 3 rfl) ?_
      refine lv_bipush (v := 9) hx hb dL_acts_171 (by decide) ?_
      refine lv_ishr hx hb dL_acts_173 ?_
      refine lv_sipush (v := 9000) hx hb dL_acts_174 (by decide) ?_
      refine callSP (As := [.int (y >>> (9 &&& 31)), .int 9000]) (rest := [.int 1, .int x3, .ref (ad 233)]) ⟨hx, hb, hml, hown, hts⟩ (c_L_low (y >>> (9 &&& 31)) 9000 (by decide)) (va_cwS 2 hts gL_acts_L_low rfl rfl rfl (by decide +kernel) ⟨Nat.le_of_ble_eq_true rfl, Nat.le_of_ble_eq_true rfl⟩) hK hN nilP rfl hl.1 rfl (Nat.le_of_ble_eq_true rfl) dL_acts_177 ⟨Nat.zero_le _, Nat.zero_le _⟩ (fun y_177 hy_177 => ?_)
      refine lv_iadd hx hb dL_acts_180 ?_
      refine callWE (As := [.int x3, .int (1 + y_177)]) (rest := []) ⟨hx, hb, hml, hown, hts⟩ (c_X5_allot hdj X x3 (1 + y_177)) (cwV 2 hts gL_acts_X5_allot rfl rfl rfl (by decide +kernel) ⟨Nat.le_of_ble_eq_true rfl, Nat.le_of_ble_eq_true rfl⟩) hK hN hP 233 g0_233 rfl rfl hl.1 rfl (Nat.le_of_ble_eq_true rfl) dL_acts_181 ⟨Nat.zero_le _, Nat.zero_le _⟩ hS (fun _ h9 => h9) (fun H locs hP hS _ _ => ?_)
      obtain ⟨X_4, eX_4⟩ : ∃ Zn : St, Zn = opX X (g_allot (X 0) x3 (1 + y_177)) 1 (-9) (-9) 0 (n_allot (X 0) x3 (1 + y_177)) := ⟨_, rfl⟩
      rw [← eX_4] at hP
      exact retS hx hb hr hlocks hP hS dL_acts_184 (by rw [eX_4]; exact stp_allot v hB)
    by_cases s_61_4 : y_58 = 4
    · refine lv_tableIn (off := 106) (tgt := 167) hx hb dL_acts_61 (by rw [s_61_4]; decide) (by rw [s_61_4]; decide) (by rw [s_61_4]; rfl) (by decide) ?_
      refine lv_aload_n hx hb dL_acts_167 rfl (lv_at hl 2 rfl) ?_
      refine lv_iload_n hx hb dL_acts_168 rfl (lv_at hl 5 rfl) ?_
      refine lv_iconst (v := 1) hx hb dL_acts_169 (by decide) ?_
      refine lv_iload_n hx hb dL_acts_170 rfl (lv_at hl 3 rfl) ?_
      refine lv_bipush (v := 9) hx hb dL_acts_171 (by decide) ?_
      refine lv_ishr hx hb dL_acts_173 ?_
      refine lv_sipush (v := 9000) hx hb dL_acts_174 (by decide) ?_
      refine callSP (As := [.int (y >>> (9 &&& 31)), .int 9000]) (rest := [.int 1, .int x3, .ref (ad 233)]) ⟨hx, hb, hml, hown, hts⟩ (c_L_low (y >>> (9 &&& 31)) 9000 (by decide)) (va_cwS 2 hts gL_acts_L_low rfl rfl rfl (by decide +kernel) ⟨Nat.le_of_ble_eq_true rfl, Nat.le_of_ble_eq_true rfl⟩) hK hN nilP rfl hl.1 rfl (Nat.le_of_ble_eq_true rfl) dL_acts_177 ⟨Nat.zero_le _, Nat.zero_le _⟩ (fun y_177 hy_177 => ?_)
      refine lv_iadd hx hb dL_acts_180 ?_
      refine callWE (As := [.int x3, .int (1 + y_177)]) (rest := []) ⟨hx, hb, hml, hown, hts⟩ (c_X5_allot hdj X x3 (1 + y_177)) (cwV 2 hts gL_acts_X5_allot rfl rfl rfl (by decide +kernel) ⟨Nat.le_of_ble_eq_true rfl, Nat.le_of_ble_eq_true rfl⟩) hK hN hP 233 g0_233 rfl rfl hl.1 rfl (Nat.le_of_ble_eq_true rfl) dL_acts_181 ⟨Nat.zero_le _, Nat.zero_le _⟩ hS (fun _ h9 => h9) (fun H locs hP hS _ _ => ?_)
      obtain ⟨X_5, eX_5⟩ : ∃ Zn : St, Zn = opX X (g_allot (X 0) x3 (1 + y_177)) 1 (-9) (-9) 0 (n_allot (X 0) x3 (1 + y_177)) := ⟨_, rfl⟩
      rw [← eX_5] at hP
      exact retS hx hb hr hlocks hP hS dL_acts_184 (by rw [eX_5]; exact stp_allot v hB)
    by_cases s_61_5 : y_58 = 5
    · refine lv_tableIn (off := 124) (tgt := 185) hx hb dL_acts_61 (by rw [s_61_5]; decide) (by rw [s_61_5]; decide) (by rw [s_61_5]; rfl) (by decide) ?_
      refine lv_aload_n hx hb dL_acts_185 rfl (lv_at hl 2 rfl) ?_
      refine lv_iload_n hx hb dL_acts_186 rfl (lv_at hl 5 rfl) ?_
      refine lv_iload_n hx hb dL_acts_187 rfl (lv_at hl 3 rfl) ?_
      refine lv_bipush (v := 9) hx hb dL_acts_188 (by decide) ?_
      refine lv_ishr hx hb dL_acts_190 ?_
      refine lv_iconst (v := 1) hx hb dL_acts_191 (by decide) ?_
      refine lv_iand hx hb dL_acts_192 ?_
      refine callWE (As := [.int x3, .int ((y >>> (9 &&& 31)) &&& 1)]) (rest := []) ⟨hx, hb, hml, hown, hts⟩ (c_X5_freeze hdj X x3 ((y >>> (9 &&& 31)) &&& 1)) (cwV 2 hts gL_acts_X5_freeze rfl rfl rfl (by decide +kernel) ⟨Nat.le_of_ble_eq_true rfl, Nat.le_of_ble_eq_true rfl⟩) hK hN hP 233 g0_233 rfl rfl hl.1 rfl (Nat.le_of_ble_eq_true rfl) dL_acts_193 ⟨Nat.zero_le _, Nat.zero_le _⟩ hS (fun _ h9 => h9) (fun H locs hP hS _ _ => ?_)
      obtain ⟨X_6, eX_6⟩ : ∃ Zn : St, Zn = opX X (g_freeze (X 0) x3 ((y >>> (9 &&& 31)) &&& 1)) 2 (-9) (-9) 0 (n_freeze (X 0) x3 ((y >>> (9 &&& 31)) &&& 1)) := ⟨_, rfl⟩
      rw [← eX_6] at hP
      exact retS hx hb hr hlocks hP hS dL_acts_196 (by rw [eX_6]; exact stp_freeze v hB)
    by_cases s_61_6 : y_58 = 6
    · refine lv_tableIn (off := 136) (tgt := 197) hx hb dL_acts_61 (by rw [s_61_6]; decide) (by rw [s_61_6]; decide) (by rw [s_61_6]; rfl) (by decide) ?_
      refine lv_aload_n hx hb dL_acts_197 rfl (lv_at hl 2 rfl) ?_
      refine lv_iload_n hx hb dL_acts_198 rfl (lv_at hl 5 rfl) ?_
      refine lv_iload_n hx hb dL_acts_199 rfl (lv_at hl 3 rfl) ?_
      refine lv_bipush (v := 9) hx hb dL_acts_200 (by decide) ?_
      refine lv_ishr hx hb dL_acts_202 ?_
      refine lv_bipush (v := 102) hx hb dL_acts_203 (by decide) ?_
      refine callSP (As := [.int (y >>> (9 &&& 31)), .int 102]) (rest := [.int x3, .ref (ad 233)]) ⟨hx, hb, hml, hown, hts⟩ (c_L_low (y >>> (9 &&& 31)) 102 (by decide)) (va_cwS 2 hts gL_acts_L_low rfl rfl rfl (by decide +kernel) ⟨Nat.le_of_ble_eq_true rfl, Nat.le_of_ble_eq_true rfl⟩) hK hN nilP rfl hl.1 rfl (Nat.le_of_ble_eq_true rfl) dL_acts_205 ⟨Nat.zero_le _, Nat.zero_le _⟩ (fun y_205 hy_205 => ?_)
      refine callWE (As := [.int x3, .int y_205]) (rest := []) ⟨hx, hb, hml, hown, hts⟩ (c_X5_setShare hdj X x3 y_205) (cwV 2 hts gL_acts_X5_setShare rfl rfl rfl (by decide +kernel) ⟨Nat.le_of_ble_eq_true rfl, Nat.le_of_ble_eq_true rfl⟩) hK hN hP 233 g0_233 rfl rfl hl.1 rfl (Nat.le_of_ble_eq_true rfl) dL_acts_208 ⟨Nat.zero_le _, Nat.zero_le _⟩ hS (fun _ h9 => h9) (fun H locs hP hS _ _ => ?_)
      obtain ⟨X_7, eX_7⟩ : ∃ Zn : St, Zn = opX X (g_setShare (X 0) x3 y_205) 3 (-9) (-9) 0 (n_setShare (X 0) x3 y_205) := ⟨_, rfl⟩
      rw [← eX_7] at hP
      exact retS hx hb hr hlocks hP hS dL_acts_211 (by rw [eX_7]; exact stp_setShare v hB)
    by_cases s_61_7 : y_58 = 7
    · refine lv_tableIn (off := 151) (tgt := 212) hx hb dL_acts_61 (by rw [s_61_7]; decide) (by rw [s_61_7]; decide) (by rw [s_61_7]; rfl) (by decide) ?_
      refine lv_aload_n hx hb dL_acts_212 rfl (lv_at hl 2 rfl) ?_
      refine lv_iload_n hx hb dL_acts_213 rfl (lv_at hl 3 rfl) ?_
      refine lv_bipush (v := 9) hx hb dL_acts_214 (by decide) ?_
      refine lv_ishr hx hb dL_acts_216 ?_
      refine lv_bipush (v := 102) hx hb dL_acts_217 (by decide) ?_
      refine callSP (As := [.int (y >>> (9 &&& 31)), .int 102]) (rest := [.ref (ad 233)]) ⟨hx, hb, hml, hown, hts⟩ (c_L_low (y >>> (9 &&& 31)) 102 (by decide)) (va_cwS 2 hts gL_acts_L_low rfl rfl rfl (by decide +kernel) ⟨Nat.le_of_ble_eq_true rfl, Nat.le_of_ble_eq_true rfl⟩) hK hN nilP rfl hl.1 rfl (Nat.le_of_ble_eq_true rfl) dL_acts_219 ⟨Nat.zero_le _, Nat.zero_le _⟩ (fun y_219 hy_219 => ?_)
      refine callWE (As := [.int y_219]) (rest := []) ⟨hx, hb, hml, hown, hts⟩ (c_X5_setCarried hdj X y_219) (cwV 1 hts gL_acts_X5_setCarried rfl rfl rfl (by decide +kernel) ⟨Nat.le_of_ble_eq_true rfl, Nat.le_of_ble_eq_true rfl⟩) hK hN hP 233 g0_233 rfl rfl hl.1 rfl (Nat.le_of_ble_eq_true rfl) dL_acts_222 ⟨Nat.zero_le _, Nat.zero_le _⟩ hS (fun _ h9 => h9) (fun H locs hP hS _ _ => ?_)
      obtain ⟨X_8, eX_8⟩ : ∃ Zn : St, Zn = opX X (g_setCarried y_219) 4 (-9) (-9) 0 (n_setCarried (X 0) y_219) := ⟨_, rfl⟩
      rw [← eX_8] at hP
      exact retS hx hb hr hlocks hP hS dL_acts_225 (by rw [eX_8]; exact stp_setCarried v hB)
    by_cases s_61_8 : y_58 = 8
    · refine lv_tableIn (off := 165) (tgt := 226) hx hb dL_acts_61 (by rw [s_61_8]; decide) (by rw [s_61_8]; decide) (by rw [s_61_8]; rfl) (by decide) ?_
      refine lv_aload_n hx hb dL_acts_226 rfl (lv_at hl 2 rfl) ?_
      refine lv_iload_n hx hb dL_acts_227 rfl (lv_at hl 5 rfl) ?_
      refine lv_iconst (v := 1) hx hb dL_acts_228 (by decide) ?_
      refine lv_iload_n hx hb dL_acts_229 rfl (lv_at hl 3 rfl) ?_
      refine lv_bipush (v := 9) hx hb dL_acts_230 (by decide) ?_
      refine lv_ishr hx hb dL_acts_232 ?_
      refine lv_sipush (v := 4000) hx hb dL_acts_233 (by decide) ?_
      refine callSP (As := [.int (y >>> (9 &&& 31)), .int 4000]) (rest := [.int 1, .int x3, .ref (ad 233)]) ⟨hx, hb, hml, hown, hts⟩ (c_L_low (y >>> (9 &&& 31)) 4000 (by decide)) (va_cwS 2 hts gL_acts_L_low rfl rfl rfl (by decide +kernel) ⟨Nat.le_of_ble_eq_true rfl, Nat.le_of_ble_eq_true rfl⟩) hK hN nilP rfl hl.1 rfl (Nat.le_of_ble_eq_true rfl) dL_acts_236 ⟨Nat.zero_le _, Nat.zero_le _⟩ (fun y_236 hy_236 => ?_)
      refine lv_iadd hx hb dL_acts_239 ?_
      refine callWE (As := [.int x3, .int (1 + y_236)]) (rest := []) ⟨hx, hb, hml, hown, hts⟩ (c_X5_commit hdj X x3 (1 + y_236)) (cwV 2 hts gL_acts_X5_commit rfl rfl rfl (by decide +kernel) ⟨Nat.le_of_ble_eq_true rfl, Nat.le_of_ble_eq_true rfl⟩) hK hN hP 233 g0_233 rfl rfl hl.1 rfl (Nat.le_of_ble_eq_true rfl) dL_acts_240 ⟨Nat.zero_le _, Nat.zero_le _⟩ hS (fun _ h9 => h9) (fun H locs hP hS _ _ => ?_)
      obtain ⟨X_9, eX_9⟩ : ∃ Zn : St, Zn = opX X (g_commit (X 0) x3 (1 + y_236)) 5 ((X 0) 14 2) (-9) 0 (n_commit (X 0) x3 (1 + y_236)) := ⟨_, rfl⟩
      rw [← eX_9] at hP
      exact retS hx hb hr hlocks hP hS dL_acts_243 (by rw [eX_9]; exact stp_commit v hB)
    by_cases s_61_9 : y_58 = 9
    · refine lv_tableIn (off := 165) (tgt := 226) hx hb dL_acts_61 (by rw [s_61_9]; decide) (by rw [s_61_9]; decide) (by rw [s_61_9]; rfl) (by decide) ?_
      refine lv_aload_n hx hb dL_acts_226 rfl (lv_at hl 2 rfl) ?_
      refine lv_iload_n hx hb dL_acts_227 rfl (lv_at hl 5 rfl) ?_
      refine lv_iconst (v := 1) hx hb dL_acts_228 (by decide) ?_
      refine lv_iload_n hx hb dL_acts_229 rfl (lv_at hl 3 rfl) ?_
      refine lv_bipush (v := 9) hx hb dL_acts_230 (by decide) ?_
      refine lv_ishr hx hb dL_acts_232 ?_
      refine lv_sipush (v := 4000) hx hb dL_acts_233 (by decide) ?_
      refine callSP (As := [.int (y >>> (9 &&& 31)), .int 4000]) (rest := [.int 1, .int x3, .ref (ad 233)]) ⟨hx, hb, hml, hown, hts⟩ (c_L_low (y >>> (9 &&& 31)) 4000 (by decide)) (va_cwS 2 hts gL_acts_L_low rfl rfl rfl (by decide +kernel) ⟨Nat.le_of_ble_eq_true rfl, Nat.le_of_ble_eq_true rfl⟩) hK hN nilP rfl hl.1 rfl (Nat.le_of_ble_eq_true rfl) dL_acts_236 ⟨Nat.zero_le _, Nat.zero_le _⟩ (fun y_236 hy_236 => ?_)
      refine lv_iadd hx hb dL_acts_239 ?_
      refine callWE (As := [.int x3, .int (1 + y_236)]) (rest := []) ⟨hx, hb, hml, hown, hts⟩ (c_X5_commit hdj X x3 (1 + y_236)) (cwV 2 hts gL_acts_X5_commit rfl rfl rfl (by decide +kernel) ⟨Nat.le_of_ble_eq_true rfl, Nat.le_of_ble_eq_true rfl⟩) hK hN hP 233 g0_233 rfl rfl hl.1 rfl (Nat.le_of_ble_eq_true rfl) dL_acts_240 ⟨Nat.zero_le _, Nat.zero_le _⟩ hS (fun _ h9 => h9) (fun H locs hP hS _ _ => ?_)
      obtain ⟨X_10, eX_10⟩ : ∃ Zn : St, Zn = opX X (g_commit (X 0) x3 (1 + y_236)) 5 ((X 0) 14 2) (-9) 0 (n_commit (X 0) x3 (1 + y_236)) := ⟨_, rfl⟩
      rw [← eX_10] at hP
      exact retS hx hb hr hlocks hP hS dL_acts_243 (by rw [eX_10]; exact stp_commit v hB)
    by_cases s_61_10 : y_58 = 10
    · refine lv_tableIn (off := 165) (tgt := 226) hx hb dL_acts_61 (by rw [s_61_10]; decide) (by rw [s_61_10]; decide) (by rw [s_61_10]; rfl) (by decide) ?_
      refine lv_aload_n hx hb dL_acts_226 rfl (lv_at hl 2 rfl) ?_
      refine lv_iload_n hx hb dL_acts_227 rfl (lv_at hl 5 rfl) ?_
      refine lv_iconst (v := 1) hx hb dL_acts_228 (by decide) ?_
      refine lv_iload_n hx hb dL_acts_229 rfl (lv_at hl 3 rfl) ?_
      refine lv_bipush (v := 9) hx hb dL_acts_230 (by decide) ?_
      refine lv_ishr hx hb dL_acts_232 ?_
      refine lv_sipush (v := 4000) hx hb dL_acts_233 (by decide) ?_
      refine callSP (As := [.int (y >>> (9 &&& 31)), .int 4000]) (rest := [.int 1, .int x3, .ref (ad 233)]) ⟨hx, hb, hml, hown, hts⟩ (c_L_low (y >>> (9 &&& 31)) 4000 (by decide)) (va_cwS 2 hts gL_acts_L_low rfl rfl rfl (by decide +kernel) ⟨Nat.le_of_ble_eq_true rfl, Nat.le_of_ble_eq_true rfl⟩) hK hN nilP rfl hl.1 rfl (Nat.le_of_ble_eq_true rfl) dL_acts_236 ⟨Nat.zero_le _, Nat.zero_le _⟩ (fun y_236 hy_236 => ?_)
      refine lv_iadd hx hb dL_acts_239 ?_
      refine callWE (As := [.int x3, .int (1 + y_236)]) (rest := []) ⟨hx, hb, hml, hown, hts⟩ (c_X5_commit hdj X x3 (1 + y_236)) (cwV 2 hts gL_acts_X5_commit rfl rfl rfl (by decide +kernel) ⟨Nat.le_of_ble_eq_true rfl, Nat.le_of_ble_eq_true rfl⟩) hK hN hP 233 g0_233 rfl rfl hl.1 rfl (Nat.le_of_ble_eq_true rfl) dL_acts_240 ⟨Nat.zero_le _, Nat.zero_le _⟩ hS (fun _ h9 => h9) (fun H locs hP hS _ _ => ?_)
      obtain ⟨X_11, eX_11⟩ : ∃ Zn : St, Zn = opX X (g_commit (X 0) x3 (1 + y_236)) 5 ((X 0) 14 2) (-9) 0 (n_commit (X 0) x3 (1 + y_236)) := ⟨_, rfl⟩
      rw [← eX_11] at hP
      exact retS hx hb hr hlocks hP hS dL_acts_243 (by rw [eX_11]; exact stp_commit v hB)
    by_cases s_61_11 : y_58 = 11
    · refine lv_tableIn (off := 183) (tgt := 244) hx hb dL_acts_61 (by rw [s_61_11]; decide) (by rw [s_61_11]; decide) (by rw [s_61_11]; rfl) (by decide) ?_
      refine lv_aload_n hx hb dL_acts_244 rfl (lv_at hl 2 rfl) ?_
      refine lv_iload hx hb dL_acts_245 (lv_at hl 0 rfl) ?_
      refine lv_iconst (v := 1) hx hb dL_acts_247 (by decide) ?_
      refine lv_iload_n hx hb dL_acts_248 rfl (lv_at hl 3 rfl) ?_
      refine lv_bipush (v := 9) hx hb dL_acts_249 (by decide) ?_
      refine lv_ishr hx hb dL_acts_251 ?_
      refine lv_sipush (v := 2000) hx hb dL_acts_252 (by decide) ?_
      refine callSP (As := [.int (y >>> (9 &&& 31)), .int 2000]) (rest := [.int 1, .int y_50, .ref (ad 233)]) ⟨hx, hb, hml, hown, hts⟩ (c_L_low (y >>> (9 &&& 31)) 2000 (by decide)) (va_cwS 2 hts gL_acts_L_low rfl rfl rfl (by decide +kernel) ⟨Nat.le_of_ble_eq_true rfl, Nat.le_of_ble_eq_true rfl⟩) hK hN nilP rfl hl.1 rfl (Nat.le_of_ble_eq_true rfl) dL_acts_255 ⟨Nat.zero_le _, Nat.zero_le _⟩ (fun y_255 hy_255 => ?_)
      refine lv_iadd hx hb dL_acts_258 ?_
      refine callWE (As := [.int y_50, .int (1 + y_255)]) (rest := []) ⟨hx, hb, hml, hown, hts⟩ (c_X5_pay hdj X y_50 (1 + y_255)) (cwV 2 hts gL_acts_X5_pay rfl rfl rfl (by decide +kernel) ⟨Nat.le_of_ble_eq_true rfl, Nat.le_of_ble_eq_true rfl⟩) hK hN hP 233 g0_233 rfl rfl hl.1 rfl (Nat.le_of_ble_eq_true rfl) dL_acts_259 ⟨Nat.zero_le _, Nat.zero_le _⟩ hS (fun _ h9 => h9) (fun H locs hP hS _ _ => ?_)
      obtain ⟨X_12, eX_12⟩ : ∃ Zn : St, Zn = opX X (g_pay (X 0) y_50 (1 + y_255)) 6 (-9) (-9) 0 (n_pay (X 0) y_50 (1 + y_255)) := ⟨_, rfl⟩
      rw [← eX_12] at hP
      exact retS hx hb hr hlocks hP hS dL_acts_262 (by rw [eX_12]; exact stp_pay v hB)
    by_cases s_61_12 : y_58 = 12
    · refine lv_tableIn (off := 183) (tgt := 244) hx hb dL_acts_61 (by rw [s_61_12]; decide) (by rw [s_61_12]; decide) (by rw [s_61_12]; rfl) (by decide) ?_
      refine lv_aload_n hx hb dL_acts_244 rfl (lv_at hl 2 rfl) ?_
      refine lv_iload hx hb dL_acts_245 (lv_at hl 0 rfl) ?_
      refine lv_iconst (v := 1) hx hb dL_acts_247 (by decide) ?_
      refine lv_iload_n hx hb dL_acts_248 rfl (lv_at hl 3 rfl) ?_
      refine lv_bipush (v := 9) hx hb dL_acts_249 (by decide) ?_
      refine lv_ishr hx hb dL_acts_251 ?_
      refine lv_sipush (v := 2000) hx hb dL_acts_252 (by decide) ?_
      refine callSP (As := [.int (y >>> (9 &&& 31)), .int 2000]) (rest := [.int 1, .int y_50, .ref (ad 233)]) ⟨hx, hb, hml, hown, hts⟩ (c_L_low (y >>> (9 &&& 31)) 2000 (by decide)) (va_cwS 2 hts gL_acts_L_low rfl rfl rfl (by decide +kernel) ⟨Nat.le_of_ble_eq_true rfl, Nat.le_of_ble_eq_true rfl⟩) hK hN nilP rfl hl.1 rfl (Nat.le_of_ble_eq_true rfl) dL_acts_255 ⟨Nat.zero_le _, Nat.zero_le _⟩ (fun y_255 hy_255 => ?_)
      refine lv_iadd hx hb dL_acts_258 ?_
      refine callWE (As := [.int y_50, .int (1 + y_255)]) (rest := []) ⟨hx, hb, hml, hown, hts⟩ (c_X5_pay hdj X y_50 (1 + y_255)) (cwV 2 hts gL_acts_X5_pay rfl rfl rfl (by decide +kernel) ⟨Nat.le_of_ble_eq_true rfl, Nat.le_of_ble_eq_true rfl⟩) hK hN hP 233 g0_233 rfl rfl hl.1 rfl (Nat.le_of_ble_eq_true rfl) dL_acts_259 ⟨Nat.zero_le _, Nat.zero_le _⟩ hS (fun _ h9 => h9) (fun H locs hP hS _ _ => ?_)
      obtain ⟨X_13, eX_13⟩ : ∃ Zn : St, Zn = opX X (g_pay (X 0) y_50 (1 + y_255)) 6 (-9) (-9) 0 (n_pay (X 0) y_50 (1 + y_255)) := ⟨_, rfl⟩
      rw [← eX_13] at hP
      exact retS hx hb hr hlocks hP hS dL_acts_262 (by rw [eX_13]; exact stp_pay v hB)
    by_cases s_61_13 : y_58 = 13
    · refine lv_tableIn (off := 202) (tgt := 263) hx hb dL_acts_61 (by rw [s_61_13]; decide) (by rw [s_61_13]; decide) (by rw [s_61_13]; rfl) (by decide) ?_
      refine lv_aload_n hx hb dL_acts_263 rfl (lv_at hl 2 rfl) ?_
      refine lv_iload hx hb dL_acts_264 (lv_at hl 0 rfl) ?_
      refine callWE (As := [.int y_50]) (rest := []) ⟨hx, hb, hml, hown, hts⟩ (c_X5_release hdj X y_50) (cwV 1 hts gL_acts_X5_release rfl rfl rfl (by decide +kernel) ⟨Nat.le_of_ble_eq_true rfl, Nat.le_of_ble_eq_true rfl⟩) hK hN hP 233 g0_233 rfl rfl hl.1 rfl (Nat.le_of_ble_eq_true rfl) dL_acts_266 ⟨Nat.zero_le _, Nat.zero_le _⟩ hS (fun _ h9 => h9) (fun H locs hP hS _ _ => ?_)
      obtain ⟨X_14, eX_14⟩ : ∃ Zn : St, Zn = opX X (g_release (X 0) y_50) 7 (-9) (-9) 0 (b_free0 (X 0) y_50) := ⟨_, rfl⟩
      rw [← eX_14] at hP
      exact retS hx hb hr hlocks hP hS dL_acts_269 (by rw [eX_14]; exact stp_release v hB)
    by_cases s_61_14 : y_58 = 14
    · refine lv_tableIn (off := 209) (tgt := 270) hx hb dL_acts_61 (by rw [s_61_14]; decide) (by rw [s_61_14]; decide) (by rw [s_61_14]; rfl) (by decide) ?_
      refine lv_aload_n hx hb dL_acts_270 rfl (lv_at hl 2 rfl) ?_
      refine lv_iload_n hx hb dL_acts_271 rfl (lv_at hl 5 rfl) ?_
      refine lv_iload hx hb dL_acts_272 (lv_at hl 1 rfl) ?_
      refine lv_iconst (v := 1) hx hb dL_acts_274 (by decide) ?_
      refine lv_iload_n hx hb dL_acts_275 rfl (lv_at hl 3 rfl) ?_
      refine lv_bipush (v := 12) hx hb dL_acts_276 (by decide) ?_
      refine lv_ishr hx hb dL_acts_278 ?_
      refine lv_sipush (v := 3000) hx hb dL_acts_279 (by decide) ?_
      refine callSP (As := [.int (y >>> (12 &&& 31)), .int 3000]) (rest := [.int 1, .int y_35, .int x3, .ref (ad 233)]) ⟨hx, hb, hml, hown, hts⟩ (c_L_low (y >>> (12 &&& 31)) 3000 (by decide)) (va_cwS 2 hts gL_acts_L_low rfl rfl rfl (by decide +kernel) ⟨Nat.le_of_ble_eq_true rfl, Nat.le_of_ble_eq_true rfl⟩) hK hN nilP rfl hl.1 rfl (Nat.le_of_ble_eq_true rfl) dL_acts_282 ⟨Nat.zero_le _, Nat.zero_le _⟩ (fun y_282 hy_282 => ?_)
      refine lv_iadd hx hb dL_acts_285 ?_
      refine callWE (As := [.int x3, .int y_35, .int (1 + y_282)]) (rest := []) ⟨hx, hb, hml, hown, hts⟩ (c_X5_vire hdj X x3 y_35 (1 + y_282)) (cwV 3 hts gL_acts_X5_vire rfl rfl rfl (by decide +kernel) ⟨Nat.le_of_ble_eq_true rfl, Nat.le_of_ble_eq_true rfl⟩) hK hN hP 233 g0_233 rfl rfl hl.1 rfl (Nat.le_of_ble_eq_true rfl) dL_acts_286 ⟨Nat.zero_le _, Nat.zero_le _⟩ hS (fun _ h9 => h9) (fun H locs hP hS _ _ => ?_)
      obtain ⟨X_15, eX_15⟩ : ∃ Zn : St, Zn = opX X (g_vire (X 0) x3 y_35 (1 + y_282)) 8 x3 y_35 (1 + y_282) (b_mv (X 0) x3 y_35 (1 + y_282)) := ⟨_, rfl⟩
      rw [← eX_15] at hP
      exact retS hx hb hr hlocks hP hS dL_acts_289 (by rw [eX_15]; exact stp_vire v hB)
    by_cases s_61_15 : y_58 = 15
    · refine lv_tableIn (off := 209) (tgt := 270) hx hb dL_acts_61 (by rw [s_61_15]; decide) (by rw [s_61_15]; decide) (by rw [s_61_15]; rfl) (by decide) ?_
      refine lv_aload_n hx hb dL_acts_270 rfl (lv_at hl 2 rfl) ?_
      refine lv_iload_n hx hb dL_acts_271 rfl (lv_at hl 5 rfl) ?_
      refine lv_iload hx hb dL_acts_272 (lv_at hl 1 rfl) ?_
      refine lv_iconst (v := 1) hx hb dL_acts_274 (by decide) ?_
      refine lv_iload_n hx hb dL_acts_275 rfl (lv_at hl 3 rfl) ?_
      refine lv_bipush (v := 12) hx hb dL_acts_276 (by decide) ?_
      refine lv_ishr hx hb dL_acts_278 ?_
      refine lv_sipush (v := 3000) hx hb dL_acts_279 (by decide) ?_
      refine callSP (As := [.int (y >>> (12 &&& 31)), .int 3000]) (rest := [.int 1, .int y_35, .int x3, .ref (ad 233)]) ⟨hx, hb, hml, hown, hts⟩ (c_L_low (y >>> (12 &&& 31)) 3000 (by decide)) (va_cwS 2 hts gL_acts_L_low rfl rfl rfl (by decide +kernel) ⟨Nat.le_of_ble_eq_true rfl, Nat.le_of_ble_eq_true rfl⟩) hK hN nilP rfl hl.1 rfl (Nat.le_of_ble_eq_true rfl) dL_acts_282 ⟨Nat.zero_le _, Nat.zero_le _⟩ (fun y_282 hy_282 => ?_)
      refine lv_iadd hx hb dL_acts_285 ?_
      refine callWE (As := [.int x3, .int y_35, .int (1 + y_282)]) (rest := []) ⟨hx, hb, hml, hown, hts⟩ (c_X5_vire hdj X x3 y_35 (1 + y_282)) (cwV 3 hts gL_acts_X5_vire rfl rfl rfl (by decide +kernel) ⟨Nat.le_of_ble_eq_true rfl, Nat.le_of_ble_eq_true rfl⟩) hK hN hP 233 g0_233 rfl rfl hl.1 rfl (Nat.le_of_ble_eq_true rfl) dL_acts_286 ⟨Nat.zero_le _, Nat.zero_le _⟩ hS (fun _ h9 => h9) (fun H locs hP hS _ _ => ?_)
      obtain ⟨X_16, eX_16⟩ : ∃ Zn : St, Zn = opX X (g_vire (X 0) x3 y_35 (1 + y_282)) 8 x3 y_35 (1 + y_282) (b_mv (X 0) x3 y_35 (1 + y_282)) := ⟨_, rfl⟩
      rw [← eX_16] at hP
      exact retS hx hb hr hlocks hP hS dL_acts_289 (by rw [eX_16]; exact stp_vire v hB)
    by_cases s_61_16 : y_58 = 16
    · refine lv_tableIn (off := 209) (tgt := 270) hx hb dL_acts_61 (by rw [s_61_16]; decide) (by rw [s_61_16]; decide) (by rw [s_61_16]; rfl) (by decide) ?_
      refine lv_aload_n hx hb dL_acts_270 rfl (lv_at hl 2 rfl) ?_
      refine lv_iload_n hx hb dL_acts_271 rfl (lv_at hl 5 rfl) ?_
      refine lv_iload hx hb dL_acts_272 (lv_at hl 1 rfl) ?_
      refine lv_iconst (v := 1) hx hb dL_acts_274 (by decide) ?_
      refine lv_iload_n hx hb dL_acts_275 rfl (lv_at hl 3 rfl) ?_
      refine lv_bipush (v := 12) hx hb dL_acts_276 (by decide) ?_
      refine lv_ishr hx hb dL_acts_278 ?_
      refine lv_sipush (v := 3000) hx hb dL_acts_279 (by decide) ?_
      refine callSP (As := [.int (y >>> (12 &&& 31)), .int 3000]) (rest := [.int 1, .int y_35, .int x3, .ref (ad 233)]) ⟨hx, hb, hml, hown, hts⟩ (c_L_low (y >>> (12 &&& 31)) 3000 (by decide)) (va_cwS 2 hts gL_acts_L_low rfl rfl rfl (by decide +kernel) ⟨Nat.le_of_ble_eq_true rfl, Nat.le_of_ble_eq_true rfl⟩) hK hN nilP rfl hl.1 rfl (Nat.le_of_ble_eq_true rfl) dL_acts_282 ⟨Nat.zero_le _, Nat.zero_le _⟩ (fun y_282 hy_282 => ?_)
      refine lv_iadd hx hb dL_acts_285 ?_
      refine callWE (As := [.int x3, .int y_35, .int (1 + y_282)]) (rest := []) ⟨hx, hb, hml, hown, hts⟩ (c_X5_vire hdj X x3 y_35 (1 + y_282)) (cwV 3 hts gL_acts_X5_vire rfl rfl rfl (by decide +kernel) ⟨Nat.le_of_ble_eq_true rfl, Nat.le_of_ble_eq_true rfl⟩) hK hN hP 233 g0_233 rfl rfl hl.1 rfl (Nat.le_of_ble_eq_true rfl) dL_acts_286 ⟨Nat.zero_le _, Nat.zero_le _⟩ hS (fun _ h9 => h9) (fun H locs hP hS _ _ => ?_)
      obtain ⟨X_17, eX_17⟩ : ∃ Zn : St, Zn = opX X (g_vire (X 0) x3 y_35 (1 + y_282)) 8 x3 y_35 (1 + y_282) (b_mv (X 0) x3 y_35 (1 + y_282)) := ⟨_, rfl⟩
      rw [← eX_17] at hP
      exact retS hx hb hr hlocks hP hS dL_acts_289 (by rw [eX_17]; exact stp_vire v hB)
    by_cases s_61_17 : y_58 = 17
    · refine lv_tableIn (off := 229) (tgt := 290) hx hb dL_acts_61 (by rw [s_61_17]; decide) (by rw [s_61_17]; decide) (by rw [s_61_17]; rfl) (by decide) ?_
      refine lv_aload_n hx hb dL_acts_290 rfl (lv_at hl 2 rfl) ?_
      refine lv_iload_n hx hb dL_acts_291 rfl (lv_at hl 3 rfl) ?_
      refine lv_bipush (v := 9) hx hb dL_acts_292 (by decide) ?_
      refine lv_ishr hx hb dL_acts_294 ?_
      refine lv_bipush (v := 13) hx hb dL_acts_295 (by decide) ?_
      refine callSP (As := [.int (y >>> (9 &&& 31)), .int 13]) (rest := [.ref (ad 233)]) ⟨hx, hb, hml, hown, hts⟩ (c_L_low (y >>> (9 &&& 31)) 13 (by decide)) (va_cwS 2 hts gL_acts_L_low rfl rfl rfl (by decide +kernel) ⟨Nat.le_of_ble_eq_true rfl, Nat.le_of_ble_eq_true rfl⟩) hK hN nilP rfl hl.1 rfl (Nat.le_of_ble_eq_true rfl) dL_acts_297 ⟨Nat.zero_le _, Nat.zero_le _⟩ (fun y_297 hy_297 => ?_)
      refine callWE (As := [.int y_297]) (rest := []) ⟨hx, hb, hml, hown, hts⟩ (c_X5_revoke hdj X y_297) (cwV 1 hts gL_acts_X5_revoke rfl rfl rfl (by decide +kernel) ⟨Nat.le_of_ble_eq_true rfl, Nat.le_of_ble_eq_true rfl⟩) hK hN hP 233 g0_233 rfl rfl hl.1 rfl (Nat.le_of_ble_eq_true rfl) dL_acts_300 ⟨Nat.zero_le _, Nat.zero_le _⟩ hS (fun _ h9 => h9) (fun H locs hP hS _ _ => ?_)
      obtain ⟨X_18, eX_18⟩ : ∃ Zn : St, Zn = N_revoke X y_297 := ⟨_, rfl⟩
      rw [← eX_18] at hP
      exact retS hx hb hr hlocks hP hS dL_acts_303 (by rw [eX_18]; exact stp_revoke v hB)
    by_cases s_61_18 : y_58 = 18
    · refine lv_tableIn (off := 229) (tgt := 290) hx hb dL_acts_61 (by rw [s_61_18]; decide) (by rw [s_61_18]; decide) (by rw [s_61_18]; rfl) (by decide) ?_
      refine lv_aload_n hx hb dL_acts_290 rfl (lv_at hl 2 rfl) ?_
      refine lv_iload_n hx hb dL_acts_291 rfl (lv_at hl 3 rfl) ?_
      refine lv_bipush (v := 9) hx hb dL_acts_292 (by decide) ?_
      refine lv_ishr hx hb dL_acts_294 ?_
      refine lv_bipush (v := 13) hx hb dL_acts_295 (by decide) ?_
      refine callSP (As := [.int (y >>> (9 &&& 31)), .int 13]) (rest := [.ref (ad 233)]) ⟨hx, hb, hml, hown, hts⟩ (c_L_low (y >>> (9 &&& 31)) 13 (by decide)) (va_cwS 2 hts gL_acts_L_low rfl rfl rfl (by decide +kernel) ⟨Nat.le_of_ble_eq_true rfl, Nat.le_of_ble_eq_true rfl⟩) hK hN nilP rfl hl.1 rfl (Nat.le_of_ble_eq_true rfl) dL_acts_297 ⟨Nat.zero_le _, Nat.zero_le _⟩ (fun y_297 hy_297 => ?_)
      refine callWE (As := [.int y_297]) (rest := []) ⟨hx, hb, hml, hown, hts⟩ (c_X5_revoke hdj X y_297) (cwV 1 hts gL_acts_X5_revoke rfl rfl rfl (by decide +kernel) ⟨Nat.le_of_ble_eq_true rfl, Nat.le_of_ble_eq_true rfl⟩) hK hN hP 233 g0_233 rfl rfl hl.1 rfl (Nat.le_of_ble_eq_true rfl) dL_acts_300 ⟨Nat.zero_le _, Nat.zero_le _⟩ hS (fun _ h9 => h9) (fun H locs hP hS _ _ => ?_)
      obtain ⟨X_19, eX_19⟩ : ∃ Zn : St, Zn = N_revoke X y_297 := ⟨_, rfl⟩
      rw [← eX_19] at hP
      exact retS hx hb hr hlocks hP hS dL_acts_303 (by rw [eX_19]; exact stp_revoke v hB)
    have h9 : (y_58).toInt < 0 ∨ 18 < (y_58).toInt := by
      have q_0 := lv_neT (a := 0) s_61_0 rfl
      have q_1 := lv_neT (a := 1) s_61_1 rfl
      have q_2 := lv_neT (a := 2) s_61_2 rfl
      have q_3 := lv_neT (a := 3) s_61_3 rfl
      have q_4 := lv_neT (a := 4) s_61_4 rfl
      have q_5 := lv_neT (a := 5) s_61_5 rfl
      have q_6 := lv_neT (a := 6) s_61_6 rfl
      have q_7 := lv_neT (a := 7) s_61_7 rfl
      have q_8 := lv_neT (a := 8) s_61_8 rfl
      have q_9 := lv_neT (a := 9) s_61_9 rfl
      have q_10 := lv_neT (a := 10) s_61_10 rfl
      have q_11 := lv_neT (a := 11) s_61_11 rfl
      have q_12 := lv_neT (a := 12) s_61_12 rfl
      have q_13 := lv_neT (a := 13) s_61_13 rfl
      have q_14 := lv_neT (a := 14) s_61_14 rfl
      have q_15 := lv_neT (a := 15) s_61_15 rfl
      have q_16 := lv_neT (a := 16) s_61_16 rfl
      have q_17 := lv_neT (a := 17) s_61_17 rfl
      have q_18 := lv_neT (a := 18) s_61_18 rfl
      omega
    refine lv_tableOut (tgt := 304) hx hb dL_acts_61 h9 (by decide) ?_
    refine lv_aload_n hx hb dL_acts_304 rfl (lv_at hl 2 rfl) ?_
    refine callWE (As := []) (rest := []) ⟨hx, hb, hml, hown, hts⟩ (c_X5_endYear hdj X) (cwV 0 hts gL_acts_X5_endYear rfl rfl rfl (by decide +kernel) ⟨Nat.le_of_ble_eq_true rfl, Nat.le_of_ble_eq_true rfl⟩) hK hN hP 233 g0_233 rfl rfl hl.1 rfl (Nat.le_of_ble_eq_true rfl) dL_acts_305 ⟨Nat.zero_le _, Nat.zero_le _⟩ hS (fun _ h9 => h9) (fun H locs hP hS _ _ => ?_)
    obtain ⟨X_20, eX_20⟩ : ∃ Zn : St, Zn = opX X (g_endYear (X 0)) 9 (-9) (-9) 0 (n_endYear (X 0)) := ⟨_, rfl⟩
    rw [← eX_20] at hP
    exact retS hx hb hr hlocks hP hS dL_acts_308 (by rw [eX_20]; exact stp_endYear v hB)
  refine lv_iload_n hx hb dL_acts_6 rfl (lv_at hl 2 rfl) ?_
  refine lv_iconst (v := 4) hx hb dL_acts_7 (by decide) ?_
  refine lv_ishr hx hb dL_acts_8 ?_
  refine lv_iload_n hx hb dL_acts_9 rfl (lv_at hl 2 rfl) ?_
  refine lv_bipush (v := 26) hx hb dL_acts_10 (by decide) ?_
  refine lv_ishr hx hb dL_acts_12 ?_
  refine lv_bipush (v := 7) hx hb dL_acts_13 (by decide) ?_
  refine lv_iand hx hb dL_acts_15 ?_
  refine lv_if_ne (tgt := 25) hx hb dL_acts_16 (by decide) (fun c_16 => ?_) (fun c_16 => ?_)
  · refine lv_iload_n hx hb dL_acts_25 rfl (lv_at hl 0 rfl) ?_
    refine callSP (As := [.int (y >>> (4 &&& 31)), .int (v_count (X 0) (X 14 0 1) 1)]) (rest := []) ⟨hx, hb, hml, hown, hts⟩ (c_L_low (y >>> (4 &&& 31)) (v_count (X 0) (X 14 0 1) 1) (cnt_pos o)) (va_cwS 2 hts gL_acts_L_low rfl rfl rfl (by decide +kernel) ⟨Nat.le_of_ble_eq_true rfl, Nat.le_of_ble_eq_true rfl⟩) hK hN nilP rfl hl.1 rfl (Nat.le_of_ble_eq_true rfl) dL_acts_26 ⟨Nat.zero_le _, Nat.zero_le _⟩ (fun y_26 hy_26 => ?_)
    refine lv_istore_n (lv' := [(3, .int y_26), (2, .int (v_count (X 0) (X 14 0 1) 1)), (0, .ref (ad 233)), (1, .int y)]) hx hb dL_acts_29 rfl hl (by decide) rfl (fun ls hl => ?_)
    exact hj_30 _  _ (lv_sub hl [2, 3, 1, 0] rfl)
  · refine lv_iload_n hx hb dL_acts_19 rfl (lv_at hl 0 rfl) ?_
    refine lv_iconst (v := 1) hx hb dL_acts_20 (by decide) ?_
    refine lv_iadd hx hb dL_acts_21 ?_
    refine lv_goto (tgt := 26) hx hb dL_acts_22 (by decide) ?_
    refine callSP (As := [.int (y >>> (4 &&& 31)), .int ((v_count (X 0) (X 14 0 1) 1) + 1)]) (rest := []) ⟨hx, hb, hml, hown, hts⟩ (c_L_low (y >>> (4 &&& 31)) ((v_count (X 0) (X 14 0 1) 1) + 1) (cnt_pos1 o)) (va_cwS 2 hts gL_acts_L_low rfl rfl rfl (by decide +kernel) ⟨Nat.le_of_ble_eq_true rfl, Nat.le_of_ble_eq_true rfl⟩) hK hN nilP rfl hl.1 rfl (Nat.le_of_ble_eq_true rfl) dL_acts_26 ⟨Nat.zero_le _, Nat.zero_le _⟩ (fun y_26 hy_26 => ?_)
    refine lv_istore_n (lv' := [(3, .int y_26), (2, .int (v_count (X 0) (X 14 0 1) 1)), (0, .ref (ad 233)), (1, .int y)]) hx hb dL_acts_29 rfl hl (by decide) rfl (fun ls hl => ?_)
    exact hj_30 _  _ (lv_sub hl [2, 3, 1, 0] rfl)
