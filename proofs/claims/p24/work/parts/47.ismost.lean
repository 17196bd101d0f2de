/-! THE LAW's isMost and isEnded -/
set_option maxHeartbeats 4000000 in
set_option maxRecDepth 100000 in
theorem c_L_isMost {l : Launch} {D : va_G} {cI cR : ClassId} {ad : Nat → Nat} (hdj : Dj 236 ad) (X : St) {K : Int} (v : GX K X) (hB : K ≤ 10000000) (y : Int32) : WoS l D cI cR ad X yL_isMost wsL_isMost ({ frames := 6, cells := 0, slots := 0, locals := 176 } : Room) [.ref (ad 233), .int y] (fun r Z => r = 1 ∧ GX (K + 100000) Z ∧ Z 0 = X 0) := by
  refine OfW (cc := cL_isMost) (maxL := 11) (ret := (some .boolean)) (by decide +kernel) rfl (Nat.le_of_ble_eq_true rfl) (fun p e s m below meth c hx hb hr hts hown hlocks hml hnm hP hK hN ls hl => ?_)
  have hl : lv_has ls 11 [(0, .ref (ad 233)), (1, .int y)] := hl
  have hS : va_S (Aw 236 ad) s.heap s.heap [] := va_S.rf
  have hP : va_P D vwCl (wC cI cR ad X) s.heap := hP
  have g := v.gd
  have o := g.1
  refine lv_aload_n hx hb dL_isMost_0 rfl (lv_at hl 0 rfl) ?_
  refine lv_iconst (v := 1) hx hb dL_isMost_1 (by decide) ?_
  refine callE (As := [.int 1]) (rest := []) ⟨hx, hb, hml, hown, hts⟩ (c_X5_count X 1) (cwV 1 hts gL_isMost_X5_count rfl rfl rfl (by decide +kernel) ⟨Nat.le_of_ble_eq_true rfl, Nat.le_of_ble_eq_true rfl⟩) hK hN hP 233 g0_233 rfl rfl hl.1 rfl (Nat.le_of_ble_eq_true rfl) dL_isMost_2 ⟨Nat.zero_le _, Nat.zero_le _⟩ ?_
  refine lv_istore_n (lv' := [(2, .int (v_count (X 0) (X 14 0 1) 1)), (0, .ref (ad 233)), (1, .int y)]) hx hb dL_isMost_5 rfl hl (by decide) rfl (fun ls hl => ?_)
  refine lv_iload_n hx hb dL_isMost_6 rfl (lv_at hl 2 rfl) ?_
  refine lv_iload_n hx hb dL_isMost_7 rfl (lv_at hl 0 rfl) ?_
  refine callSP (As := [.int y, .int (v_count (X 0) (X 14 0 1) 1)]) (rest := []) ⟨hx, hb, hml, hown, hts⟩ (c_L_low y (v_count (X 0) (X 14 0 1) 1) (cnt_pos o)) (va_cwS 2 hts gL_isMost_L_low rfl rfl rfl (by decide +kernel) ⟨Nat.le_of_ble_eq_true rfl, Nat.le_of_ble_eq_true rfl⟩) hK hN nilP rfl hl.1 rfl (Nat.le_of_ble_eq_true rfl) dL_isMost_8 ⟨Nat.zero_le _, Nat.zero_le _⟩ (fun y_8 hy_8 => ?_)
  refine lv_istore_n (lv' := [(3, .int y_8), (2, .int (v_count (X 0) (X 14 0 1) 1)), (0, .ref (ad 233)), (1, .int y)]) hx hb dL_isMost_11 rfl hl (by decide) rfl (fun ls hl => ?_)
  refine lv_iload_n hx hb dL_isMost_12 rfl (lv_at hl 3 rfl) ?_
  refine lv_iconst (v := 4) hx hb dL_isMost_13 (by decide) ?_
  refine lv_ishr hx hb dL_isMost_14 ?_
  refine lv_iload_n hx hb dL_isMost_15 rfl (lv_at hl 1 rfl) ?_
  refine callSP (As := [.int (y >>> (4 &&& 31)), .int (v_count (X 0) (X 14 0 1) 1)]) (rest := []) ⟨hx, hb, hml, hown, hts⟩ (c_L_low (y >>> (4 &&& 31)) (v_count (X 0) (X 14 0 1) 1) (cnt_pos o)) (va_cwS 2 hts gL_isMost_L_low rfl rfl rfl (by decide +kernel) ⟨Nat.le_of_ble_eq_true rfl, Nat.le_of_ble_eq_true rfl⟩) hK hN nilP rfl hl.1 rfl (Nat.le_of_ble_eq_true rfl) dL_isMost_16 ⟨Nat.zero_le _, Nat.zero_le _⟩ (fun y_16 hy_16 => ?_)
  refine lv_istore (lv' := [(4, .int y_16), (3, .int y_8), (2, .int (v_count (X 0) (X 14 0 1) 1)), (0, .ref (ad 233)), (1, .int y)]) hx hb dL_isMost_19 hl (by decide) rfl (fun ls hl => ?_)
  refine lv_iload_n hx hb dL_isMost_21 rfl (lv_at hl 1 rfl) ?_
  refine lv_iload hx hb dL_isMost_22 (lv_at hl 0 rfl) ?_
  refine lv_icmp_ne (tgt := 44) hx hb dL_isMost_24 (by decide) (fun c_24 => ?_) (fun c_24 => ?_)
  · have pa := lw_has o hy_8
    have pb := lw_has o hy_16
    refine lv_aload_n hx hb dL_isMost_44 rfl (lv_at hl 3 rfl) ?_
    refine callSL (As := [.ref (ad 233)]) (rest := []) ⟨hx, hb, hml, hown, hts⟩ (c_L_all X o) (va_cwS 1 hts gL_isMost_L_all rfl rfl rfl (by decide +kernel) ⟨Nat.le_of_ble_eq_true rfl, Nat.le_of_ble_eq_true rfl⟩) hK hN hP rfl hl.1 rfl (Nat.le_of_ble_eq_true rfl) dL_isMost_45 ⟨Nat.zero_le _, Nat.zero_le _⟩ ?_
    refine lv_lstore (lv' := [(5, .long (h_all (X 0))), (4, .int y_16), (3, .int y_8), (2, .int (v_count (X 0) (X 14 0 1) 1)), (0, .ref (ad 233)), (1, .int y)]) hx hb dL_isMost_48 hl (by decide) rfl (fun ls hl => ?_)
    refine lv_aload_n hx hb dL_isMost_50 rfl (lv_at hl 4 rfl) ?_
    refine lv_iload_n hx hb dL_isMost_51 rfl (lv_at hl 2 rfl) ?_
    refine lv_iload hx hb dL_isMost_52 (lv_at hl 1 rfl) ?_
    refine callE (As := [.int y_8, .int y_16]) (rest := []) ⟨hx, hb, hml, hown, hts⟩ (c_X5_mostFrom X y_8 y_16) (cwV 2 hts gL_isMost_X5_mostFrom rfl rfl rfl (by decide +kernel) ⟨Nat.le_of_ble_eq_true rfl, Nat.le_of_ble_eq_true rfl⟩) hK hN hP 233 g0_233 rfl rfl hl.1 rfl (Nat.le_of_ble_eq_true rfl) dL_isMost_54 ⟨Nat.zero_le _, Nat.zero_le _⟩ ?_
    refine lv_istore (lv' := [(7, .int (v_most (X 0) y_8 y_16)), (5, .long (h_all (X 0))), (4, .int y_16), (3, .int y_8), (2, .int (v_count (X 0) (X 14 0 1) 1)), (0, .ref (ad 233)), (1, .int y)]) hx hb dL_isMost_57 hl (by decide) rfl (fun ls hl => ?_)
    refine lv_aload_n hx hb dL_isMost_59 rfl (lv_at hl 5 rfl) ?_
    refine lv_iload hx hb dL_isMost_60 (lv_at hl 2 rfl) ?_
    refine callE (As := [.int y_16]) (rest := []) ⟨hx, hb, hml, hown, hts⟩ (c_X5_bestGiver X y_16) (cwV 1 hts gL_isMost_X5_bestGiver rfl rfl rfl (by decide +kernel) ⟨Nat.le_of_ble_eq_true rfl, Nat.le_of_ble_eq_true rfl⟩) hK hN hP 233 g0_233 rfl rfl hl.1 rfl (Nat.le_of_ble_eq_true rfl) dL_isMost_62 ⟨Nat.zero_le _, Nat.zero_le _⟩ ?_
    refine lv_istore (lv' := [(8, .int (v_giver (X 0) y_16)), (7, .int (v_most (X 0) y_8 y_16)), (5, .long (h_all (X 0))), (4, .int y_16), (3, .int y_8), (2, .int (v_count (X 0) (X 14 0 1) 1)), (0, .ref (ad 233)), (1, .int y)]) hx hb dL_isMost_65 hl (by decide) rfl (fun ls hl => ?_)
    have hj_161 : ∀  (Z : St) (H : Heap) (locs : List Loc), va_P D vwCl (wC cI cR ad Z) H → va_S (Aw 236 ad) s.heap H locs → Z 0 = X 0 → GX (K + 100000) Z → ∀ ls : Array Slot, lv_has ls 11 [(0, .ref (ad 233)), (1, .int y), (2, .int (v_count (X 0) (X 14 0 1) 1)), (3, .int y_8), (4, .int y_16), (5, .long (h_all (X 0))), (7, .int (v_most (X 0) y_8 y_16)), (8, .int (v_giver (X 0) y_16))] → W p l e ({ frames := 6, cells := 0, slots := 0, locals := 176 } : Room) s m ([.ref (ad 233), .int y]).toArray below meth c H locs 0 0 (MQ below (va_Qi (S := St) (fun r Z => r = 1 ∧ GX (K + 100000) Z ∧ Z 0 = X 0) (fun Z t => va_P D vwCl (wC cI cR ad Z) t.heap) (Aw 236 ad)) ([.ref (ad 233), .int y]).toArray s 0 0 (Aw 236 ad)) (F0 m 161 ls []) := by
      intro  Z H locs hP hS hz0 hz ls hl
      refine lv_iload hx hb dL_isMost_161 (lv_at hl 6 rfl) ?_
      refine lv_ldc (v := 100000) hx hb hown (hts (.constant RL 50 100000) (by decide +kernel)) dL_isMost_163 ?_
      refine lv_icmp_ge (tgt := 186) hx hb dL_isMost_165 (by decide) (fun c_165 => ?_) (fun c_165 => ?_)
      · refine lv_iload hx hb dL_isMost_186 (lv_at hl 7 rfl) ?_
        refine lv_iload hx hb dL_isMost_188 (lv_at hl 4 rfl) ?_
        refine lv_icmp_eq (tgt := 217) hx hb dL_isMost_190 (by decide) (fun h9 => absurd h9 (ms_9 o pa pb c_24)) (fun c_190 => ?_)
        refine lv_iload hx hb dL_isMost_193 (lv_at hl 7 rfl) ?_
        refine lv_if_ge (tgt := 203) hx hb dL_isMost_195 (by decide) (fun c_195 => ?_) (fun c_195 => ?_)
        · refine lv_aload_n hx hb dL_isMost_203 rfl (lv_at hl 0 rfl) ?_
          refine callSL (As := [.ref (ad 233)]) (rest := []) ⟨hx, hb, hml, hown, hts⟩ (c_L_all Z hz.gd.1) (va_cwS 1 hts gL_isMost_L_all rfl rfl rfl (by decide +kernel) ⟨Nat.le_of_ble_eq_true rfl, Nat.le_of_ble_eq_true rfl⟩) hK hN hP rfl hl.1 rfl (Nat.le_of_ble_eq_true rfl) dL_isMost_204 ⟨Nat.zero_le _, Nat.zero_le _⟩ ?_
          refine lv_lload hx hb dL_isMost_207 (lv_at hl 5 rfl) ?_
          refine W.lcmp hx hb dL_isMost_209 ?_
          rw [hz0, lg_00]
          refine lv_if_ne (tgt := 217) hx hb dL_isMost_210 (by decide) (fun h9 => absurd (by decide) h9) (fun _ => ?_)
          refine lv_iconst (v := 1) hx hb dL_isMost_213 (by decide) ?_
          refine lv_goto (tgt := 218) hx hb dL_isMost_214 (by decide) ?_
          exact retS1 hx hb hr hlocks hP hS dL_isMost_218 ⟨rfl, hz, hz0⟩
        · refine lv_iload hx hb dL_isMost_198 (lv_at hl 6 rfl) ?_
          refine lv_if_ne (tgt := 217) hx hb dL_isMost_200 (by decide) (fun h9 => absurd (ms_10 o pa pb c_24 c_195) h9) (fun c_200 => ?_)
          refine lv_aload_n hx hb dL_isMost_203 rfl (lv_at hl 0 rfl) ?_
          refine callSL (As := [.ref (ad 233)]) (rest := []) ⟨hx, hb, hml, hown, hts⟩ (c_L_all Z hz.gd.1) (va_cwS 1 hts gL_isMost_L_all rfl rfl rfl (by decide +kernel) ⟨Nat.le_of_ble_eq_true rfl, Nat.le_of_ble_eq_true rfl⟩) hK hN hP rfl hl.1 rfl (Nat.le_of_ble_eq_true rfl) dL_isMost_204 ⟨Nat.zero_le _, Nat.zero_le _⟩ ?_
          refine lv_lload hx hb dL_isMost_207 (lv_at hl 5 rfl) ?_
          refine W.lcmp hx hb dL_isMost_209 ?_
          rw [hz0, lg_00]
          refine lv_if_ne (tgt := 217) hx hb dL_isMost_210 (by decide) (fun h9 => absurd (by decide) h9) (fun _ => ?_)
          refine lv_iconst (v := 1) hx hb dL_isMost_213 (by decide) ?_
          refine lv_goto (tgt := 218) hx hb dL_isMost_214 (by decide) ?_
          exact retS1 hx hb hr hlocks hP hS dL_isMost_218 ⟨rfl, hz, hz0⟩
      · refine lv_aload_n hx hb dL_isMost_168 rfl (lv_at hl 0 rfl) ?_
        refine lv_iload_n hx hb dL_isMost_169 rfl (lv_at hl 3 rfl) ?_
        refine lv_iload hx hb dL_isMost_170 (lv_at hl 4 rfl) ?_
        refine lv_iload hx hb dL_isMost_172 (lv_at hl 6 rfl) ?_
        refine lv_iconst (v := 1) hx hb dL_isMost_174 (by decide) ?_
        refine lv_iadd hx hb dL_isMost_175 ?_
        refine callWE (As := [.int y_8, .int y_16, .int ((v_most (X 0) y_8 y_16) + 1)]) (rest := []) ⟨hx, hb, hml, hown, hts⟩ (c_X5_vire hdj Z y_8 y_16 ((v_most (X 0) y_8 y_16) + 1)) (cwV 3 hts gL_isMost_X5_vire rfl rfl rfl (by decide +kernel) ⟨Nat.le_of_ble_eq_true rfl, Nat.le_of_ble_eq_true rfl⟩) hK hN hP 233 g0_233 rfl rfl hl.1 rfl (Nat.le_of_ble_eq_true rfl) dL_isMost_176 ⟨Nat.zero_le _, Nat.zero_le _⟩ hS (fun _ h9 => h9) (fun H locs hP hS _ _ => ?_)
        obtain ⟨X_1, eX_1⟩ : ∃ Zn : St, Zn = opX Z (g_vire (Z 0) y_8 y_16 ((v_most (X 0) y_8 y_16) + 1)) 8 y_8 y_16 ((v_most (X 0) y_8 y_16) + 1) (b_mv (Z 0) y_8 y_16 ((v_most (X 0) y_8 y_16) + 1)) := ⟨_, rfl⟩
        rw [← eX_1] at hP
        have e3 : X_1 = Z := by rw [eX_1, hz0]; exact opX_e (ms_7 pa pb c_24 c_165) (by decide)
        rw [e3] at hP
        refine lv_bipush (v := (-2)) hx hb dL_isMost_179 (by decide) ?_
        refine lv_icmp_eq (tgt := 186) hx hb dL_isMost_181 (by decide) (fun c_181 => ?_) (fun h9 => absurd (by rw [hz0]; exact (opV_e (ms_7 pa pb c_24 c_165) (by decide)).symm) h9)
        refine lv_iload hx hb dL_isMost_186 (lv_at hl 7 rfl) ?_
        refine lv_iload hx hb dL_isMost_188 (lv_at hl 4 rfl) ?_
        refine lv_icmp_eq (tgt := 217) hx hb dL_isMost_190 (by decide) (fun h9 => absurd h9 (ms_9 o pa pb c_24)) (fun c_190 => ?_)
        refine lv_iload hx hb dL_isMost_193 (lv_at hl 7 rfl) ?_
        refine lv_if_ge (tgt := 203) hx hb dL_isMost_195 (by decide) (fun c_195 => ?_) (fun c_195 => ?_)
        · refine lv_aload_n hx hb dL_isMost_203 rfl (lv_at hl 0 rfl) ?_
          refine callSL (As := [.ref (ad 233)]) (rest := []) ⟨hx, hb, hml, hown, hts⟩ (c_L_all Z hz.gd.1) (va_cwS 1 hts gL_isMost_L_all rfl rfl rfl (by decide +kernel) ⟨Nat.le_of_ble_eq_true rfl, Nat.le_of_ble_eq_true rfl⟩) hK hN hP rfl hl.1 rfl (Nat.le_of_ble_eq_true rfl) dL_isMost_204 ⟨Nat.zero_le _, Nat.zero_le _⟩ ?_
          refine lv_lload hx hb dL_isMost_207 (lv_at hl 5 rfl) ?_
          refine W.lcmp hx hb dL_isMost_209 ?_
          rw [hz0, lg_00]
          refine lv_if_ne (tgt := 217) hx hb dL_isMost_210 (by decide) (fun h9 => absurd (by decide) h9) (fun _ => ?_)
          refine lv_iconst (v := 1) hx hb dL_isMost_213 (by decide) ?_
          refine lv_goto (tgt := 218) hx hb dL_isMost_214 (by decide) ?_
          exact retS1 hx hb hr hlocks hP hS dL_isMost_218 ⟨rfl, hz, hz0⟩
        · refine lv_iload hx hb dL_isMost_198 (lv_at hl 6 rfl) ?_
          refine lv_if_ne (tgt := 217) hx hb dL_isMost_200 (by decide) (fun h9 => absurd (ms_10 o pa pb c_24 c_195) h9) (fun c_200 => ?_)
          refine lv_aload_n hx hb dL_isMost_203 rfl (lv_at hl 0 rfl) ?_
          refine callSL (As := [.ref (ad 233)]) (rest := []) ⟨hx, hb, hml, hown, hts⟩ (c_L_all Z hz.gd.1) (va_cwS 1 hts gL_isMost_L_all rfl rfl rfl (by decide +kernel) ⟨Nat.le_of_ble_eq_true rfl, Nat.le_of_ble_eq_true rfl⟩) hK hN hP rfl hl.1 rfl (Nat.le_of_ble_eq_true rfl) dL_isMost_204 ⟨Nat.zero_le _, Nat.zero_le _⟩ ?_
          refine lv_lload hx hb dL_isMost_207 (lv_at hl 5 rfl) ?_
          refine W.lcmp hx hb dL_isMost_209 ?_
          rw [hz0, lg_00]
          refine lv_if_ne (tgt := 217) hx hb dL_isMost_210 (by decide) (fun h9 => absurd (by decide) h9) (fun _ => ?_)
          refine lv_iconst (v := 1) hx hb dL_isMost_213 (by decide) ?_
          refine lv_goto (tgt := 218) hx hb dL_isMost_214 (by decide) ?_
          exact retS1 hx hb hr hlocks hP hS dL_isMost_218 ⟨rfl, hz, hz0⟩
    refine lv_iload hx hb dL_isMost_67 (lv_at hl 1 rfl) ?_
    refine lv_if_le (tgt := 161) hx hb dL_isMost_69 (by decide) (fun c_69 => ?_) (fun c_69 => ?_)
    · exact hj_161  X _ _ hP hS rfl (v.mono (by omega) (by omega)) _ (lv_sub hl [6, 7, 5, 4, 3, 2, 1, 0] rfl)
    · refine lv_aload_n hx hb dL_isMost_72 rfl (lv_at hl 6 rfl) ?_
      refine lv_iload_n hx hb dL_isMost_73 rfl (lv_at hl 4 rfl) ?_
      refine lv_bipush (v := 8) hx hb dL_isMost_74 (by decide) ?_
      refine callE (As := [.int y_8, .int 8]) (rest := []) ⟨hx, hb, hml, hown, hts⟩ (c_X5_head X y_8 8) (cwV 2 hts gL_isMost_X5_head rfl rfl rfl (by decide +kernel) ⟨Nat.le_of_ble_eq_true rfl, Nat.le_of_ble_eq_true rfl⟩) hK hN hP 233 g0_233 rfl rfl hl.1 rfl (Nat.le_of_ble_eq_true rfl) dL_isMost_76 ⟨Nat.zero_le _, Nat.zero_le _⟩ ?_
      refine lv_istore (lv' := [(9, .int (v_head (X 0) y_8 8)), (8, .int (v_giver (X 0) y_16)), (7, .int (v_most (X 0) y_8 y_16)), (5, .long (h_all (X 0))), (4, .int y_16), (3, .int y_8), (2, .int (v_count (X 0) (X 14 0 1) 1)), (0, .ref (ad 233)), (1, .int y)]) hx hb dL_isMost_79 hl (by decide) rfl (fun ls hl => ?_)
      refine lv_aload_n hx hb dL_isMost_81 rfl (lv_at hl 7 rfl) ?_
      refine lv_iconst (v := 0) hx hb dL_isMost_82 (by decide) ?_
      refine lv_iconst (v := 0) hx hb dL_isMost_83 (by decide) ?_
      refine callE (As := [.int 0, .int 0]) (rest := []) ⟨hx, hb, hml, hown, hts⟩ (c_X5_total X 0 0) (cwV 2 hts gL_isMost_X5_total rfl rfl rfl (by decide +kernel) ⟨Nat.le_of_ble_eq_true rfl, Nat.le_of_ble_eq_true rfl⟩) hK hN hP 233 g0_233 rfl rfl hl.1 rfl (Nat.le_of_ble_eq_true rfl) dL_isMost_84 ⟨Nat.zero_le _, Nat.zero_le _⟩ ?_
      refine lv_istore (lv' := [(10, .int (v_total (X 0) 0 0)), (9, .int (v_head (X 0) y_8 8)), (8, .int (v_giver (X 0) y_16)), (7, .int (v_most (X 0) y_8 y_16)), (5, .long (h_all (X 0))), (4, .int y_16), (3, .int y_8), (2, .int (v_count (X 0) (X 14 0 1) 1)), (0, .ref (ad 233)), (1, .int y)]) hx hb dL_isMost_87 hl (by decide) rfl (fun ls hl => ?_)
      refine lv_iload hx hb dL_isMost_89 (lv_at hl 2 rfl) ?_
      refine lv_if_lt (tgt := 159) hx hb dL_isMost_91 (by decide) (fun h9 => absurd h9 (ms_1 o pa pb c_24 c_69)) (fun c_91 => ?_)
      refine lv_aload_n hx hb dL_isMost_94 rfl (lv_at hl 8 rfl) ?_
      refine lv_iload hx hb dL_isMost_95 (lv_at hl 2 rfl) ?_
      refine lv_iload hx hb dL_isMost_97 (lv_at hl 5 rfl) ?_
      refine callE (As := [.int (v_giver (X 0) y_16), .int y_16]) (rest := []) ⟨hx, hb, hml, hown, hts⟩ (c_X5_mostFrom X (v_giver (X 0) y_16) y_16) (cwV 2 hts gL_isMost_X5_mostFrom rfl rfl rfl (by decide +kernel) ⟨Nat.le_of_ble_eq_true rfl, Nat.le_of_ble_eq_true rfl⟩) hK hN hP 233 g0_233 rfl rfl hl.1 rfl (Nat.le_of_ble_eq_true rfl) dL_isMost_99 ⟨Nat.zero_le _, Nat.zero_le _⟩ ?_
      refine lv_iload hx hb dL_isMost_102 (lv_at hl 3 rfl) ?_
      refine lv_icmp_lt (tgt := 159) hx hb dL_isMost_104 (by decide) (fun h9 => absurd h9 (ms_2 o pa pb c_24 c_69)) (fun c_104 => ?_)
      refine lv_aload_n hx hb dL_isMost_107 rfl (lv_at hl 8 rfl) ?_
      refine lv_iload_n hx hb dL_isMost_108 rfl (lv_at hl 6 rfl) ?_
      refine lv_iload hx hb dL_isMost_109 (lv_at hl 5 rfl) ?_
      refine lv_iload hx hb dL_isMost_111 (lv_at hl 3 rfl) ?_
      refine callWE (As := [.int y_8, .int y_16, .int (v_most (X 0) y_8 y_16)]) (rest := []) ⟨hx, hb, hml, hown, hts⟩ (c_X5_vire hdj X y_8 y_16 (v_most (X 0) y_8 y_16)) (cwV 3 hts gL_isMost_X5_vire rfl rfl rfl (by decide +kernel) ⟨Nat.le_of_ble_eq_true rfl, Nat.le_of_ble_eq_true rfl⟩) hK hN hP 233 g0_233 rfl rfl hl.1 rfl (Nat.le_of_ble_eq_true rfl) dL_isMost_113 ⟨Nat.zero_le _, Nat.zero_le _⟩ hS (fun _ h9 => h9) (fun H locs hP hS _ _ => ?_)
      obtain ⟨X_2, eX_2⟩ : ∃ Zn : St, Zn = opX X (g_vire (X 0) y_8 y_16 (v_most (X 0) y_8 y_16)) 8 y_8 y_16 (v_most (X 0) y_8 y_16) (b_mv (X 0) y_8 y_16 (v_most (X 0) y_8 y_16)) := ⟨_, rfl⟩
      rw [← eX_2] at hP
      have gg := ms_g pa pb c_24 c_69
      have e1 : X_2 0 = b_mv (X 0) y_8 y_16 (v_most (X 0) y_8 y_16) := by rw [eX_2, opX_0 gg]; exact sg_g _ _ _
      have w1 : GX (K + 100000) X_2 ∧ 0 ≤ (R_undo X_2).toInt ∧ (N_undo X_2) 0 = X 0 := by rw [eX_2, opX_0 gg]; exact v.op (by omega) (ms_gd g hB pa pb c_24 c_69) (by decide) (fun _ => ms_amt pa pb c_24 c_69)
      refine lv_iload hx hb dL_isMost_116 (lv_at hl 1 rfl) ?_
      refine lv_iload hx hb dL_isMost_118 (lv_at hl 3 rfl) ?_
      refine lv_isub hx hb dL_isMost_120 ?_
      refine lv_icmp_ne (tgt := 159) hx hb dL_isMost_121 (by decide) (fun h9 => absurd (ms_3 o pa pb c_24 c_69) h9) (fun c_121 => ?_)
      refine lv_aload_n hx hb dL_isMost_124 rfl (lv_at hl 8 rfl) ?_
      refine lv_iconst (v := 0) hx hb dL_isMost_125 (by decide) ?_
      refine lv_iconst (v := 0) hx hb dL_isMost_126 (by decide) ?_
      refine callE (As := [.int 0, .int 0]) (rest := []) ⟨hx, hb, hml, hown, hts⟩ (c_X5_total X_2 0 0) (cwV 2 hts gL_isMost_X5_total rfl rfl rfl (by decide +kernel) ⟨Nat.le_of_ble_eq_true rfl, Nat.le_of_ble_eq_true rfl⟩) hK hN hP 233 g0_233 rfl rfl hl.1 rfl (Nat.le_of_ble_eq_true rfl) dL_isMost_127 ⟨Nat.zero_le _, Nat.zero_le _⟩ ?_
      refine lv_iload hx hb dL_isMost_130 (lv_at hl 0 rfl) ?_
      refine lv_icmp_ne (tgt := 159) hx hb dL_isMost_132 (by decide) (fun h9 => absurd (ms_4 g hB pa pb c_24 c_69 e1) h9) (fun c_132 => ?_)
      refine lv_iload hx hb dL_isMost_135 (lv_at hl 3 rfl) ?_
      refine lv_ldc (v := 100000) hx hb hown (hts (.constant RL 50 100000) (by decide +kernel)) dL_isMost_137 ?_
      refine lv_icmp_ge (tgt := 152) hx hb dL_isMost_139 (by decide) (fun c_139 => ?_) (fun c_139 => ?_)
      · refine lv_aload_n hx hb dL_isMost_152 rfl (lv_at hl 8 rfl) ?_
        refine callWE (As := []) (rest := []) ⟨hx, hb, hml, hown, hts⟩ (c_X5_undo hdj X_2) (cwV 0 hts gL_isMost_X5_undo rfl rfl rfl (by decide +kernel) ⟨Nat.le_of_ble_eq_true rfl, Nat.le_of_ble_eq_true rfl⟩) hK hN hP 233 g0_233 rfl rfl hl.1 rfl (Nat.le_of_ble_eq_true rfl) dL_isMost_153 ⟨Nat.zero_le _, Nat.zero_le _⟩ hS (fun _ h9 => h9) (fun H locs hP hS _ _ => ?_)
        obtain ⟨X_3, eX_3⟩ : ∃ Zn : St, Zn = N_undo X_2 := ⟨_, rfl⟩
        rw [← eX_3] at hP
        have hz2 : X_3 0 = X 0 := by rw [eX_3]; exact w1.2.2
        have hg2 : GX (K + 100000) X_3 := by rw [eX_3]; exact w1.1.undo
        refine lv_if_ge (tgt := 161) hx hb dL_isMost_156 (by decide) (fun c_156 => ?_) (fun h9 => absurd (by rw [i3_le, t_0]; exact w1.2.1) h9)
        exact hj_161  X_3 _ _ hP hS hz2 hg2 _ (lv_sub hl [8, 9, 7, 6, 5, 4, 3, 2] rfl)
      · refine lv_aload_n hx hb dL_isMost_142 rfl (lv_at hl 8 rfl) ?_
        refine lv_iload_n hx hb dL_isMost_143 rfl (lv_at hl 6 rfl) ?_
        refine lv_iload hx hb dL_isMost_144 (lv_at hl 5 rfl) ?_
        refine callE (As := [.int y_8, .int y_16]) (rest := []) ⟨hx, hb, hml, hown, hts⟩ (c_X5_mostFrom X_2 y_8 y_16) (cwV 2 hts gL_isMost_X5_mostFrom rfl rfl rfl (by decide +kernel) ⟨Nat.le_of_ble_eq_true rfl, Nat.le_of_ble_eq_true rfl⟩) hK hN hP 233 g0_233 rfl rfl hl.1 rfl (Nat.le_of_ble_eq_true rfl) dL_isMost_146 ⟨Nat.zero_le _, Nat.zero_le _⟩ ?_
        refine lv_if_ne (tgt := 159) hx hb dL_isMost_149 (by decide) (fun h9 => absurd (ms_5 g pa pb c_24 c_69 e1 c_139) h9) (fun c_149 => ?_)
        refine lv_aload_n hx hb dL_isMost_152 rfl (lv_at hl 8 rfl) ?_
        refine callWE (As := []) (rest := []) ⟨hx, hb, hml, hown, hts⟩ (c_X5_undo hdj X_2) (cwV 0 hts gL_isMost_X5_undo rfl rfl rfl (by decide +kernel) ⟨Nat.le_of_ble_eq_true rfl, Nat.le_of_ble_eq_true rfl⟩) hK hN hP 233 g0_233 rfl rfl hl.1 rfl (Nat.le_of_ble_eq_true rfl) dL_isMost_153 ⟨Nat.zero_le _, Nat.zero_le _⟩ hS (fun _ h9 => h9) (fun H locs hP hS _ _ => ?_)
        obtain ⟨X_4, eX_4⟩ : ∃ Zn : St, Zn = N_undo X_2 := ⟨_, rfl⟩
        rw [← eX_4] at hP
        have hz2 : X_4 0 = X 0 := by rw [eX_4]; exact w1.2.2
        have hg2 : GX (K + 100000) X_4 := by rw [eX_4]; exact w1.1.undo
        refine lv_if_ge (tgt := 161) hx hb dL_isMost_156 (by decide) (fun c_156 => ?_) (fun h9 => absurd (by rw [i3_le, t_0]; exact w1.2.1) h9)
        exact hj_161  X_4 _ _ hP hS hz2 hg2 _ (lv_sub hl [8, 9, 7, 6, 5, 4, 3, 2] rfl)
  · refine lv_aload_n hx hb dL_isMost_27 rfl (lv_at hl 3 rfl) ?_
    refine lv_iload_n hx hb dL_isMost_28 rfl (lv_at hl 1 rfl) ?_
    refine lv_iload hx hb dL_isMost_29 (lv_at hl 0 rfl) ?_
    refine callE (As := [.int y_8, .int y_16]) (rest := []) ⟨hx, hb, hml, hown, hts⟩ (c_X5_mostFrom X y_8 y_16) (cwV 2 hts gL_isMost_X5_mostFrom rfl rfl rfl (by decide +kernel) ⟨Nat.le_of_ble_eq_true rfl, Nat.le_of_ble_eq_true rfl⟩) hK hN hP 233 g0_233 rfl rfl hl.1 rfl (Nat.le_of_ble_eq_true rfl) dL_isMost_31 ⟨Nat.zero_le _, Nat.zero_le _⟩ ?_
    refine lv_iconst (v := (-1)) hx hb dL_isMost_34 (by decide) ?_
    refine lv_icmp_ne (tgt := 42) hx hb dL_isMost_35 (by decide) (fun h9 => absurd (ms_eq c_24) h9) (fun c_35 => ?_)
    refine lv_iconst (v := 1) hx hb dL_isMost_38 (by decide) ?_
    refine lv_goto (tgt := 43) hx hb dL_isMost_39 (by decide) ?_
    exact retS1 hx hb hr hlocks hP hS dL_isMost_43 ⟨rfl, v.mono (by omega) (by omega), rfl⟩
set_option maxHeartbeats 4000000 in
set_option maxRecDepth 100000 in
theorem c_L_isEnded {l : Launch} {D : va_G} {cI cR : ClassId} {ad : Nat → Nat} (hdj : Dj 236 ad) (X : St) {K : Int} (v : GX K X) (hB : K ≤ 10000000) : WoS l D cI cR ad X yL_isEnded wsL_isEnded ({ frames := 6, cells := 0, slots := 0, locals := 171 } : Room) [.ref (ad 233)] (fun r Z => r = 1 ∧ GX (K + 100000) Z ∧ Z 0 = X 0) := by
  refine OfW (cc := cL_isEnded) (maxL := 7) (ret := (some .boolean)) (by decide +kernel) rfl (Nat.le_of_ble_eq_true rfl) (fun p e s m below meth c hx hb hr hts hown hlocks hml hnm hP hK hN ls hl => ?_)
  have hl : lv_has ls 7 [(0, .ref (ad 233))] := hl
  have hS : va_S (Aw 236 ad) s.heap s.heap [] := va_S.rf
  have hP : va_P D vwCl (wC cI cR ad X) s.heap := hP
  have g := v.gd
  have o := g.1
  refine lv_aload_n hx hb dL_isEnded_0 rfl (lv_at hl 0 rfl) ?_
  refine lv_iconst (v := 0) hx hb dL_isEnded_1 (by decide) ?_
  refine callE (As := [.int 0]) (rest := []) ⟨hx, hb, hml, hown, hts⟩ (c_X5_count X 0) (cwV 1 hts gL_isEnded_X5_count rfl rfl rfl (by decide +kernel) ⟨Nat.le_of_ble_eq_true rfl, Nat.le_of_ble_eq_true rfl⟩) hK hN hP 233 g0_233 rfl rfl hl.1 rfl (Nat.le_of_ble_eq_true rfl) dL_isEnded_2 ⟨Nat.zero_le _, Nat.zero_le _⟩ ?_
  refine lv_bipush (v := 99) hx hb dL_isEnded_5 (by decide) ?_
  refine lv_icmp_ne (tgt := 25) hx hb dL_isEnded_7 (by decide) (fun c_7 => ?_) (fun c_7 => ?_)
  · refine lv_aload_n hx hb dL_isEnded_25 rfl (lv_at hl 0 rfl) ?_
    refine callSL (As := [.ref (ad 233)]) (rest := []) ⟨hx, hb, hml, hown, hts⟩ (c_L_all X o) (va_cwS 1 hts gL_isEnded_L_all rfl rfl rfl (by decide +kernel) ⟨Nat.le_of_ble_eq_true rfl, Nat.le_of_ble_eq_true rfl⟩) hK hN hP rfl hl.1 rfl (Nat.le_of_ble_eq_true rfl) dL_isEnded_26 ⟨Nat.zero_le _, Nat.zero_le _⟩ ?_
    refine lv_lstore_n (lv' := [(1, .long (h_all (X 0))), (0, .ref (ad 233))]) hx hb dL_isEnded_29 rfl hl (by decide) rfl (fun ls hl => ?_)
    refine lv_aload_n hx hb dL_isEnded_30 rfl (lv_at hl 1 rfl) ?_
    refine lv_iconst (v := 0) hx hb dL_isEnded_31 (by decide) ?_
    refine callE (As := [.int 0]) (rest := []) ⟨hx, hb, hml, hown, hts⟩ (c_X5_wouldLapse X 0) (cwV 1 hts gL_isEnded_X5_wouldLapse rfl rfl rfl (by decide +kernel) ⟨Nat.le_of_ble_eq_true rfl, Nat.le_of_ble_eq_true rfl⟩) hK hN hP 233 g0_233 rfl rfl hl.1 rfl (Nat.le_of_ble_eq_true rfl) dL_isEnded_32 ⟨Nat.zero_le _, Nat.zero_le _⟩ ?_
    refine lv_istore_n (lv' := [(3, .int (v_lapse (X 0) 0)), (1, .long (h_all (X 0))), (0, .ref (ad 233))]) hx hb dL_isEnded_35 rfl hl (by decide) rfl (fun ls hl => ?_)
    refine lv_aload_n hx hb dL_isEnded_36 rfl (lv_at hl 2 rfl) ?_
    refine lv_iconst (v := 0) hx hb dL_isEnded_37 (by decide) ?_
    refine lv_iconst (v := 3) hx hb dL_isEnded_38 (by decide) ?_
    refine callE (As := [.int 0, .int 3]) (rest := []) ⟨hx, hb, hml, hown, hts⟩ (c_X5_total X 0 3) (cwV 2 hts gL_isEnded_X5_total rfl rfl rfl (by decide +kernel) ⟨Nat.le_of_ble_eq_true rfl, Nat.le_of_ble_eq_true rfl⟩) hK hN hP 233 g0_233 rfl rfl hl.1 rfl (Nat.le_of_ble_eq_true rfl) dL_isEnded_39 ⟨Nat.zero_le _, Nat.zero_le _⟩ ?_
    refine lv_istore (lv' := [(4, .int (v_total (X 0) 0 3)), (3, .int (v_lapse (X 0) 0)), (1, .long (h_all (X 0))), (0, .ref (ad 233))]) hx hb dL_isEnded_42 hl (by decide) rfl (fun ls hl => ?_)
    refine lv_aload_n hx hb dL_isEnded_44 rfl (lv_at hl 3 rfl) ?_
    refine lv_iconst (v := 0) hx hb dL_isEnded_45 (by decide) ?_
    refine lv_iconst (v := 1) hx hb dL_isEnded_46 (by decide) ?_
    refine callE (As := [.int 0, .int 1]) (rest := []) ⟨hx, hb, hml, hown, hts⟩ (c_X5_total X 0 1) (cwV 2 hts gL_isEnded_X5_total rfl rfl rfl (by decide +kernel) ⟨Nat.le_of_ble_eq_true rfl, Nat.le_of_ble_eq_true rfl⟩) hK hN hP 233 g0_233 rfl rfl hl.1 rfl (Nat.le_of_ble_eq_true rfl) dL_isEnded_47 ⟨Nat.zero_le _, Nat.zero_le _⟩ ?_
    refine lv_istore (lv' := [(5, .int (v_total (X 0) 0 1)), (4, .int (v_total (X 0) 0 3)), (3, .int (v_lapse (X 0) 0)), (1, .long (h_all (X 0))), (0, .ref (ad 233))]) hx hb dL_isEnded_50 hl (by decide) rfl (fun ls hl => ?_)
    refine lv_aload_n hx hb dL_isEnded_52 rfl (lv_at hl 4 rfl) ?_
    refine lv_bipush (v := 7) hx hb dL_isEnded_53 (by decide) ?_
    refine callE (As := [.int 7]) (rest := []) ⟨hx, hb, hml, hown, hts⟩ (c_X5_count X 7) (cwV 1 hts gL_isEnded_X5_count rfl rfl rfl (by decide +kernel) ⟨Nat.le_of_ble_eq_true rfl, Nat.le_of_ble_eq_true rfl⟩) hK hN hP 233 g0_233 rfl rfl hl.1 rfl (Nat.le_of_ble_eq_true rfl) dL_isEnded_55 ⟨Nat.zero_le _, Nat.zero_le _⟩ ?_
    refine lv_istore (lv' := [(6, .int (v_count (X 0) (X 14 0 1) 7)), (5, .int (v_total (X 0) 0 1)), (4, .int (v_total (X 0) 0 3)), (3, .int (v_lapse (X 0) 0)), (1, .long (h_all (X 0))), (0, .ref (ad 233))]) hx hb dL_isEnded_58 hl (by decide) rfl (fun ls hl => ?_)
    refine lv_aload_n hx hb dL_isEnded_60 rfl (lv_at hl 5 rfl) ?_
    refine callWE (As := []) (rest := []) ⟨hx, hb, hml, hown, hts⟩ (c_X5_endYear hdj X) (cwV 0 hts gL_isEnded_X5_endYear rfl rfl rfl (by decide +kernel) ⟨Nat.le_of_ble_eq_true rfl, Nat.le_of_ble_eq_true rfl⟩) hK hN hP 233 g0_233 rfl rfl hl.1 rfl (Nat.le_of_ble_eq_true rfl) dL_isEnded_61 ⟨Nat.zero_le _, Nat.zero_le _⟩ hS (fun _ h9 => h9) (fun H locs hP hS _ _ => ?_)
    obtain ⟨X_1, eX_1⟩ : ∃ Zn : St, Zn = opX X (g_endYear (X 0)) 9 (-9) (-9) 0 (n_endYear (X 0)) := ⟨_, rfl⟩
    rw [← eX_1] at hP
    have gg := en_g o c_7
    have c9 : ¬ X 0 14 0 = 99 := fun z => c_7 (vc_0.trans z)
    have e1 : X_1 0 = n_endYear (X 0) := by rw [eX_1, opX_0 gg]; exact sg_g _ _ _
    have w1 : GX (K + 100000) X_1 ∧ 0 ≤ (R_undo X_1).toInt ∧ (N_undo X_1) 0 = X 0 := by rw [eX_1, opX_0 gg]; exact v.op (by omega) (Gd_mono (by omega) (by omega) (gd_endYear g c9)) (by decide) (fun z => absurd z (by decide))
    refine lv_iload_n hx hb dL_isEnded_64 rfl (lv_at hl 3 rfl) ?_
    refine lv_icmp_ne (tgt := 130) hx hb dL_isEnded_65 (by decide) (fun h9 => absurd (by rw [opV_0 gg]; exact (lapse_e o).symm) h9) (fun c_65 => ?_)
    refine lv_aload_n hx hb dL_isEnded_68 rfl (lv_at hl 5 rfl) ?_
    refine lv_iconst (v := 0) hx hb dL_isEnded_69 (by decide) ?_
    refine lv_iconst (v := 3) hx hb dL_isEnded_70 (by decide) ?_
    refine callE (As := [.int 0, .int 3]) (rest := []) ⟨hx, hb, hml, hown, hts⟩ (c_X5_total X_1 0 3) (cwV 2 hts gL_isEnded_X5_total rfl rfl rfl (by decide +kernel) ⟨Nat.le_of_ble_eq_true rfl, Nat.le_of_ble_eq_true rfl⟩) hK hN hP 233 g0_233 rfl rfl hl.1 rfl (Nat.le_of_ble_eq_true rfl) dL_isEnded_71 ⟨Nat.zero_le _, Nat.zero_le _⟩ ?_
    refine lv_iload hx hb dL_isEnded_74 (lv_at hl 2 rfl) ?_
    refine lv_iload_n hx hb dL_isEnded_76 rfl (lv_at hl 3 rfl) ?_
    refine lv_isub hx hb dL_isEnded_77 ?_
    refine lv_icmp_ne (tgt := 130) hx hb dL_isEnded_78 (by decide) (fun h9 => absurd (en_2 g c_7 e1) h9) (fun c_78 => ?_)
    refine lv_aload_n hx hb dL_isEnded_81 rfl (lv_at hl 5 rfl) ?_
    refine lv_iconst (v := 0) hx hb dL_isEnded_82 (by decide) ?_
    refine lv_iconst (v := 1) hx hb dL_isEnded_83 (by decide) ?_
    refine callE (As := [.int 0, .int 1]) (rest := []) ⟨hx, hb, hml, hown, hts⟩ (c_X5_total X_1 0 1) (cwV 2 hts gL_isEnded_X5_total rfl rfl rfl (by decide +kernel) ⟨Nat.le_of_ble_eq_true rfl, Nat.le_of_ble_eq_true rfl⟩) hK hN hP 233 g0_233 rfl rfl hl.1 rfl (Nat.le_of_ble_eq_true rfl) dL_isEnded_84 ⟨Nat.zero_le _, Nat.zero_le _⟩ ?_
    refine lv_iload hx hb dL_isEnded_87 (lv_at hl 1 rfl) ?_
    refine lv_icmp_ne (tgt := 130) hx hb dL_isEnded_89 (by decide) (fun h9 => absurd (en_3 g c_7 e1) h9) (fun c_89 => ?_)
    refine lv_aload_n hx hb dL_isEnded_92 rfl (lv_at hl 5 rfl) ?_
    refine lv_iconst (v := 0) hx hb dL_isEnded_93 (by decide) ?_
    refine lv_iconst (v := 2) hx hb dL_isEnded_94 (by decide) ?_
    refine callE (As := [.int 0, .int 2]) (rest := []) ⟨hx, hb, hml, hown, hts⟩ (c_X5_total X_1 0 2) (cwV 2 hts gL_isEnded_X5_total rfl rfl rfl (by decide +kernel) ⟨Nat.le_of_ble_eq_true rfl, Nat.le_of_ble_eq_true rfl⟩) hK hN hP 233 g0_233 rfl rfl hl.1 rfl (Nat.le_of_ble_eq_true rfl) dL_isEnded_95 ⟨Nat.zero_le _, Nat.zero_le _⟩ ?_
    refine lv_if_ne (tgt := 130) hx hb dL_isEnded_98 (by decide) (fun h9 => absurd (en_4 g c_7 e1) h9) (fun c_98 => ?_)
    refine lv_aload_n hx hb dL_isEnded_101 rfl (lv_at hl 5 rfl) ?_
    refine lv_iconst (v := 0) hx hb dL_isEnded_102 (by decide) ?_
    refine lv_iconst (v := 0) hx hb dL_isEnded_103 (by decide) ?_
    refine callE (As := [.int 0, .int 0]) (rest := []) ⟨hx, hb, hml, hown, hts⟩ (c_X5_total X_1 0 0) (cwV 2 hts gL_isEnded_X5_total rfl rfl rfl (by decide +kernel) ⟨Nat.le_of_ble_eq_true rfl, Nat.le_of_ble_eq_true rfl⟩) hK hN hP 233 g0_233 rfl rfl hl.1 rfl (Nat.le_of_ble_eq_true rfl) dL_isEnded_104 ⟨Nat.zero_le _, Nat.zero_le _⟩ ?_
    refine lv_iload hx hb dL_isEnded_107 (lv_at hl 1 rfl) ?_
    refine lv_iload hx hb dL_isEnded_109 (lv_at hl 2 rfl) ?_
    refine lv_iadd hx hb dL_isEnded_111 ?_
    refine lv_iload_n hx hb dL_isEnded_112 rfl (lv_at hl 3 rfl) ?_
    refine lv_isub hx hb dL_isEnded_113 ?_
    refine lv_icmp_ne (tgt := 130) hx hb dL_isEnded_114 (by decide) (fun h9 => absurd (en_5 g c_7 e1) h9) (fun c_114 => ?_)
    refine lv_aload_n hx hb dL_isEnded_117 rfl (lv_at hl 5 rfl) ?_
    refine lv_bipush (v := 7) hx hb dL_isEnded_118 (by decide) ?_
    refine callE (As := [.int 7]) (rest := []) ⟨hx, hb, hml, hown, hts⟩ (c_X5_count X_1 7) (cwV 1 hts gL_isEnded_X5_count rfl rfl rfl (by decide +kernel) ⟨Nat.le_of_ble_eq_true rfl, Nat.le_of_ble_eq_true rfl⟩) hK hN hP 233 g0_233 rfl rfl hl.1 rfl (Nat.le_of_ble_eq_true rfl) dL_isEnded_120 ⟨Nat.zero_le _, Nat.zero_le _⟩ ?_
    refine lv_iload hx hb dL_isEnded_123 (lv_at hl 0 rfl) ?_
    refine lv_iload_n hx hb dL_isEnded_125 rfl (lv_at hl 3 rfl) ?_
    refine lv_iadd hx hb dL_isEnded_126 ?_
    refine lv_icmp_eq (tgt := 132) hx hb dL_isEnded_127 (by decide) (fun c_127 => ?_) (fun h9 => absurd (en_6 o e1) h9)
    refine lv_aload_n hx hb dL_isEnded_132 rfl (lv_at hl 5 rfl) ?_
    refine callWE (As := []) (rest := []) ⟨hx, hb, hml, hown, hts⟩ (c_X5_undo hdj X_1) (cwV 0 hts gL_isEnded_X5_undo rfl rfl rfl (by decide +kernel) ⟨Nat.le_of_ble_eq_true rfl, Nat.le_of_ble_eq_true rfl⟩) hK hN hP 233 g0_233 rfl rfl hl.1 rfl (Nat.le_of_ble_eq_true rfl) dL_isEnded_133 ⟨Nat.zero_le _, Nat.zero_le _⟩ hS (fun _ h9 => h9) (fun H locs hP hS _ _ => ?_)
    obtain ⟨X_2, eX_2⟩ : ∃ Zn : St, Zn = N_undo X_1 := ⟨_, rfl⟩
    rw [← eX_2] at hP
    have hz2 : X_2 0 = X 0 := by rw [eX_2]; exact w1.2.2
    have hg2 : GX (K + 100000) X_2 := by rw [eX_2]; exact w1.1.undo
    refine lv_if_lt (tgt := 152) hx hb dL_isEnded_136 (by decide) (fun h9 => absurd h9 (by rw [i3_lt, t_0]; have h7 := w1.2.1; omega)) (fun c_136 => ?_)
    refine lv_aload_n hx hb dL_isEnded_139 rfl (lv_at hl 5 rfl) ?_
    refine callSL (As := [.ref (ad 233)]) (rest := []) ⟨hx, hb, hml, hown, hts⟩ (c_L_all X_2 hg2.gd.1) (va_cwS 1 hts gL_isEnded_L_all rfl rfl rfl (by decide +kernel) ⟨Nat.le_of_ble_eq_true rfl, Nat.le_of_ble_eq_true rfl⟩) hK hN hP rfl hl.1 rfl (Nat.le_of_ble_eq_true rfl) dL_isEnded_140 ⟨Nat.zero_le _, Nat.zero_le _⟩ ?_
    refine lv_lload_n hx hb dL_isEnded_143 rfl (lv_at hl 4 rfl) ?_
    refine W.lcmp hx hb dL_isEnded_144 ?_
    rw [hz2, lg_00]
    refine lv_if_ne (tgt := 152) hx hb dL_isEnded_145 (by decide) (fun h9 => absurd (by decide) h9) (fun _ => ?_)
    refine lv_iconst (v := 1) hx hb dL_isEnded_148 (by decide) ?_
    refine lv_goto (tgt := 153) hx hb dL_isEnded_149 (by decide) ?_
    exact retS1 hx hb hr hlocks hP hS dL_isEnded_153 ⟨rfl, hg2, hz2⟩
  · refine lv_aload_n hx hb dL_isEnded_10 rfl (lv_at hl 0 rfl) ?_
    refine callWE (As := []) (rest := []) ⟨hx, hb, hml, hown, hts⟩ (c_X5_endYear hdj X) (cwV 0 hts gL_isEnded_X5_endYear rfl rfl rfl (by decide +kernel) ⟨Nat.le_of_ble_eq_true rfl, Nat.le_of_ble_eq_true rfl⟩) hK hN hP 233 g0_233 rfl rfl hl.1 rfl (Nat.le_of_ble_eq_true rfl) dL_isEnded_11 ⟨Nat.zero_le _, Nat.zero_le _⟩ hS (fun _ h9 => h9) (fun H locs hP hS _ _ => ?_)
    obtain ⟨X_3, eX_3⟩ : ∃ Zn : St, Zn = opX X (g_endYear (X 0)) 9 (-9) (-9) 0 (n_endYear (X 0)) := ⟨_, rfl⟩
    rw [← eX_3] at hP
    have e3 : X_3 = X := by rw [eX_3]; exact opX_e (en_0 o c_7) (by decide)
    rw [e3] at hP
    refine lv_bipush (v := (-2)) hx hb dL_isEnded_14 (by decide) ?_
    refine lv_icmp_ne (tgt := 23) hx hb dL_isEnded_16 (by decide) (fun h9 => absurd ((opV_e (en_0 o c_7) (by decide)).symm) h9) (fun c_16 => ?_)
    refine lv_iconst (v := 1) hx hb dL_isEnded_19 (by decide) ?_
    refine lv_goto (tgt := 24) hx hb dL_isEnded_20 (by decide) ?_
    exact retS1 hx hb hr hlocks hP hS dL_isEnded_24 ⟨rfl, v.mono (by omega) (by omega), rfl⟩
