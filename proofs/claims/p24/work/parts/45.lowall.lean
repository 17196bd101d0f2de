/-! THE LAW's cell (an int, whatever it is), its low and its all -/
set_option maxHeartbeats 4000000 in
set_option maxRecDepth 100000 in
theorem c_L_cell {l : Launch} {b L : Nat} {xs : Nat → Int32} {k : Int32} (hk : 0 ≤ k.toInt) (hL : L ≤ 260) : Met l yL_cell wsL_cell ({ frames := 0, cells := 0, slots := 0, locals := 0 } : Room) (Px b L xs [.ref b, .int k]) (vp_Si (fun _ => True)) 0 0 (fun _ => False) := by
  refine OfX (cc := cL_cell) (maxL := 2) (ret := (some .int)) (by decide +kernel) rfl (Nat.le_of_ble_eq_true rfl) (fun p e s m below meth c hx hb hr hts hown hlocks hml hX hbl ls hl => ?_)
  have hl : lv_has ls 2 [(0, .ref b), (1, .int k)] := hl
  have hbA : ¬ (fun _ : Nat => False) b := fun z => z
  have hS : va_S (fun _ => False) s.heap s.heap [] := va_S.rf
  refine lv_iload_n hx hb dL_cell_0 rfl (lv_at hl 1 rfl) ?_
  refine lv_aload_n hx hb dL_cell_1 rfl (lv_at hl 0 rfl) ?_
  refine va_slen hx hb hX hbl hbA hS dL_cell_2 ?_
  refine lv_icmp_ge (tgt := 12) hx hb dL_cell_3 (by decide) (fun c_3 => ?_) (fun c_3 => ?_)
  · refine lv_sipush (v := 7919) hx hb dL_cell_12 (by decide) ?_
    refine lv_iload_n hx hb dL_cell_15 rfl (lv_at hl 1 rfl) ?_
    refine lv_bipush (v := 9) hx hb dL_cell_16 (by decide) ?_
    refine lv_iadd hx hb dL_cell_18 ?_
    refine lv_imul hx hb dL_cell_19 ?_
    refine lv_iload_n hx hb dL_cell_20 rfl (lv_at hl 1 rfl) ?_
    refine lv_bipush (v := 31) hx hb dL_cell_21 (by decide) ?_
    refine lv_iadd hx hb dL_cell_23 ?_
    refine lv_imul hx hb dL_cell_24 ?_
    exact retP hx hb hr hlocks dL_cell_25 trivial
  · have hin : vp_in k L := vp_in_iff.mpr ⟨hk, by
      rw [show Int32.ofNat L = nI L from rfl, i3_le, nI_toInt (by omega)] at c_3
      omega⟩
    refine lv_aload_n hx hb dL_cell_6 rfl (lv_at hl 0 rfl) ?_
    refine lv_iload_n hx hb dL_cell_7 rfl (lv_at hl 1 rfl) ?_
    refine va_sld hx hb hX hbl hbA hS hin dL_cell_8 ?_
    refine lv_goto (tgt := 25) hx hb dL_cell_9 (by decide) ?_
    exact retP hx hb hr hlocks dL_cell_25 trivial
set_option maxHeartbeats 4000000 in
set_option maxRecDepth 100000 in
theorem c_L_low {l : Launch} {D : va_G} {cI cR : ClassId} (v : Int32) (n : Int32) (hn : 0 < n.toInt) : RoP l D cI cR ([]) yL_low wsL_low ({ frames := 0, cells := 0, slots := 0, locals := 0 } : Room) [.int v, .int n] (fun r => 0 ≤ r.toInt ∧ r.toInt < n.toInt) := by
  refine OfW (cc := cL_low) (maxL := 2) (ret := (some .int)) (by decide +kernel) rfl (Nat.le_of_ble_eq_true rfl) (fun p e s m below meth c hx hb hr hts hown hlocks hml hnm hP hK hN ls hl => ?_)
  have hl : lv_has ls 2 [(0, .int v), (1, .int n)] := hl
  refine lv_iload_n hx hb dL_low_0 rfl (lv_at hl 0 rfl) ?_
  refine lv_ldc (v := 2147483647) hx hb hown (hts (.constant RL 7 2147483647) (by decide +kernel)) dL_low_1 ?_
  refine lv_iand hx hb dL_low_3 ?_
  refine lv_iload_n hx hb dL_low_4 rfl (lv_at hl 1 rfl) ?_
  refine lv_irem hx hb dL_low_5 (low_nz hn) ?_
  exact retP hx hb hr hlocks dL_low_6 (low_t hn)
set_option maxHeartbeats 4000000 in
set_option maxRecDepth 100000 in
theorem c_L_all {l : Launch} {D : va_G} {cI cR : ClassId} {ad : Nat → Nat} (X : St) {K : Int} (o : Ok K (X 0)) : RoL l D cI cR (wC cI cR ad X) yL_all wsL_all ({ frames := 5, cells := 0, slots := 0, locals := 109 } : Room) [.ref (ad 233)] (h_all (X 0)) := by
  refine OfW (cc := cL_all) (maxL := 5) (ret := (some .long)) (by decide +kernel) rfl (Nat.le_of_ble_eq_true rfl) (fun p e s m below meth c hx hb hr hts hown hlocks hml hnm hP hK hN ls hl => ?_)
  have hl : lv_has ls 5 [(0, .ref (ad 233))] := hl
  refine lv_ldc2 (v := 29) hx hb hown (hts (.constantLong RL 8 29) (by decide +kernel)) dL_all_0 ?_
  refine lv_lstore_n (lv' := [(1, .long 29), (0, .ref (ad 233))]) hx hb dL_all_3 rfl hl (by decide) rfl (fun ls hl => ?_)
  refine lv_iconst (v := 0) hx hb dL_all_4 (by decide) ?_
  refine lv_istore_n (lv' := [(3, .int 0), (1, .long 29), (0, .ref (ad 233))]) hx hb dL_all_5 rfl hl (by decide) rfl (fun ls hl => ?_)
  have hloop_6 : ∀ (n_6 : Nat) (k : Nat) (z : Int64) (xk : Int32), k ≤ 9 → 9 < k + n_6 → xk = nI k → z = h_a (X 0) k → ∀ ls : Array Slot, lv_has ls 5 [(0, .ref (ad 233)), (1, .long z), (3, .int xk)] → W p l e ({ frames := 5, cells := 0, slots := 0, locals := 109 } : Room) s m ([.ref (ad 233)]).toArray below meth c s.heap [] 0 0 (MQ below (vp_Sl (fun r => r = h_all (X 0))) ([.ref (ad 233)]).toArray s 0 0 (fun _ => False)) (F0 m 6 ls []) := by
    intro n_6
    induction n_6 with
    | zero =>
      intro k z xk hk hn ek ez ls hl
      exfalso; omega
    | succ n_6 ih_6 =>
      intro k z xk hk hn ek ez ls hl
      refine lv_iload_n hx hb dL_all_6 rfl (lv_at hl 2 rfl) ?_
      refine lv_bipush (v := 9) hx hb dL_all_7 (by decide) ?_
      refine lv_icmp_ge (tgt := 31) hx hb dL_all_9 (by decide) (fun c_9 => ?_) (fun c_9 => ?_)
      · have hk2 : k = 9 := lp_9e ek hk c_9
        subst hk2
        refine lv_iconst (v := 0) hx hb dL_all_31 (by decide) ?_
        refine lv_istore_n (lv' := [(3, .int 0), (0, .ref (ad 233)), (1, .long z)]) hx hb dL_all_32 rfl hl (by decide) rfl (fun ls hl => ?_)
        have hloop_33 : ∀ (n_33 : Nat) (h : Nat) (z : Int64) (xh : Int32), h ≤ md (X 0) → md (X 0) < h + n_33 → xh = nI h → z = h_c (X 0) h → ∀ ls : Array Slot, lv_has ls 5 [(0, .ref (ad 233)), (1, .long z), (3, .int xh)] → W p l e ({ frames := 5, cells := 0, slots := 0, locals := 109 } : Room) s m ([.ref (ad 233)]).toArray below meth c s.heap [] 0 0 (MQ below (vp_Sl (fun r => r = h_all (X 0))) ([.ref (ad 233)]).toArray s 0 0 (fun _ => False)) (F0 m 33 ls []) := by
          intro n_33
          induction n_33 with
          | zero =>
            intro h z xh hh hn eh ez ls hl
            exfalso; omega
          | succ n_33 ih_33 =>
            intro h z xh hh hn eh ez ls hl
            refine lv_iload_n hx hb dL_all_33 rfl (lv_at hl 2 rfl) ?_
            refine lv_aload_n hx hb dL_all_34 rfl (lv_at hl 0 rfl) ?_
            refine lv_iconst (v := 1) hx hb dL_all_35 (by decide) ?_
            refine callE (As := [.int 1]) (rest := [.int xh]) ⟨hx, hb, hml, hown, hts⟩ (c_X5_count X 1) (cwV 1 hts gL_all_X5_count rfl rfl rfl (by decide +kernel) ⟨Nat.le_of_ble_eq_true rfl, Nat.le_of_ble_eq_true rfl⟩) hK hN hP 233 g0_233 rfl rfl hl.1 rfl (Nat.le_of_ble_eq_true rfl) dL_all_36 ⟨Nat.zero_le _, Nat.zero_le _⟩ ?_
            refine lv_icmp_ge (tgt := 92) hx hb dL_all_39 (by decide) (fun c_39 => ?_) (fun c_39 => ?_)
            · have hk3 : h = md (X 0) := lp_he o eh hh c_39
              subst hk3
              refine lv_iconst (v := 0) hx hb dL_all_92 (by decide) ?_
              refine lv_istore_n (lv' := [(3, .int 0), (0, .ref (ad 233)), (1, .long z)]) hx hb dL_all_93 rfl hl (by decide) rfl (fun ls hl => ?_)
              have hloop_94 : ∀ (n_94 : Nat) (k : Nat) (z : Int64) (xk : Int32), k ≤ 4 * mc (X 0) → 4 * mc (X 0) < k + n_94 → xk = nI k → z = h_d (X 0) k → ∀ ls : Array Slot, lv_has ls 5 [(0, .ref (ad 233)), (1, .long z), (3, .int xk)] → W p l e ({ frames := 5, cells := 0, slots := 0, locals := 109 } : Room) s m ([.ref (ad 233)]).toArray below meth c s.heap [] 0 0 (MQ below (vp_Sl (fun r => r = h_all (X 0))) ([.ref (ad 233)]).toArray s 0 0 (fun _ => False)) (F0 m 94 ls []) := by
                intro n_94
                induction n_94 with
                | zero =>
                  intro k z xk hk hn ek ez ls hl
                  exfalso; omega
                | succ n_94 ih_94 =>
                  intro k z xk hk hn ek ez ls hl
                  refine lv_iload_n hx hb dL_all_94 rfl (lv_at hl 2 rfl) ?_
                  refine lv_iconst (v := 4) hx hb dL_all_95 (by decide) ?_
                  refine lv_aload_n hx hb dL_all_96 rfl (lv_at hl 0 rfl) ?_
                  refine lv_iconst (v := 2) hx hb dL_all_97 (by decide) ?_
                  refine callE (As := [.int 2]) (rest := [.int 4, .int xk]) ⟨hx, hb, hml, hown, hts⟩ (c_X5_count X 2) (cwV 1 hts gL_all_X5_count rfl rfl rfl (by decide +kernel) ⟨Nat.le_of_ble_eq_true rfl, Nat.le_of_ble_eq_true rfl⟩) hK hN hP 233 g0_233 rfl rfl hl.1 rfl (Nat.le_of_ble_eq_true rfl) dL_all_98 ⟨Nat.zero_le _, Nat.zero_le _⟩ ?_
                  refine lv_imul hx hb dL_all_101 ?_
                  refine lv_icmp_ge (tgt := 129) hx hb dL_all_102 (by decide) (fun c_102 => ?_) (fun c_102 => ?_)
                  · have hk5 : k = 4 * mc (X 0) := lp_de o ek hk c_102
                    subst hk5
                    refine lv_lload_n hx hb dL_all_129 rfl (lv_at hl 1 rfl) ?_
                    exact retL hx hb hr hlocks dL_all_130 ez
                  · have hlk := lp_d o ek hk c_102
                    refine lv_ldc2 (v := 31) hx hb hown (hts (.constantLong RL 10 31) (by decide +kernel)) dL_all_105 ?_
                    refine lv_lload_n hx hb dL_all_108 rfl (lv_at hl 1 rfl) ?_
                    refine lv_lmul hx hb dL_all_109 ?_
                    refine lv_aload_n hx hb dL_all_110 rfl (lv_at hl 0 rfl) ?_
                    refine lv_iload_n hx hb dL_all_111 rfl (lv_at hl 2 rfl) ?_
                    refine lv_iconst (v := 4) hx hb dL_all_112 (by decide) ?_
                    refine lv_idiv hx hb dL_all_113 (by decide) ?_
                    refine lv_iload_n hx hb dL_all_114 rfl (lv_at hl 2 rfl) ?_
                    refine lv_iconst (v := 4) hx hb dL_all_115 (by decide) ?_
                    refine lv_irem hx hb dL_all_116 (by decide) ?_
                    refine callE (As := [.int (xk / 4), .int (xk - xk / 4 * 4)]) (rest := [.long (31 * z)]) ⟨hx, hb, hml, hown, hts⟩ (c_X5_commitment X (xk / 4) (xk - xk / 4 * 4)) (cwV 2 hts gL_all_X5_commitment rfl rfl rfl (by decide +kernel) ⟨Nat.le_of_ble_eq_true rfl, Nat.le_of_ble_eq_true rfl⟩) hK hN hP 233 g0_233 rfl rfl hl.1 rfl (Nat.le_of_ble_eq_true rfl) dL_all_117 ⟨Nat.zero_le _, Nat.zero_le _⟩ ?_
                    refine lv_i2l (v := (v_comm (X 0) (xk / 4) (xk - xk / 4 * 4)).toInt64) hx hb dL_all_120 rfl ?_
                    refine lv_ladd hx hb dL_all_121 ?_
                    refine lv_lstore_n (lv' := [(1, .long ((31 * z) + ((v_comm (X 0) (xk / 4) (xk - xk / 4 * 4)).toInt64))), (0, .ref (ad 233)), (3, .int xk)]) hx hb dL_all_122 rfl hl (by decide) rfl (fun ls hl => ?_)
                    refine lv_iinc (v := xk + 1) (lv' := [(3, .int (xk + 1)), (1, .long ((31 * z) + ((v_comm (X 0) (xk / 4) (xk - xk / 4 * 4)).toInt64))), (0, .ref (ad 233))]) hx hb dL_all_123 hl (k := 2) rfl rfl (by decide) rfl (fun ls hl => ?_)
                    refine lv_goto (tgt := 94) hx hb dL_all_126 (by decide) ?_
                    exact ih_94  (k + 1) _ _ (by omega) (by omega) (by rw [ek]; exact nI_1 k) (hd_1 ek ez) _ (lv_sub hl [2, 1, 0] rfl)
              exact hloop_94  (4 * mc (X 0) + 1) 0 _ 0 (Nat.zero_le _) (by omega) rfl ez _ (lv_sub hl [1, 2, 0] rfl)
            · have hlt := lp_h o eh hh c_39
              refine lv_iconst (v := 0) hx hb dL_all_42 (by decide) ?_
              refine lv_istore (lv' := [(4, .int 0), (0, .ref (ad 233)), (1, .long z), (3, .int xh)]) hx hb dL_all_43 hl (by decide) rfl (fun ls hl => ?_)
              have hloop_45 : ∀ (n_45 : Nat) (k : Nat) (z2 : Int64) (xk : Int32), k ≤ 12 → 12 < k + n_45 → xk = nI k → z2 = h_b (X 0) xh z k → ∀ ls : Array Slot, lv_has ls 5 [(0, .ref (ad 233)), (1, .long z2), (3, .int xh), (4, .int xk)] → W p l e ({ frames := 5, cells := 0, slots := 0, locals := 109 } : Room) s m ([.ref (ad 233)]).toArray below meth c s.heap [] 0 0 (MQ below (vp_Sl (fun r => r = h_all (X 0))) ([.ref (ad 233)]).toArray s 0 0 (fun _ => False)) (F0 m 45 ls []) := by
                intro n_45
                induction n_45 with
                | zero =>
                  intro k z2 xk hk hn ek ez2 ls hl
                  exfalso; omega
                | succ n_45 ih_45 =>
                  intro k z2 xk hk hn ek ez2 ls hl
                  refine lv_iload hx hb dL_all_45 (lv_at hl 3 rfl) ?_
                  refine lv_bipush (v := 12) hx hb dL_all_47 (by decide) ?_
                  refine lv_icmp_ge (tgt := 73) hx hb dL_all_49 (by decide) (fun c_49 => ?_) (fun c_49 => ?_)
                  · have hk4 : k = 12 := lp_12e ek hk c_49
                    subst hk4
                    refine lv_ldc2 (v := 31) hx hb hown (hts (.constantLong RL 10 31) (by decide +kernel)) dL_all_73 ?_
                    refine lv_lload_n hx hb dL_all_76 rfl (lv_at hl 1 rfl) ?_
                    refine lv_lmul hx hb dL_all_77 ?_
                    refine lv_aload_n hx hb dL_all_78 rfl (lv_at hl 0 rfl) ?_
                    refine lv_iload_n hx hb dL_all_79 rfl (lv_at hl 2 rfl) ?_
                    refine callE (As := [.int xh]) (rest := [.long (31 * z2)]) ⟨hx, hb, hml, hown, hts⟩ (c_X5_wouldLapse X xh) (cwV 1 hts gL_all_X5_wouldLapse rfl rfl rfl (by decide +kernel) ⟨Nat.le_of_ble_eq_true rfl, Nat.le_of_ble_eq_true rfl⟩) hK hN hP 233 g0_233 rfl rfl hl.1 rfl (Nat.le_of_ble_eq_true rfl) dL_all_80 ⟨Nat.zero_le _, Nat.zero_le _⟩ ?_
                    refine lv_i2l (v := (v_lapse (X 0) xh).toInt64) hx hb dL_all_83 rfl ?_
                    refine lv_ladd hx hb dL_all_84 ?_
                    refine lv_lstore_n (lv' := [(1, .long ((31 * z2) + ((v_lapse (X 0) xh).toInt64))), (0, .ref (ad 233)), (3, .int xh), (4, .int xk)]) hx hb dL_all_85 rfl hl (by decide) rfl (fun ls hl => ?_)
                    refine lv_iinc (v := xh + 1) (lv' := [(3, .int (xh + 1)), (1, .long ((31 * z2) + ((v_lapse (X 0) xh).toInt64))), (0, .ref (ad 233)), (4, .int xk)]) hx hb dL_all_86 hl (k := 2) rfl rfl (by decide) rfl (fun ls hl => ?_)
                    refine lv_goto (tgt := 33) hx hb dL_all_89 (by decide) ?_
                    exact ih_33  (h + 1) _ _ (by omega) (by omega) (by rw [eh]; exact nI_1 h) (hc_1 eh ez2 ez) _ (lv_sub hl [2, 1, 0] rfl)
                  · have hlk : k < 12 := lp_12 ek hk c_49
                    refine lv_ldc2 (v := 31) hx hb hown (hts (.constantLong RL 10 31) (by decide +kernel)) dL_all_52 ?_
                    refine lv_lload_n hx hb dL_all_55 rfl (lv_at hl 1 rfl) ?_
                    refine lv_lmul hx hb dL_all_56 ?_
                    refine lv_aload_n hx hb dL_all_57 rfl (lv_at hl 0 rfl) ?_
                    refine lv_iload_n hx hb dL_all_58 rfl (lv_at hl 2 rfl) ?_
                    refine lv_iload hx hb dL_all_59 (lv_at hl 3 rfl) ?_
                    refine callE (As := [.int xh, .int xk]) (rest := [.long (31 * z2)]) ⟨hx, hb, hml, hown, hts⟩ (c_X5_head X xh xk) (cwV 2 hts gL_all_X5_head rfl rfl rfl (by decide +kernel) ⟨Nat.le_of_ble_eq_true rfl, Nat.le_of_ble_eq_true rfl⟩) hK hN hP 233 g0_233 rfl rfl hl.1 rfl (Nat.le_of_ble_eq_true rfl) dL_all_61 ⟨Nat.zero_le _, Nat.zero_le _⟩ ?_
                    refine lv_i2l (v := (v_head (X 0) xh xk).toInt64) hx hb dL_all_64 rfl ?_
                    refine lv_ladd hx hb dL_all_65 ?_
                    refine lv_lstore_n (lv' := [(1, .long ((31 * z2) + ((v_head (X 0) xh xk).toInt64))), (0, .ref (ad 233)), (3, .int xh), (4, .int xk)]) hx hb dL_all_66 rfl hl (by decide) rfl (fun ls hl => ?_)
                    refine lv_iinc (v := xk + 1) (lv' := [(4, .int (xk + 1)), (1, .long ((31 * z2) + ((v_head (X 0) xh xk).toInt64))), (0, .ref (ad 233)), (3, .int xh)]) hx hb dL_all_67 hl (k := 3) rfl rfl (by decide) rfl (fun ls hl => ?_)
                    refine lv_goto (tgt := 45) hx hb dL_all_70 (by decide) ?_
                    exact ih_45  (k + 1) _ _ (by omega) (by omega) (by rw [ek]; exact nI_1 k) (hb_1 ek ez2) _ (lv_sub hl [2, 1, 3, 0] rfl)
              exact hloop_45  13 0 z 0 (by omega) (by omega) rfl rfl _ (lv_sub hl [1, 2, 3, 0] rfl)
        exact hloop_33  (md (X 0) + 1) 0 _ 0 (Nat.zero_le _) (by omega) rfl ez _ (lv_sub hl [1, 2, 0] rfl)
      · have hlt : k < 9 := lp_9 ek hk c_9
        refine lv_ldc2 (v := 31) hx hb hown (hts (.constantLong RL 10 31) (by decide +kernel)) dL_all_12 ?_
        refine lv_lload_n hx hb dL_all_15 rfl (lv_at hl 1 rfl) ?_
        refine lv_lmul hx hb dL_all_16 ?_
        refine lv_aload_n hx hb dL_all_17 rfl (lv_at hl 0 rfl) ?_
        refine lv_iload_n hx hb dL_all_18 rfl (lv_at hl 2 rfl) ?_
        refine callE (As := [.int xk]) (rest := [.long (31 * z)]) ⟨hx, hb, hml, hown, hts⟩ (c_X5_count X xk) (cwV 1 hts gL_all_X5_count rfl rfl rfl (by decide +kernel) ⟨Nat.le_of_ble_eq_true rfl, Nat.le_of_ble_eq_true rfl⟩) hK hN hP 233 g0_233 rfl rfl hl.1 rfl (Nat.le_of_ble_eq_true rfl) dL_all_19 ⟨Nat.zero_le _, Nat.zero_le _⟩ ?_
        refine lv_i2l (v := (v_count (X 0) (X 14 0 1) xk).toInt64) hx hb dL_all_22 rfl ?_
        refine lv_ladd hx hb dL_all_23 ?_
        refine lv_lstore_n (lv' := [(1, .long ((31 * z) + ((v_count (X 0) (X 14 0 1) xk).toInt64))), (0, .ref (ad 233)), (3, .int xk)]) hx hb dL_all_24 rfl hl (by decide) rfl (fun ls hl => ?_)
        refine lv_iinc (v := xk + 1) (lv' := [(3, .int (xk + 1)), (1, .long ((31 * z) + ((v_count (X 0) (X 14 0 1) xk).toInt64))), (0, .ref (ad 233))]) hx hb dL_all_25 hl (k := 2) rfl rfl (by decide) rfl (fun ls hl => ?_)
        refine lv_goto (tgt := 6) hx hb dL_all_28 (by decide) ?_
        exact ih_6  (k + 1) _ _ (by omega) (by omega) (by rw [ek]; exact nI_1 k) (ha_1 ek hlt ez) _ (lv_sub hl [2, 1, 0] rfl)
  exact hloop_6  10 0 29 0 (by omega) (by omega) rfl rfl _ (lv_sub hl [2, 1, 0] rfl)
